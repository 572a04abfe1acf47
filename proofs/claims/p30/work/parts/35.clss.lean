theorem pO1 {S : HS} {j : Nat} (z : pOut S j = true) : mI S 104 j = 1 ∧ mR S 152 j ≠ none ∧ mI S 151 j ≠ -1 := by
  unfold pOut at z
  rw [Bool.and_eq_true, Bool.and_eq_true] at z
  exact ⟨of_decide_eq_true z.2.1, of_decide_eq_true z.1, of_decide_eq_true z.2.2⟩
theorem pO2 {S : HS} {j : Nat} (h1 : mI S 104 j = 1) (h2 : mR S 152 j ≠ none) (h3 : mI S 151 j ≠ -1) : pOut S j = true := by
  unfold pOut
  rw [decide_eq_true h1, decide_eq_true h2, decide_eq_true h3]; rfl
theorem m12 {S T : HS} (k : Kq (hidV false) hiH (hidR false) S T) : Kq (hidV true) hiP (hidR true) S T := k.le (fun t i h => by unfold hidV at h ⊢; rw [Bool.or_eq_false_iff] at h ⊢; exact ⟨h.1, rfl⟩) (fun f i h => (Bool.or_eq_false_iff.mp h).2) (fun t i h => by unfold hidR at h ⊢; rw [Bool.or_eq_false_iff] at h ⊢; exact ⟨h.1, rfl⟩)
theorem ff_of {a b : Bool} (h : a = true → b = true) (z : b = false) : a = false := by
  cases a with
  | false => rfl
  | true => rw [h rfl] at z; exact absurd z (by decide)
theorem Kq.cB {S T : HS} (k : Keep S T) : KeepB S T := k.le (fun t i => ff_of clsT_of) (fun f i => ff_of clsB_of) (fun f i => ff_of clsR_of)
theorem Kq.pB {S T : HS} (k : KeepP S T) : KeepB S T := k.le (fun t i => ff_of clsT_of) (fun f i => ff_of clsB_p) (fun f i => ff_of clsR_of)
theorem Kq.rB {S T : HS} (k : KeepR S T) : KeepRB S T := k.le (fun t i => ff_of refU_of) (fun f i => ff_of refB_of) (fun _ _ z => z)
theorem Kq.rpB {S T : HS} (k : KeepRP S T) : KeepRB S T := k.le (fun t i => ff_of refU_of) (fun f i => ff_of refB_p) (fun _ _ z => z)
theorem m2k {S T : HS} (k : Kq (hidV true) hiP (hidR true) S T) : KeepP S T := k.le (fun t i => ff_of fun e => by
    have z : (t = 30 ∧ i = 5) ∨ t = 6 := by simpa [hidV] using e
    rcases z with ⟨rfl, rfl⟩ | rfl
    · decide
    · rfl) (fun f i => ff_of fun e => by
    have z : f = 164 ∨ f = 50 ∨ f = 51 ∨ f / 16 = 6 ∨ f = 67 ∨ f = 68 ∨ f = 69 ∨ ((f = 272 ∨ f = 274) ∧ i = 5) := by simpa [hiP, hiH] using e
    rcases z with rfl | rfl | rfl | z | rfl | rfl | rfl | ⟨rfl | rfl, rfl⟩
    · rfl
    · rfl
    · rfl
    · have e1 : clsX f = false := clsX_f (by omega)
      unfold clsP
      rw [z, e1]; rfl
    · rfl
    · rfl
    · rfl
    · rfl
    · rfl) (fun f i => ff_of fun e => by
    have z : (f = 273 ∧ i = 5) ∨ f = 152 ∨ f / 16 = 6 := by simpa [hidR] using e
    rcases z with ⟨rfl, rfl⟩ | rfl | z
    · rfl
    · rfl
    · have e1 : (f == 145) = false := by
        have h5 : f ≠ 145 := by omega
        simp [h5]
      unfold clsS
      rw [z, e1]; rfl)
theorem m1k {S T : HS} (k : Kq (hidV false) hiH (hidR false) S T) : Keep S T := k.le (fun t i => ff_of fun e => by
    have z : t = 30 ∧ i = 5 := by simpa [hidV] using e
    obtain ⟨rfl, rfl⟩ := z
    decide) (fun f i => ff_of fun e => by
    have z : f = 50 ∨ f = 51 ∨ f / 16 = 6 ∨ f = 67 ∨ f = 68 ∨ f = 69 ∨ ((f = 272 ∨ f = 274) ∧ i = 5) := by simpa [hiH] using e
    rcases z with rfl | rfl | z | rfl | rfl | rfl | ⟨rfl | rfl, rfl⟩
    · rfl
    · rfl
    · have e1 : clsX f = false := clsX_f (by omega)
      unfold clsI
      rw [z, e1]; rfl
    · rfl
    · rfl
    · rfl
    · rfl
    · rfl) (fun f i => ff_of fun e => by
    have z : f = 273 ∧ i = 5 := by simpa [hidR] using e
    obtain ⟨rfl, rfl⟩ := z
    rfl)
/-- a report that waits -/
def pW (S : HS) (j : Nat) : Bool := decide (mR S 152 j ≠ none) && decide (mI S 104 j = 0)
def usd (S : HS) (nt : Nat) : Nat := cntB (fun j => !(pW S j)) nt
theorem usd_le (S : HS) (nt : Nat) : usd S nt ≤ nt := cntB_le _ nt
theorem usd_lt {S : HS} {nt j : Nat} (hj : j < nt) (h : pW S j = true) : usd S nt + 1 ≤ nt := by
  have z := cntB_lt (p := fun j => !(pW S j)) (q := fun _ => true) nt (fun _ _ _ => rfl) j hj (by show (!(pW S j)) = false; rw [h]; rfl) rfl
  exact Nat.le_trans z (cntB_le _ nt)
theorem usd_s {S T : HS} {nt j : Nat} (hj : j < nt) (h : pW S j = true) (e152 : ∀ i, mR T 152 i = mR S 152 i) (e104 : ∀ i, mI T 104 i = if i = j then 1 else mI S 104 i) : usd S nt + 1 ≤ usd T nt := by
  refine cntB_lt nt (fun i _ z => ?_) j hj (by show (!(pW S j)) = false; rw [h]; rfl) ?_
  · have z1 : pW S i = false := by simpa using z
    have z2 : pW T i = false := by
      unfold pW at z1 ⊢
      rw [e152, e104]
      by_cases e : i = j
      · rw [if_pos e, show decide ((1 : Int32) = 0) = false by decide, Bool.and_false]
      · rw [if_neg e]; exact z1
    show (!(pW T i)) = true
    rw [z2]; rfl
  · have z2 : pW T j = false := by
      unfold pW
      rw [e104, if_pos rfl, show decide ((1 : Int32) = 0) = false by decide, Bool.and_false]
    show (!(pW T j)) = true
    rw [z2]; rfl
theorem co_room {S T : HS} {nc nt j : Nat} (hj : j < nt) (hc : nc ≤ cntB (pOut S) nt) (h0 : ¬ mI S 104 j = 1) (e104 : ∀ i, mI T 104 i = if i = j then 1 else mI S 104 i) (e152 : ∀ i, mR T 152 i = mR S 152 i) (e151 : ∀ i, mI T 151 i = mI S 151 i) (z : pOut T j = true) : nc + 1 ≤ cntB (pOut T) nt := by
  refine Nat.le_trans (Nat.succ_le_succ hc) (cntB_lt nt (fun k _ y => ?_) j hj ?_ z)
  · obtain ⟨y1, y2, y3⟩ := pO1 y
    refine pO2 ?_ (by rw [e152]; exact y2) (by rw [e151]; exact y3)
    rw [e104]
    by_cases e : k = j
    · rw [if_pos e]
    · rw [if_neg e]; exact y1
  · cases e : pOut S j with
    | false => rfl
    | true => exact absurd (pO1 e).1 h0
theorem co_room2 {S : HS} {nc nt j : Nat} {x : Int32} (hj : j < nt) (hc : nc ≤ cntB (pOut S) nt) (h0 : mI S 151 j = -1) (z : pOut (sI S 151 j x) j = true) : nc + 1 ≤ cntB (pOut (sI S 151 j x)) nt := by
  have hf : pOut S j = false := by
    cases e : pOut S j with
    | false => rfl
    | true => exact absurd h0 (pO1 e).2.2
  exact Nat.le_trans (Nat.succ_le_succ hc) (cntB_lt nt (fun k _ y => pOut_151 hf y) j hj hf z)
theorem sub_nn {a b : Int32} (h1 : ¬ b < 0) (h2 : ¬ a < b) : ¬ a - b < 0 := Int32.not_lt.mpr (Int32.sub_nonneg_of_le (Int32.not_lt.mp h1) (Int32.not_lt.mp h2))
theorem fit_num {wl : Int32} {g nc : Nat} (h1 : ¬ wl < 0) (h2 : g ≤ nc) (h3 : nc ≤ 40) : ∃ w r : Nat, wl = nI w ∧ w < 2 ^ 31 ∧ r ≤ nc - g ∧ 10 * r ≤ w ∧ sMin (wl / 10) (nI nc - nI g) = nI r := by
  obtain ⟨w, hw, rfl⟩ := nI_of h1
  have e1 : nI w / 10 = nI (w / 10) := pk_div (d := 10) hw (by decide) (by decide)
  have e2 : nI nc - nI g = nI (nc - g) := pk_sub h2
  rw [e1, e2]
  unfold sMin
  by_cases z : nI (nc - g) < nI (w / 10)
  · rw [if_pos z]
    have z1 := (nI_ltI (a := nc - g) (b := w / 10) (by omega) (by omega)).mp z
    exact ⟨w, nc - g, rfl, hw, Nat.le_refl _, by omega, rfl⟩
  · rw [if_neg z]
    have z1 : w / 10 ≤ nc - g := Nat.le_of_not_lt (fun y => z ((nI_ltI (a := nc - g) (b := w / 10) (by omega) (by omega)).mpr y))
    exact ⟨w, w / 10, rfl, hw, z1, by omega, rfl⟩

theorem dX7_tire_0 : decode cX7_tire 0 = .ok (.iconst 0, 1) := by decide +kernel
theorem dX7_tire_1 : decode cX7_tire 1 = .ok (.istore_n 2, 1) := by decide +kernel
theorem dX7_tire_2 : decode cX7_tire 2 = .ok (.iload_n 2, 1) := by decide +kernel
theorem dX7_tire_3 : decode cX7_tire 3 = .ok (.aload_n 0, 1) := by decide +kernel
theorem dX7_tire_4 : decode cX7_tire 4 = .ok (.getfield 12, 3) := by decide +kernel
theorem dX7_tire_7 : decode cX7_tire 7 = .ok (.invokevirtual 35, 3) := by decide +kernel
theorem dX7_tire_10 : decode cX7_tire 10 = .ok (.if_icmp .ge 86, 3) := by decide +kernel
theorem dX7_tire_13 : decode cX7_tire 13 = .ok (.aload_n 0, 1) := by decide +kernel
theorem dX7_tire_14 : decode cX7_tire 14 = .ok (.getfield 12, 3) := by decide +kernel
theorem dX7_tire_17 : decode cX7_tire 17 = .ok (.iload_n 2, 1) := by decide +kernel
theorem dX7_tire_18 : decode cX7_tire 18 = .ok (.invokevirtual 43, 3) := by decide +kernel
theorem dX7_tire_21 : decode cX7_tire 21 = .ok (.checkcast 47, 3) := by decide +kernel
theorem dX7_tire_24 : decode cX7_tire 24 = .ok (.astore_n 3, 1) := by decide +kernel
theorem dX7_tire_25 : decode cX7_tire 25 = .ok (.aload_n 0, 1) := by decide +kernel
theorem dX7_tire_26 : decode cX7_tire 26 = .ok (.iload_n 1, 1) := by decide +kernel
theorem dX7_tire_27 : decode cX7_tire 27 = .ok (.aload_n 3, 1) := by decide +kernel
theorem dX7_tire_28 : decode cX7_tire 28 = .ok (.getfield 101, 3) := by decide +kernel
theorem dX7_tire_31 : decode cX7_tire 31 = .ok (.invokevirtual 102, 3) := by decide +kernel
theorem dX7_tire_34 : decode cX7_tire 34 = .ok (.iconst (-1), 1) := by decide +kernel
theorem dX7_tire_35 : decode cX7_tire 35 = .ok (.if_icmp .eq 7, 3) := by decide +kernel
theorem dX7_tire_38 : decode cX7_tire 38 = .ok (.iconst 1, 1) := by decide +kernel
theorem dX7_tire_39 : decode cX7_tire 39 = .ok (.goto 4, 3) := by decide +kernel
theorem dX7_tire_42 : decode cX7_tire 42 = .ok (.iconst 0, 1) := by decide +kernel
theorem dX7_tire_43 : decode cX7_tire 43 = .ok (.istore 4, 2) := by decide +kernel
theorem dX7_tire_45 : decode cX7_tire 45 = .ok (.aload_n 3, 1) := by decide +kernel
theorem dX7_tire_46 : decode cX7_tire 46 = .ok (.aload_n 3, 1) := by decide +kernel
theorem dX7_tire_47 : decode cX7_tire 47 = .ok (.getfield 77, 3) := by decide +kernel
theorem dX7_tire_50 : decode cX7_tire 50 = .ok (.iload 4, 2) := by decide +kernel
theorem dX7_tire_52 : decode cX7_tire 52 = .ok (.ifCond .eq 7, 3) := by decide +kernel
theorem dX7_tire_55 : decode cX7_tire 55 = .ok (.iconst 3, 1) := by decide +kernel
theorem dX7_tire_56 : decode cX7_tire 56 = .ok (.goto 5, 3) := by decide +kernel
theorem dX7_tire_59 : decode cX7_tire 59 = .ok (.bipush (-2), 2) := by decide +kernel
theorem dX7_tire_61 : decode cX7_tire 61 = .ok (.iadd, 1) := by decide +kernel
theorem dX7_tire_62 : decode cX7_tire 62 = .ok (.iconst 0, 1) := by decide +kernel
theorem dX7_tire_63 : decode cX7_tire 63 = .ok (.bipush 40, 2) := by decide +kernel
theorem dX7_tire_65 : decode cX7_tire 65 = .ok (.invokestatic 63, 3) := by decide +kernel
theorem dX7_tire_68 : decode cX7_tire 68 = .ok (.putfield 77, 3) := by decide +kernel
theorem dX7_tire_71 : decode cX7_tire 71 = .ok (.aload_n 3, 1) := by decide +kernel
theorem dX7_tire_72 : decode cX7_tire 72 = .ok (.dup, 1) := by decide +kernel
theorem dX7_tire_73 : decode cX7_tire 73 = .ok (.getfield 105, 3) := by decide +kernel
theorem dX7_tire_76 : decode cX7_tire 76 = .ok (.iload 4, 2) := by decide +kernel
theorem dX7_tire_78 : decode cX7_tire 78 = .ok (.ifCond .eq 7, 3) := by decide +kernel
theorem dX7_tire_81 : decode cX7_tire 81 = .ok (.iconst 1, 1) := by decide +kernel
theorem dX7_tire_82 : decode cX7_tire 82 = .ok (.goto 4, 3) := by decide +kernel
theorem dX7_tire_85 : decode cX7_tire 85 = .ok (.iconst 0, 1) := by decide +kernel
theorem dX7_tire_86 : decode cX7_tire 86 = .ok (.iadd, 1) := by decide +kernel
theorem dX7_tire_87 : decode cX7_tire 87 = .ok (.putfield 105, 3) := by decide +kernel
theorem dX7_tire_90 : decode cX7_tire 90 = .ok (.iinc 2 1, 3) := by decide +kernel
theorem dX7_tire_93 : decode cX7_tire 93 = .ok (.goto (-91), 3) := by decide +kernel
theorem dX7_tire_96 : decode cX7_tire 96 = .ok (.return_, 1) := by decide +kernel
abbrev rm_m_X7_tire : Room := { frames := 4, cells := 0, slots := 0, locals := 88 }
set_option maxHeartbeats 4000000 in
set_option maxRecDepth 100000 in
theorem m_X7_tire {s0 : State} {l : Launch} {D : va_G} {cy : Nat → ClassId} (G : Gl s0 l D cy) (S : HS) (ea ns nj nm nt nr nc : Nat) (h : CI ea S ns nj nm nt nr nc) (a : Int32) : Ctr s0 l D cy yX7_tire cX7_tire 5 none rm_m_X7_tire S [.ref (gG S 7 0), .int a] (fun v S' => none = v ∧ CI ea S' ns nj nm nt nr nc ∧ Kq (hidV false) hiH (hidR false) S S') := by
  refine pro "CavershamShift$Room" G rfl rfl (Nat.le_of_ble_eq_true rfl) (fun p e s m below meth c ls X w hnm hl => ?_)
  have hx := X.1
  have hb := X.2.1
  have hown := X.2.2.2.1
  have hts := X.2.2.2.2.1
  have hl : lv_has ls 5 [(0, .ref (gG S 7 0)), (1, .int a)] := hl
  have h0 := h
  have hK : Kq (hidV false) hiH (hidR false) S S := Kq.rf
  refine lv_iconst (v := 0) hx hb dX7_tire_0 (by decide) ?_
  refine lv_istore_n (lv' := [(2, .int 0), (0, .ref (gG S 7 0)), (1, .int a)]) hx hb dX7_tire_1 rfl hl (by decide) rfl (fun ls hl => ?_)
  have L2 : ∀ (N : Nat) (k2 : Nat) (T2 : HS) (H : Heap) (locs : List Loc) (ls : Array Slot), nm - k2 < N → (k2 ≤ nm) → (CI ea T2 ns nj nm nt nr nc) → (Kq (hidV false) hiH (hidR false) S T2) → Wd s0 D cy T2 s.heap H locs → lv_has ls 5 [(2, .int (nI k2)), (0, .ref (gG S 7 0)), (1, .int a)] → W p l e rm_m_X7_tire s m ([.ref (gG S 7 0), .int a] : List Value).toArray below meth c H locs 0 0 (MQ below (GQ s0 D cy (fun v S' => none = v ∧ CI ea S' ns nj nm nt nr nc ∧ Kq (hidV false) hiH (hidR false) S S')) ([.ref (gG S 7 0), .int a] : List Value).toArray s rm_m_X7_tire.cells rm_m_X7_tire.slots (A0 s0)) (F0 m 2 ls []) := by
    intro N
    induction N with
    | zero => intros; omega
    | succ N ih2 =>
      intro k2 T2 H locs ls hmu hk_k2 h hK_T2 w hl
      have hK := hK_T2
      refine lv_iload_n hx hb dX7_tire_2 rfl (lv_at hl 0 rfl) ?_
      refine lv_aload_n hx hb dX7_tire_3 rfl (lv_at hl 1 rfl) ?_
      refine rE0 ((rfl).trans ((hK_T2.G (t := 7) (i := 0) rfl)).symm) ?_
      refine g_7_1 (S := T2) (x := (some (gG T2 17 2))) X w h.v7 wF_X7_12 (h.f113) dX7_tire_4 ?_
      refine cV (S := T2) (nA := 0) (As := []) (rest := [.int (nI k2)]) X w hl h.l_mo.1 (m_size G T2 ea 2 nm h.l_mo) wY_Jx4a65c_size_8abf5 wM_X7_35 wIn_Jx4a65c_size_8abf5 wSe_Jx4a65c_Jx4a65c_size_8abf5 wI_Jx4a65c (by decide) rfl (by decide +kernel) rfl rfl dX7_tire_7 ⟨by decide, by decide⟩ (Nat.le_of_ble_eq_true rfl) (⟨Nat.le_of_ble_eq_true rfl, Nat.le_of_ble_eq_true rfl⟩) (fun v1 S1 H locs hp w => ?_)
      obtain ⟨rfl, rfl⟩ := hp
      refine lv_icmp_ge (tgt := 96) hx hb dX7_tire_10 (by decide) (fun hc_k2 => ?_) (fun hc_k2 => ?_)
      · have hge_k2 : nm ≤ k2 := by
          have hb1 := h.b_mo
          exact (nI_leI (a := nm) (b := k2) (by omega) (by omega)).mp hc_k2
        exact rV X w rfl dX7_tire_96 (by decide) (by decide) (⟨rfl, h, hK⟩)
      · have hlt_k2 : k2 < nm := by
          have hb1 := h.b_mo
          exact Nat.lt_of_not_le (fun z => hc_k2 ((nI_leI (a := nm) (b := k2) (by omega) (by omega)).mpr z))
        refine lv_aload_n hx hb dX7_tire_13 rfl (lv_at hl 1 rfl) ?_
        refine rE0 ((rfl).trans ((hK_T2.G (t := 7) (i := 0) rfl)).symm) ?_
        refine g_7_1 (S := T2) (x := (some (gG T2 17 2))) X w h.v7 wF_X7_12 (h.f113) dX7_tire_14 ?_
        refine lv_iload_n hx hb dX7_tire_17 rfl (lv_at hl 0 rfl) ?_
        refine cV (S := T2) (nA := 1) (As := [.int (nI k2)]) (rest := []) X w hl h.l_mo.1 (m_get G T2 ea 2 k2 nm (some (gG T2 3 k2)) h.l_mo hlt_k2 (h.e_mo k2 hlt_k2).1) wY_Jx4a65c_get_915e3 wM_X7_43 wIn_Jx4a65c_get_915e3 wSe_Jx4a65c_Jx4a65c_get_915e3 wI_Jx4a65c (by decide) rfl (by decide +kernel) rfl rfl dX7_tire_18 ⟨by decide, by decide⟩ (Nat.le_of_ble_eq_true rfl) (⟨Nat.le_of_ble_eq_true rfl, Nat.le_of_ble_eq_true rfl⟩) (fun v2 S1 H locs hp w => ?_)
        obtain ⟨rfl, rfl⟩ := hp
        refine ckC (S := T2) (t := 3) X w (h.e_mo k2 hlt_k2).2 (by decide) rfl wC_X7_47 dX7_tire_21 ?_
        refine lv_astore_n (lv' := [(3, .ref (gG T2 3 k2)), (2, .int (nI k2)), (0, .ref (gG S 7 0)), (1, .int a)]) hx hb dX7_tire_24 rfl hl (by decide) rfl (fun ls hl => ?_)
        refine lv_aload_n hx hb dX7_tire_25 rfl (lv_at hl 2 rfl) ?_
        refine lv_iload_n hx hb dX7_tire_26 rfl (lv_at hl 3 rfl) ?_
        refine lv_aload_n hx hb dX7_tire_27 rfl (lv_at hl 0 rfl) ?_
        refine g_3_0 (S := T2) (x := (mI T2 48 k2)) X w (h.e_mo k2 hlt_k2).2 wF_X7_101 (rfl) dX7_tire_28 ?_
        refine rE2 ((rfl).trans ((hK_T2.G (t := 7) (i := 0) rfl)).symm) ?_
        refine cV (S := T2) (nA := 2) (As := [.int a, .int (mI T2 48 k2)]) (rest := []) X w hl h.v7 (m_X7_setOf G T2 ea ns nj nm nt nr nc h a (mI T2 48 k2)) wY_X7_setOf wM_X7_102 wIn_X7_setOf wSe_X7_X7_setOf wI_X7 (by decide) rfl (by decide +kernel) rfl rfl dX7_tire_31 ⟨by decide, by decide⟩ (Nat.le_of_ble_eq_true rfl) (⟨Nat.le_of_ble_eq_true rfl, Nat.le_of_ble_eq_true rfl⟩) (fun v4 S1 H locs hp w => ?_)
        obtain ⟨⟨x3, rfl⟩, rfl⟩ := hp
        refine lv_iconst (v := (-1)) hx hb dX7_tire_34 (by decide) ?_
        have J43 : ∀ (z43_0 : Bool) (H : Heap) (locs : List Loc) (ls : Array Slot), Wd s0 D cy T2 s.heap H locs → lv_has ls 5 [(3, .ref (gG T2 3 k2)), (2, .int (nI k2)), (0, .ref (gG S 7 0)), (1, .int a)] → W p l e rm_m_X7_tire s m ([.ref (gG S 7 0), .int a] : List Value).toArray below meth c H locs 0 0 (MQ below (GQ s0 D cy (fun v S' => none = v ∧ CI ea S' ns nj nm nt nr nc ∧ Kq (hidV false) hiH (hidR false) S S')) ([.ref (gG S 7 0), .int a] : List Value).toArray s rm_m_X7_tire.cells rm_m_X7_tire.slots (A0 s0)) (F0 m 43 ls [.int (b2i z43_0)]) := by
          intro z43_0 H locs ls  w hl
          refine lv_istore (lv' := [(4, .int (b2i z43_0)), (3, .ref (gG T2 3 k2)), (2, .int (nI k2)), (0, .ref (gG S 7 0)), (1, .int a)]) hx hb dX7_tire_43 hl (by decide) rfl (fun ls hl => ?_)
          refine lv_aload_n hx hb dX7_tire_45 rfl (lv_at hl 1 rfl) ?_
          refine lv_aload_n hx hb dX7_tire_46 rfl (lv_at hl 1 rfl) ?_
          refine g_3_2 (S := T2) (x := (mI T2 50 k2)) X w (h.e_mo k2 hlt_k2).2 wF_X7_77 (rfl) dX7_tire_47 ?_
          refine lv_iload hx hb dX7_tire_50 (lv_at hl 0 rfl) ?_
          have J61 : ∀ (z61_2 : Int32) (H : Heap) (locs : List Loc) (ls : Array Slot), Wd s0 D cy T2 s.heap H locs → lv_has ls 5 [(4, .int (b2i z43_0)), (3, .ref (gG T2 3 k2)), (2, .int (nI k2)), (0, .ref (gG S 7 0)), (1, .int a)] → W p l e rm_m_X7_tire s m ([.ref (gG S 7 0), .int a] : List Value).toArray below meth c H locs 0 0 (MQ below (GQ s0 D cy (fun v S' => none = v ∧ CI ea S' ns nj nm nt nr nc ∧ Kq (hidV false) hiH (hidR false) S S')) ([.ref (gG S 7 0), .int a] : List Value).toArray s rm_m_X7_tire.cells rm_m_X7_tire.slots (A0 s0)) (F0 m 61 ls [.int z61_2, .int (mI T2 50 k2), .ref (gG T2 3 k2)]) := by
            intro z61_2 H locs ls  w hl
            refine lv_iadd hx hb dX7_tire_61 ?_
            refine lv_iconst (v := 0) hx hb dX7_tire_62 (by decide) ?_
            refine lv_bipush (v := 40) hx hb dX7_tire_63 (by decide) ?_
            refine cSN (S := T2) (nA := 3) (As := [.int ((mI T2 50 k2) + z61_2), .int 0, .int 40]) (rest := [.ref (gG T2 3 k2)]) X w hl (m_X10_hold G T2 ((mI T2 50 k2) + z61_2) 0 40) wY_X10_hold wMN_X7_63 wSt_X10_hold wI_X10 (by decide +kernel) rfl rfl dX7_tire_65 ⟨by decide, by decide⟩ (Nat.le_of_ble_eq_true rfl) (⟨Nat.le_of_ble_eq_true rfl, Nat.le_of_ble_eq_true rfl⟩) (fun v5 S1 H locs hp w => ?_)
            obtain ⟨rfl, rfl⟩ := hp
            refine p_3_2 (S := T2) (x := (sHold ((mI T2 50 k2) + z61_2) 0 40)) X w (h.e_mo k2 hlt_k2).2 wF_X7_77 dX7_tire_68 (fun H locs w => ?_)
            have h : CI ea (sI T2 50 k2 (sHold ((mI T2 50 k2) + z61_2) 0 40)) ns nj nm nt nr nc := h.stI (by decide)
            have hK : Kq (hidV false) hiH (hidR false) S (sI T2 50 k2 (sHold ((mI T2 50 k2) + z61_2) 0 40)) := hK.sI rfl
            refine lv_aload_n hx hb dX7_tire_71 rfl (lv_at hl 1 rfl) ?_
            refine lv_dup hx hb dX7_tire_72 rfl ?_
            refine g_3_3 (S := (sI T2 50 k2 (sHold ((mI T2 50 k2) + z61_2) 0 40))) (x := (mI (sI T2 50 k2 (sHold ((mI T2 50 k2) + z61_2) 0 40)) 51 k2)) X w (h.e_mo k2 hlt_k2).2 wF_X7_105 (rfl) dX7_tire_73 ?_
            refine lv_iload hx hb dX7_tire_76 (lv_at hl 0 rfl) ?_
            have J86 : ∀ (z86_2 : Bool) (H : Heap) (locs : List Loc) (ls : Array Slot), Wd s0 D cy (sI T2 50 k2 (sHold ((mI T2 50 k2) + z61_2) 0 40)) s.heap H locs → lv_has ls 5 [(4, .int (b2i z43_0)), (3, .ref (gG T2 3 k2)), (2, .int (nI k2)), (0, .ref (gG S 7 0)), (1, .int a)] → W p l e rm_m_X7_tire s m ([.ref (gG S 7 0), .int a] : List Value).toArray below meth c H locs 0 0 (MQ below (GQ s0 D cy (fun v S' => none = v ∧ CI ea S' ns nj nm nt nr nc ∧ Kq (hidV false) hiH (hidR false) S S')) ([.ref (gG S 7 0), .int a] : List Value).toArray s rm_m_X7_tire.cells rm_m_X7_tire.slots (A0 s0)) (F0 m 86 ls [.int (b2i z86_2), .int (mI (sI T2 50 k2 (sHold ((mI T2 50 k2) + z61_2) 0 40)) 51 k2), .ref (gG T2 3 k2)]) := by
              intro z86_2 H locs ls  w hl
              refine lv_iadd hx hb dX7_tire_86 ?_
              refine p_3_3 (S := (sI T2 50 k2 (sHold ((mI T2 50 k2) + z61_2) 0 40))) (x := ((mI (sI T2 50 k2 (sHold ((mI T2 50 k2) + z61_2) 0 40)) 51 k2) + (b2i z86_2))) X w (h.e_mo k2 hlt_k2).2 wF_X7_105 dX7_tire_87 (fun H locs w => ?_)
              have h : CI ea (sI (sI T2 50 k2 (sHold ((mI T2 50 k2) + z61_2) 0 40)) 51 k2 ((mI (sI T2 50 k2 (sHold ((mI T2 50 k2) + z61_2) 0 40)) 51 k2) + (b2i z86_2))) ns nj nm nt nr nc := h.stI (by decide)
              have hK : Kq (hidV false) hiH (hidR false) S (sI (sI T2 50 k2 (sHold ((mI T2 50 k2) + z61_2) 0 40)) 51 k2 ((mI (sI T2 50 k2 (sHold ((mI T2 50 k2) + z61_2) 0 40)) 51 k2) + (b2i z86_2))) := hK.sI rfl
              refine lv_iinc (v := nI (k2 + 1)) (lv' := [(2, .int (nI (k2 + 1))), (4, .int (b2i z43_0)), (3, .ref (gG T2 3 k2)), (0, .ref (gG S 7 0)), (1, .int a)]) hx hb dX7_tire_90 hl (k := 2) rfl (nI_1 _) (by decide) rfl (fun ls hl => ?_)
              refine lv_goto (tgt := 2) hx hb dX7_tire_93 (by decide) ?_
              exact ih2 (k2 + 1) (sI (sI T2 50 k2 (sHold ((mI T2 50 k2) + z61_2) 0 40)) 51 k2 ((mI (sI T2 50 k2 (sHold ((mI T2 50 k2) + z61_2) 0 40)) 51 k2) + (b2i z86_2))) _ _ _ (by omega) (hlt_k2) (h) (hK) w (lv_sub hl [0, 3, 4] rfl)
            refine lv_if_eq (tgt := 85) hx hb dX7_tire_78 (by decide) (fun hc6 => ?_) (fun hc6 => ?_)
            · refine lv_iconst (v := 0) hx hb dX7_tire_85 (by decide) ?_
              exact J86 false _ _ _  w (lv_sub hl [0, 1, 2, 3, 4] rfl)
            · refine lv_iconst (v := 1) hx hb dX7_tire_81 (by decide) ?_
              refine lv_goto (tgt := 86) hx hb dX7_tire_82 (by decide) ?_
              exact J86 true _ _ _  w (lv_sub hl [0, 1, 2, 3, 4] rfl)
          refine lv_if_eq (tgt := 59) hx hb dX7_tire_52 (by decide) (fun hc7 => ?_) (fun hc7 => ?_)
          · refine lv_bipush (v := (-2)) hx hb dX7_tire_59 (by decide) ?_
            exact J61 (-2) _ _ _  w (lv_sub hl [0, 1, 2, 3, 4] rfl)
          · refine lv_iconst (v := 3) hx hb dX7_tire_55 (by decide) ?_
            refine lv_goto (tgt := 61) hx hb dX7_tire_56 (by decide) ?_
            exact J61 3 _ _ _  w (lv_sub hl [0, 1, 2, 3, 4] rfl)
        refine lv_icmp_eq (tgt := 42) hx hb dX7_tire_35 (by decide) (fun hc8 => ?_) (fun hc8 => ?_)
        · refine lv_iconst (v := 0) hx hb dX7_tire_42 (by decide) ?_
          exact J43 false _ _ _  w (lv_sub hl [0, 1, 2, 3] rfl)
        · refine lv_iconst (v := 1) hx hb dX7_tire_38 (by decide) ?_
          refine lv_goto (tgt := 43) hx hb dX7_tire_39 (by decide) ?_
          exact J43 true _ _ _  w (lv_sub hl [0, 1, 2, 3] rfl)
  exact L2 _ 0 S _ _ _ (Nat.lt_succ_self _) (Nat.zero_le _) (h) (hK) w (lv_sub hl [0, 1, 2] rfl)

theorem dX4_dropStale_0 : decode cX4_dropStale 0 = .ok (.iconst 0, 1) := by decide +kernel
theorem dX4_dropStale_1 : decode cX4_dropStale 1 = .ok (.istore_n 2, 1) := by decide +kernel
theorem dX4_dropStale_2 : decode cX4_dropStale 2 = .ok (.iload_n 2, 1) := by decide +kernel
theorem dX4_dropStale_3 : decode cX4_dropStale 3 = .ok (.aload_n 0, 1) := by decide +kernel
theorem dX4_dropStale_4 : decode cX4_dropStale 4 = .ok (.getfield 12, 3) := by decide +kernel
theorem dX4_dropStale_7 : decode cX4_dropStale 7 = .ok (.invokevirtual 28, 3) := by decide +kernel
theorem dX4_dropStale_10 : decode cX4_dropStale 10 = .ok (.if_icmp .ge 54, 3) := by decide +kernel
theorem dX4_dropStale_13 : decode cX4_dropStale 13 = .ok (.aload_n 0, 1) := by decide +kernel
theorem dX4_dropStale_14 : decode cX4_dropStale 14 = .ok (.getfield 12, 3) := by decide +kernel
theorem dX4_dropStale_17 : decode cX4_dropStale 17 = .ok (.iload_n 2, 1) := by decide +kernel
theorem dX4_dropStale_18 : decode cX4_dropStale 18 = .ok (.invokevirtual 36, 3) := by decide +kernel
theorem dX4_dropStale_21 : decode cX4_dropStale 21 = .ok (.checkcast 40, 3) := by decide +kernel
theorem dX4_dropStale_24 : decode cX4_dropStale 24 = .ok (.astore_n 3, 1) := by decide +kernel
theorem dX4_dropStale_25 : decode cX4_dropStale 25 = .ok (.aload_n 3, 1) := by decide +kernel
theorem dX4_dropStale_26 : decode cX4_dropStale 26 = .ok (.getfield 71, 3) := by decide +kernel
theorem dX4_dropStale_29 : decode cX4_dropStale 29 = .ok (.astore 4, 2) := by decide +kernel
theorem dX4_dropStale_31 : decode cX4_dropStale 31 = .ok (.aload 4, 2) := by decide +kernel
theorem dX4_dropStale_33 : decode cX4_dropStale 33 = .ok (.ifnull 25, 3) := by decide +kernel
theorem dX4_dropStale_36 : decode cX4_dropStale 36 = .ok (.aload 4, 2) := by decide +kernel
theorem dX4_dropStale_38 : decode cX4_dropStale 38 = .ok (.getfield 56, 3) := by decide +kernel
theorem dX4_dropStale_41 : decode cX4_dropStale 41 = .ok (.ifCond .ne 17, 3) := by decide +kernel
theorem dX4_dropStale_44 : decode cX4_dropStale 44 = .ok (.aload_n 3, 1) := by decide +kernel
theorem dX4_dropStale_45 : decode cX4_dropStale 45 = .ok (.iload_n 1, 1) := by decide +kernel
theorem dX4_dropStale_46 : decode cX4_dropStale 46 = .ok (.invokestatic 75, 3) := by decide +kernel
theorem dX4_dropStale_49 : decode cX4_dropStale 49 = .ok (.ifCond .eq 9, 3) := by decide +kernel
theorem dX4_dropStale_52 : decode cX4_dropStale 52 = .ok (.aload 4, 2) := by decide +kernel
theorem dX4_dropStale_54 : decode cX4_dropStale 54 = .ok (.iconst 2, 1) := by decide +kernel
theorem dX4_dropStale_55 : decode cX4_dropStale 55 = .ok (.putfield 56, 3) := by decide +kernel
theorem dX4_dropStale_58 : decode cX4_dropStale 58 = .ok (.iinc 2 1, 3) := by decide +kernel
theorem dX4_dropStale_61 : decode cX4_dropStale 61 = .ok (.goto (-59), 3) := by decide +kernel
theorem dX4_dropStale_64 : decode cX4_dropStale 64 = .ok (.return_, 1) := by decide +kernel
abbrev rm_m_X4_dropStale : Room := { frames := 3, cells := 0, slots := 0, locals := 64 }
set_option maxHeartbeats 4000000 in
set_option maxRecDepth 100000 in
theorem m_X4_dropStale {s0 : State} {l : Launch} {D : va_G} {cy : Nat → ClassId} (G : Gl s0 l D cy) (S : HS) (ea ns nj nm nt nr nc : Nat) (h : CI ea S ns nj nm nt nr nc) (a : Int32) : Ctr s0 l D cy yX4_dropStale cX4_dropStale 5 none rm_m_X4_dropStale S [.ref (gG S 4 0), .int a] (fun v S' => none = v ∧ CI ea S' ns nj nm nt nr nc ∧ Kq (hidV false) hiH (hidR false) S S') := by
  refine pro "CavershamShift$Newsroom" G rfl rfl (Nat.le_of_ble_eq_true rfl) (fun p e s m below meth c ls X w hnm hl => ?_)
  have hx := X.1
  have hb := X.2.1
  have hown := X.2.2.2.1
  have hts := X.2.2.2.2.1
  have hl : lv_has ls 5 [(0, .ref (gG S 4 0)), (1, .int a)] := hl
  have h0 := h
  have hK : Kq (hidV false) hiH (hidR false) S S := Kq.rf
  refine lv_iconst (v := 0) hx hb dX4_dropStale_0 (by decide) ?_
  refine lv_istore_n (lv' := [(2, .int 0), (0, .ref (gG S 4 0)), (1, .int a)]) hx hb dX4_dropStale_1 rfl hl (by decide) rfl (fun ls hl => ?_)
  have L2 : ∀ (N : Nat) (k2 : Nat) (T2 : HS) (H : Heap) (locs : List Loc) (ls : Array Slot), nt - k2 < N → (k2 ≤ nt) → (CI ea T2 ns nj nm nt nr nc) → (Kq (hidV false) hiH (hidR false) S T2) → Wd s0 D cy T2 s.heap H locs → lv_has ls 5 [(2, .int (nI k2)), (0, .ref (gG S 4 0)), (1, .int a)] → W p l e rm_m_X4_dropStale s m ([.ref (gG S 4 0), .int a] : List Value).toArray below meth c H locs 0 0 (MQ below (GQ s0 D cy (fun v S' => none = v ∧ CI ea S' ns nj nm nt nr nc ∧ Kq (hidV false) hiH (hidR false) S S')) ([.ref (gG S 4 0), .int a] : List Value).toArray s rm_m_X4_dropStale.cells rm_m_X4_dropStale.slots (A0 s0)) (F0 m 2 ls []) := by
    intro N
    induction N with
    | zero => intros; omega
    | succ N ih2 =>
      intro k2 T2 H locs ls hmu hk_k2 h hK_T2 w hl
      have hK := hK_T2
      refine lv_iload_n hx hb dX4_dropStale_2 rfl (lv_at hl 0 rfl) ?_
      refine lv_aload_n hx hb dX4_dropStale_3 rfl (lv_at hl 1 rfl) ?_
      refine rE0 ((rfl).trans ((hK_T2.G (t := 4) (i := 0) rfl)).symm) ?_
      refine g_4_0 (S := T2) (x := (some (gG T2 17 3))) X w h.v4 wF_X4_12 (h.f64) dX4_dropStale_4 ?_
      refine cV (S := T2) (nA := 0) (As := []) (rest := [.int (nI k2)]) X w hl h.l_ta.1 (m_size G T2 ea 3 nt h.l_ta) wY_Jx4a65c_size_8abf5 wM_X4_28 wIn_Jx4a65c_size_8abf5 wSe_Jx4a65c_Jx4a65c_size_8abf5 wI_Jx4a65c (by decide) rfl (by decide +kernel) rfl rfl dX4_dropStale_7 ⟨by decide, by decide⟩ (Nat.le_of_ble_eq_true rfl) (⟨Nat.le_of_ble_eq_true rfl, Nat.le_of_ble_eq_true rfl⟩) (fun v1 S1 H locs hp w => ?_)
      obtain ⟨rfl, rfl⟩ := hp
      refine lv_icmp_ge (tgt := 64) hx hb dX4_dropStale_10 (by decide) (fun hc_k2 => ?_) (fun hc_k2 => ?_)
      · have hge_k2 : nt ≤ k2 := by
          have hb1 := h.b_ta
          exact (nI_leI (a := nt) (b := k2) (by omega) (by omega)).mp hc_k2
        exact rV X w rfl dX4_dropStale_64 (by decide) (by decide) (⟨rfl, h, hK⟩)
      · have hlt_k2 : k2 < nt := by
          have hb1 := h.b_ta
          exact Nat.lt_of_not_le (fun z => hc_k2 ((nI_leI (a := nt) (b := k2) (by omega) (by omega)).mpr z))
        refine lv_aload_n hx hb dX4_dropStale_13 rfl (lv_at hl 1 rfl) ?_
        refine rE0 ((rfl).trans ((hK_T2.G (t := 4) (i := 0) rfl)).symm) ?_
        refine g_4_0 (S := T2) (x := (some (gG T2 17 3))) X w h.v4 wF_X4_12 (h.f64) dX4_dropStale_14 ?_
        refine lv_iload_n hx hb dX4_dropStale_17 rfl (lv_at hl 0 rfl) ?_
        refine cV (S := T2) (nA := 1) (As := [.int (nI k2)]) (rest := []) X w hl h.l_ta.1 (m_get G T2 ea 3 k2 nt (some (gG T2 9 k2)) h.l_ta hlt_k2 (h.e_ta k2 hlt_k2).1) wY_Jx4a65c_get_915e3 wM_X4_36 wIn_Jx4a65c_get_915e3 wSe_Jx4a65c_Jx4a65c_get_915e3 wI_Jx4a65c (by decide) rfl (by decide +kernel) rfl rfl dX4_dropStale_18 ⟨by decide, by decide⟩ (Nat.le_of_ble_eq_true rfl) (⟨Nat.le_of_ble_eq_true rfl, Nat.le_of_ble_eq_true rfl⟩) (fun v2 S1 H locs hp w => ?_)
        obtain ⟨rfl, rfl⟩ := hp
        refine ckC (S := T2) (t := 9) X w (h.e_ta k2 hlt_k2).2 (by decide) rfl wC_X4_40 dX4_dropStale_21 ?_
        refine lv_astore_n (lv' := [(3, .ref (gG T2 9 k2)), (2, .int (nI k2)), (0, .ref (gG S 4 0)), (1, .int a)]) hx hb dX4_dropStale_24 rfl hl (by decide) rfl (fun ls hl => ?_)
        refine lv_aload_n hx hb dX4_dropStale_25 rfl (lv_at hl 0 rfl) ?_
        have J58 : ∀ (TJ58 : HS) (H : Heap) (locs : List Loc) (ls : Array Slot), (CI ea TJ58 ns nj nm nt nr nc) → (Kq (hidV false) hiH (hidR false) S TJ58) → Wd s0 D cy TJ58 s.heap H locs → lv_has ls 5 [(3, .ref (gG T2 9 k2)), (2, .int (nI k2)), (0, .ref (gG S 4 0)), (1, .int a)] → W p l e rm_m_X4_dropStale s m ([.ref (gG S 4 0), .int a] : List Value).toArray below meth c H locs 0 0 (MQ below (GQ s0 D cy (fun v S' => none = v ∧ CI ea S' ns nj nm nt nr nc ∧ Kq (hidV false) hiH (hidR false) S S')) ([.ref (gG S 4 0), .int a] : List Value).toArray s rm_m_X4_dropStale.cells rm_m_X4_dropStale.slots (A0 s0)) (F0 m 58 ls []) := by
          intro TJ58 H locs ls h hK_TJ58 w hl
          have hK := hK_TJ58
          refine lv_iinc (v := nI (k2 + 1)) (lv' := [(2, .int (nI (k2 + 1))), (3, .ref (gG T2 9 k2)), (0, .ref (gG S 4 0)), (1, .int a)]) hx hb dX4_dropStale_58 hl (k := 1) rfl (nI_1 _) (by decide) rfl (fun ls hl => ?_)
          refine lv_goto (tgt := 2) hx hb dX4_dropStale_61 (by decide) ?_
          exact ih2 (k2 + 1) TJ58 _ _ _ (by omega) (hlt_k2) (h) (hK) w (lv_sub hl [0, 2, 3] rfl)
        rcases h.t_rp k2 hlt_k2 with her3 | ⟨her3, hvr3⟩
        · refine g_9_8 (S := T2) (x := none) X w (h.e_ta k2 hlt_k2).2 wF_X4_71 (her3) dX4_dropStale_26 ?_
          refine lv_astoreN (lv' := [(4, .null), (3, .ref (gG T2 9 k2)), (2, .int (nI k2)), (0, .ref (gG S 4 0)), (1, .int a)]) hx hb dX4_dropStale_29 hl (by decide) rfl (fun ls hl => ?_)
          refine lv_aloadN hx hb dX4_dropStale_31 (lv_at hl 0 rfl) ?_
          refine lv_ifnullN (tgt := 58) hx hb dX4_dropStale_33 (by decide) ?_
          exact J58 T2 _ _ _ (h) (hK) w (lv_sub hl [1, 2, 3, 4] rfl)
        · refine g_9_8 (S := T2) (x := (some (gG T2 6 k2))) X w (h.e_ta k2 hlt_k2).2 wF_X4_71 (her3) dX4_dropStale_26 ?_
          refine lv_astore (lv' := [(4, .ref (gG T2 6 k2)), (3, .ref (gG T2 9 k2)), (2, .int (nI k2)), (0, .ref (gG S 4 0)), (1, .int a)]) hx hb dX4_dropStale_29 hl (by decide) rfl (fun ls hl => ?_)
          refine lv_aload hx hb dX4_dropStale_31 (lv_at hl 0 rfl) ?_
          refine lv_ifnull hx hb dX4_dropStale_33 ?_
          refine lv_aload hx hb dX4_dropStale_36 (lv_at hl 0 rfl) ?_
          refine g_6_8 (S := T2) (x := (mI T2 104 k2)) X w hvr3 wF_X4_56 (rfl) dX4_dropStale_38 ?_
          refine lv_if_ne (tgt := 58) hx hb dX4_dropStale_41 (by decide) (fun hst => ?_) (fun hst => ?_)
          · exact J58 T2 _ _ _ (h) (hK) w (lv_sub hl [1, 2, 3, 4] rfl)
          · refine lv_aload_n hx hb dX4_dropStale_44 rfl (lv_at hl 1 rfl) ?_
            refine lv_iload_n hx hb dX4_dropStale_45 rfl (lv_at hl 4 rfl) ?_
            refine cS (S := T2) (nA := 2) (As := [.ref (gG T2 9 k2), .int a]) (rest := []) X w hl (m_X4_isTooOld G T2 ea ns nj nm nt nr nc h k2 hlt_k2 a) wY_X4_isTooOld wM_X4_75 wSt_X4_isTooOld wI_X4 (by decide +kernel) rfl rfl dX4_dropStale_46 ⟨by decide, by decide⟩ (Nat.le_of_ble_eq_true rfl) (⟨Nat.le_of_ble_eq_true rfl, Nat.le_of_ble_eq_true rfl⟩) (fun v5 S1 H locs hp w => ?_)
            obtain ⟨⟨x4, rfl⟩, rfl⟩ := hp
            refine lv_if_eq (tgt := 58) hx hb dX4_dropStale_49 (by decide) (fun hc6 => ?_) (fun hc6 => ?_)
            · exact J58 T2 _ _ _ (h) (hK) w (lv_sub hl [1, 2, 3, 4] rfl)
            · refine lv_aload hx hb dX4_dropStale_52 (lv_at hl 0 rfl) ?_
              refine lv_iconst (v := 2) hx hb dX4_dropStale_54 (by decide) ?_
              refine p_6_8 (S := T2) (x := 2) X w hvr3 wF_X4_56 dX4_dropStale_55 (fun H locs w => ?_)
              have h : CI ea (sI T2 104 k2 2) ns nj nm nt nr nc := h.s104 (fun z => absurd ((pO1 z).1.symm.trans hst) (by decide))
              have hK : Kq (hidV false) hiH (hidR false) S (sI T2 104 k2 2) := hK.sI rfl
              exact J58 (sI T2 104 k2 2) _ _ _ (h) (hK) w (lv_sub hl [1, 2, 3, 4] rfl)
  exact L2 _ 0 S _ _ _ (Nat.lt_succ_self _) (Nat.zero_le _) (h) (hK) w (lv_sub hl [0, 1, 2] rfl)

theorem dX4_awaitCorrection_0 : decode cX4_awaitCorrection 0 = .ok (.aload_n 1, 1) := by decide +kernel
theorem dX4_awaitCorrection_1 : decode cX4_awaitCorrection 1 = .ok (.getfield 71, 3) := by decide +kernel
theorem dX4_awaitCorrection_4 : decode cX4_awaitCorrection 4 = .ok (.astore_n 2, 1) := by decide +kernel
theorem dX4_awaitCorrection_5 : decode cX4_awaitCorrection 5 = .ok (.aload_n 2, 1) := by decide +kernel
theorem dX4_awaitCorrection_6 : decode cX4_awaitCorrection 6 = .ok (.ifnull 24, 3) := by decide +kernel
theorem dX4_awaitCorrection_9 : decode cX4_awaitCorrection 9 = .ok (.aload_n 1, 1) := by decide +kernel
theorem dX4_awaitCorrection_10 : decode cX4_awaitCorrection 10 = .ok (.invokevirtual 134, 3) := by decide +kernel
theorem dX4_awaitCorrection_13 : decode cX4_awaitCorrection 13 = .ok (.ifCond .eq 17, 3) := by decide +kernel
theorem dX4_awaitCorrection_16 : decode cX4_awaitCorrection 16 = .ok (.aload_n 2, 1) := by decide +kernel
theorem dX4_awaitCorrection_17 : decode cX4_awaitCorrection 17 = .ok (.iconst 1, 1) := by decide +kernel
theorem dX4_awaitCorrection_18 : decode cX4_awaitCorrection 18 = .ok (.putfield 131, 3) := by decide +kernel
theorem dX4_awaitCorrection_21 : decode cX4_awaitCorrection 21 = .ok (.aload_n 0, 1) := by decide +kernel
theorem dX4_awaitCorrection_22 : decode cX4_awaitCorrection 22 = .ok (.getfield 21, 3) := by decide +kernel
theorem dX4_awaitCorrection_25 : decode cX4_awaitCorrection 25 = .ok (.aload_n 1, 1) := by decide +kernel
theorem dX4_awaitCorrection_26 : decode cX4_awaitCorrection 26 = .ok (.invokevirtual 138, 3) := by decide +kernel
theorem dX4_awaitCorrection_29 : decode cX4_awaitCorrection 29 = .ok (.pop, 1) := by decide +kernel
theorem dX4_awaitCorrection_30 : decode cX4_awaitCorrection 30 = .ok (.return_, 1) := by decide +kernel
abbrev rm_m_X4_awaitCorrection : Room := { frames := 7, cells := 1, slots := 49, locals := 191 }
set_option maxHeartbeats 4000000 in
set_option maxRecDepth 100000 in
theorem m_X4_awaitCorrection {s0 : State} {l : Launch} {D : va_G} {cy : Nat → ClassId} (G : Gl s0 l D cy) (S : HS) (ea ns nj nm nt nr nc : Nat) (h : CI ea S ns nj nm nt nr nc) (j : Nat) (hj : j < nt) (hea : ea = eaOf s0) (hro : pOut S j = true → nc + 1 ≤ cntB (pOut S) nt) : Ctr s0 l D cy yX4_awaitCorrection cX4_awaitCorrection 3 none rm_m_X4_awaitCorrection S [.ref (gG S 4 0), .ref (gG S 9 j)] (fun v S' => none = v ∧ ∃ nc', CI ea S' ns nj nm nt nr nc' ∧ Kq (hidV false) hiH (hidR false) S S' ∧ (∀ i, mI S' 104 i = mI S 104 i) ∧ mI S' 69 0 = mI S 69 0) := by
  refine pro "CavershamShift$Newsroom" G rfl rfl (Nat.le_of_ble_eq_true rfl) (fun p e s m below meth c ls X w hnm hl => ?_)
  have hx := X.1
  have hb := X.2.1
  have hown := X.2.2.2.1
  have hts := X.2.2.2.2.1
  have hl : lv_has ls 3 [(0, .ref (gG S 4 0)), (1, .ref (gG S 9 j))] := hl
  have h0 := h
  have hK : Kq (hidV false) hiH (hidR false) S S := Kq.rf
  have hb9 := h.b_co
  refine lv_aload_n hx hb dX4_awaitCorrection_0 rfl (lv_at hl 1 rfl) ?_
  rcases h.t_rp j hj with her1 | ⟨her1, hvr1⟩
  · refine g_9_8 (S := S) (x := none) X w (h.e_ta j hj).2 wF_X4_71 (her1) dX4_awaitCorrection_1 ?_
    refine lv_astore_nN (lv' := [(2, .null), (0, .ref (gG S 4 0)), (1, .ref (gG S 9 j))]) hx hb dX4_awaitCorrection_4 rfl hl (by decide) rfl (fun ls hl => ?_)
    refine lv_aload_nN hx hb dX4_awaitCorrection_5 rfl (lv_at hl 0 rfl) ?_
    refine lv_ifnullN (tgt := 30) hx hb dX4_awaitCorrection_6 (by decide) ?_
    exact rV X w rfl dX4_awaitCorrection_30 (by decide) (by decide) (⟨rfl, _, h, hK, fun _ => rfl, rfl⟩)
  · refine g_9_8 (S := S) (x := (some (gG S 6 j))) X w (h.e_ta j hj).2 wF_X4_71 (her1) dX4_awaitCorrection_1 ?_
    refine lv_astore_n (lv' := [(2, .ref (gG S 6 j)), (0, .ref (gG S 4 0)), (1, .ref (gG S 9 j))]) hx hb dX4_awaitCorrection_4 rfl hl (by decide) rfl (fun ls hl => ?_)
    refine lv_aload_n hx hb dX4_awaitCorrection_5 rfl (lv_at hl 0 rfl) ?_
    refine lv_ifnull hx hb dX4_awaitCorrection_6 ?_
    refine lv_aload_n hx hb dX4_awaitCorrection_9 rfl (lv_at hl 2 rfl) ?_
    refine cV (S := S) (nA := 0) (As := []) (rest := []) X w hl (h.e_ta j hj).2 (m_X9_isInError G S ea ns nj nm nt nr nc h j hj) wY_X9_isInError wM_X4_134 wIn_X9_isInError wSe_X9_X9_isInError wI_X9 (by decide) rfl (by decide +kernel) rfl rfl dX4_awaitCorrection_10 ⟨by decide, by decide⟩ (Nat.le_of_ble_eq_true rfl) (⟨Nat.le_of_ble_eq_true rfl, Nat.le_of_ble_eq_true rfl⟩) (fun v3 S1 H locs hp w => ?_)
    obtain ⟨⟨xe, rfl, hpe⟩, rfl⟩ := hp
    refine lv_if_eq (tgt := 30) hx hb dX4_awaitCorrection_13 (by decide) (fun hce => ?_) (fun hce => ?_)
    · exact rV X w rfl dX4_awaitCorrection_30 (by decide) (by decide) (⟨rfl, _, h, hK, fun _ => rfl, rfl⟩)
    · refine lv_aload_n hx hb dX4_awaitCorrection_16 rfl (lv_at hl 0 rfl) ?_
      refine lv_iconst (v := 1) hx hb dX4_awaitCorrection_17 (by decide) ?_
      refine p_6_11 (S := S) (x := 1) X w hvr1 wF_X4_131 dX4_awaitCorrection_18 (fun H locs w => ?_)
      have h : CI ea (sI S 107 j 1) ns nj nm nt nr nc := h.stI (by decide)
      have hK : Kq (hidV false) hiH (hidR false) S (sI S 107 j 1) := hK.sI rfl
      refine lv_aload_n hx hb dX4_awaitCorrection_21 rfl (lv_at hl 1 rfl) ?_
      refine g_4_2 (S := (sI S 107 j 1)) (x := (some (gG (sI S 107 j 1) 17 5))) X w h.v4 wF_X4_21 (h.f66) dX4_awaitCorrection_22 ?_
      refine lv_aload_n hx hb dX4_awaitCorrection_25 rfl (lv_at hl 2 rfl) ?_
      refine cV (S := (sI S 107 j 1)) (nA := 1) (As := [.ref (gG S 9 j)]) (rest := []) X w hl h.l_co.1 (add_co G (sI S 107 j 1) ea ns nj nm nt nr nc h hea j hj (by omega)) wY_Jx4a65c_add_9ea2d wM_X4_138 wIn_Jx4a65c_add_9ea2d wSe_Jx4a65c_Jx4a65c_add_9ea2d wI_Jx4a65c (by decide) rfl (by decide +kernel) rfl rfl dX4_awaitCorrection_26 ⟨by decide, by decide⟩ (Nat.le_of_ble_eq_true rfl) (⟨Nat.le_of_ble_eq_true rfl, Nat.le_of_ble_eq_true rfl⟩) (fun v4 S1 H locs hp w => ?_)
      obtain ⟨rfl, q2, m2, b2, rfl, hb0, hb1⟩ := hp
      have h : CI ea (addS (sI S 107 j 1) 5 q2 (capOf (nc + 1)) m2 (nI (nc + 1)) b2) ns nj nm nt nr (nc + 1) := h.addco hj (hro (hpe (b2i_t hce))) hb0 hb1
      have hK : Kq (hidV false) hiH (hidR false) S (addS (sI S 107 j 1) 5 q2 (capOf (nc + 1)) m2 (nI (nc + 1)) b2) := hK.add rfl rfl rfl rfl
      refine lv_pop hx hb dX4_awaitCorrection_29 rfl ?_
      exact rV X w rfl dX4_awaitCorrection_30 (by decide) (by decide) (⟨rfl, _, h, hK, fun _ => rfl, rfl⟩)

theorem dX4_markSent_0 : decode cX4_markSent 0 = .ok (.aload_n 0, 1) := by decide +kernel
theorem dX4_markSent_1 : decode cX4_markSent 1 = .ok (.dup, 1) := by decide +kernel
theorem dX4_markSent_2 : decode cX4_markSent 2 = .ok (.getfield 24, 3) := by decide +kernel
theorem dX4_markSent_5 : decode cX4_markSent 5 = .ok (.aload_n 2, 1) := by decide +kernel
theorem dX4_markSent_6 : decode cX4_markSent 6 = .ok (.getfield 96, 3) := by decide +kernel
theorem dX4_markSent_9 : decode cX4_markSent 9 = .ok (.isub, 1) := by decide +kernel
theorem dX4_markSent_10 : decode cX4_markSent 10 = .ok (.putfield 24, 3) := by decide +kernel
theorem dX4_markSent_13 : decode cX4_markSent 13 = .ok (.aload_n 2, 1) := by decide +kernel
theorem dX4_markSent_14 : decode cX4_markSent 14 = .ok (.iconst 1, 1) := by decide +kernel
theorem dX4_markSent_15 : decode cX4_markSent 15 = .ok (.putfield 56, 3) := by decide +kernel
theorem dX4_markSent_18 : decode cX4_markSent 18 = .ok (.aload_n 2, 1) := by decide +kernel
theorem dX4_markSent_19 : decode cX4_markSent 19 = .ok (.iload_n 3, 1) := by decide +kernel
theorem dX4_markSent_20 : decode cX4_markSent 20 = .ok (.putfield 103, 3) := by decide +kernel
theorem dX4_markSent_23 : decode cX4_markSent 23 = .ok (.aload_n 2, 1) := by decide +kernel
theorem dX4_markSent_24 : decode cX4_markSent 24 = .ok (.aload_n 0, 1) := by decide +kernel
theorem dX4_markSent_25 : decode cX4_markSent 25 = .ok (.getfield 106, 3) := by decide +kernel
theorem dX4_markSent_28 : decode cX4_markSent 28 = .ok (.putfield 109, 3) := by decide +kernel
theorem dX4_markSent_31 : decode cX4_markSent 31 = .ok (.aload_n 0, 1) := by decide +kernel
theorem dX4_markSent_32 : decode cX4_markSent 32 = .ok (.dup, 1) := by decide +kernel
theorem dX4_markSent_33 : decode cX4_markSent 33 = .ok (.getfield 106, 3) := by decide +kernel
theorem dX4_markSent_36 : decode cX4_markSent 36 = .ok (.iconst 1, 1) := by decide +kernel
theorem dX4_markSent_37 : decode cX4_markSent 37 = .ok (.iadd, 1) := by decide +kernel
theorem dX4_markSent_38 : decode cX4_markSent 38 = .ok (.putfield 106, 3) := by decide +kernel
theorem dX4_markSent_41 : decode cX4_markSent 41 = .ok (.iconst 0, 1) := by decide +kernel
theorem dX4_markSent_42 : decode cX4_markSent 42 = .ok (.istore 4, 2) := by decide +kernel
theorem dX4_markSent_44 : decode cX4_markSent 44 = .ok (.iload 4, 2) := by decide +kernel
theorem dX4_markSent_46 : decode cX4_markSent 46 = .ok (.aload_n 0, 1) := by decide +kernel
theorem dX4_markSent_47 : decode cX4_markSent 47 = .ok (.getfield 18, 3) := by decide +kernel
theorem dX4_markSent_50 : decode cX4_markSent 50 = .ok (.invokevirtual 28, 3) := by decide +kernel
theorem dX4_markSent_53 : decode cX4_markSent 53 = .ok (.if_icmp .ge 41, 3) := by decide +kernel
theorem dX4_markSent_56 : decode cX4_markSent 56 = .ok (.aload_n 1, 1) := by decide +kernel
theorem dX4_markSent_57 : decode cX4_markSent 57 = .ok (.aload_n 0, 1) := by decide +kernel
theorem dX4_markSent_58 : decode cX4_markSent 58 = .ok (.getfield 18, 3) := by decide +kernel
theorem dX4_markSent_61 : decode cX4_markSent 61 = .ok (.iload 4, 2) := by decide +kernel
theorem dX4_markSent_63 : decode cX4_markSent 63 = .ok (.invokevirtual 36, 3) := by decide +kernel
theorem dX4_markSent_66 : decode cX4_markSent 66 = .ok (.checkcast 42, 3) := by decide +kernel
theorem dX4_markSent_69 : decode cX4_markSent 69 = .ok (.invokevirtual 112, 3) := by decide +kernel
theorem dX4_markSent_72 : decode cX4_markSent 72 = .ok (.ifCond .eq 16, 3) := by decide +kernel
theorem dX4_markSent_75 : decode cX4_markSent 75 = .ok (.aload_n 2, 1) := by decide +kernel
theorem dX4_markSent_76 : decode cX4_markSent 76 = .ok (.dup, 1) := by decide +kernel
theorem dX4_markSent_77 : decode cX4_markSent 77 = .ok (.getfield 116, 3) := by decide +kernel
theorem dX4_markSent_80 : decode cX4_markSent 80 = .ok (.iconst 1, 1) := by decide +kernel
theorem dX4_markSent_81 : decode cX4_markSent 81 = .ok (.iload 4, 2) := by decide +kernel
theorem dX4_markSent_83 : decode cX4_markSent 83 = .ok (.ishl, 1) := by decide +kernel
theorem dX4_markSent_84 : decode cX4_markSent 84 = .ok (.ior, 1) := by decide +kernel
theorem dX4_markSent_85 : decode cX4_markSent 85 = .ok (.putfield 116, 3) := by decide +kernel
theorem dX4_markSent_88 : decode cX4_markSent 88 = .ok (.iinc 4 1, 3) := by decide +kernel
theorem dX4_markSent_91 : decode cX4_markSent 91 = .ok (.goto (-47), 3) := by decide +kernel
theorem dX4_markSent_94 : decode cX4_markSent 94 = .ok (.aload_n 0, 1) := by decide +kernel
theorem dX4_markSent_95 : decode cX4_markSent 95 = .ok (.aload_n 1, 1) := by decide +kernel
theorem dX4_markSent_96 : decode cX4_markSent 96 = .ok (.invokevirtual 118, 3) := by decide +kernel
theorem dX4_markSent_99 : decode cX4_markSent 99 = .ok (.return_, 1) := by decide +kernel
abbrev rm_m_X4_markSent : Room := { frames := 8, cells := 1, slots := 49, locals := 213 }
set_option maxHeartbeats 4000000 in
set_option maxRecDepth 100000 in
theorem m_X4_markSent {s0 : State} {l : Launch} {D : va_G} {cy : Nat → ClassId} (G : Gl s0 l D cy) (S : HS) (ea ns nj nm nt nr nc : Nat) (h : CI ea S ns nj nm nt nr nc) (j : Nat) (hj : j < nt) (hv : vV S 6 j) (hrp : mR S 152 j = some (gG S 6 j)) (hw : mI S 104 j = 0) (hle : ¬ mI S 69 0 < mI S 97 j) (hea : ea = eaOf s0) (a : Int32) : Ctr s0 l D cy yX4_markSent cX4_markSent 5 none rm_m_X4_markSent S [.ref (gG S 4 0), .ref (gG S 9 j), .ref (gG S 6 j), .int a] (fun v S' => none = v ∧ ∃ nc', CI ea S' ns nj nm nt nr nc' ∧ Kq (hidV false) hiH (hidR false) S S' ∧ (∀ i, mI S' 104 i = if i = j then 1 else mI S 104 i) ∧ mI S' 69 0 = mI S 69 0 - mI S 97 j) := by
  refine pro "CavershamShift$Newsroom" G rfl rfl (Nat.le_of_ble_eq_true rfl) (fun p e s m below meth c ls X w hnm hl => ?_)
  have hx := X.1
  have hb := X.2.1
  have hown := X.2.2.2.1
  have hts := X.2.2.2.2.1
  have hl : lv_has ls 5 [(0, .ref (gG S 4 0)), (1, .ref (gG S 9 j)), (2, .ref (gG S 6 j)), (3, .int a)] := hl
  have h0 := h
  have hK : Kq (hidV false) hiH (hidR false) S S := Kq.rf
  have hln : ¬ mI S 97 j < 0 := fun z => h.x_rl j hj ⟨(by rw [hrp]; exact Option.some_ne_none _), z⟩
  refine lv_aload_n hx hb dX4_markSent_0 rfl (lv_at hl 0 rfl) ?_
  refine lv_dup hx hb dX4_markSent_1 rfl ?_
  refine g_4_5 (S := S) (x := (mI S 69 0)) X w h.v4 wF_X4_24 (rfl) dX4_markSent_2 ?_
  refine lv_aload_n hx hb dX4_markSent_5 rfl (lv_at hl 2 rfl) ?_
  refine g_6_1 (S := S) (x := (mI S 97 j)) X w (Eq.mpr (hK.V (t := 6) (i := j) rfl) hv) wF_X4_96 (rfl) dX4_markSent_6 ?_
  refine lv_isub hx hb dX4_markSent_9 ?_
  refine p_4_5 (S := S) (x := ((mI S 69 0) - (mI S 97 j))) X w h.v4 wF_X4_24 dX4_markSent_10 (fun H locs w => ?_)
  have h : CI ea (sI S 69 0 ((mI S 69 0) - (mI S 97 j))) ns nj nm nt nr nc := h.s69 (sub_nn hln hle)
  have hK : Kq (hidV false) hiH (hidR false) S (sI S 69 0 ((mI S 69 0) - (mI S 97 j))) := hK.sI rfl
  refine lv_aload_n hx hb dX4_markSent_13 rfl (lv_at hl 2 rfl) ?_
  refine lv_iconst (v := 1) hx hb dX4_markSent_14 (by decide) ?_
  refine p_6_8 (S := (sI S 69 0 ((mI S 69 0) - (mI S 97 j)))) (x := 1) X w (Eq.mpr (hK.V (t := 6) (i := j) rfl) hv) wF_X4_56 dX4_markSent_15 (fun H locs w => ?_)
  have h : CI ea (sI (sI S 69 0 ((mI S 69 0) - (mI S 97 j))) 104 j 1) ns nj nm nt nr nc := h.s104 (fun _ => rfl)
  have hK : Kq (hidV false) hiH (hidR false) S (sI (sI S 69 0 ((mI S 69 0) - (mI S 97 j))) 104 j 1) := hK.sI rfl
  refine lv_aload_n hx hb dX4_markSent_18 rfl (lv_at hl 2 rfl) ?_
  refine lv_iload_n hx hb dX4_markSent_19 rfl (lv_at hl 3 rfl) ?_
  refine p_6_9 (S := (sI (sI S 69 0 ((mI S 69 0) - (mI S 97 j))) 104 j 1)) (x := a) X w (Eq.mpr (hK.V (t := 6) (i := j) rfl) hv) wF_X4_103 dX4_markSent_20 (fun H locs w => ?_)
  have h : CI ea (sI (sI (sI S 69 0 ((mI S 69 0) - (mI S 97 j))) 104 j 1) 105 j a) ns nj nm nt nr nc := h.stI (by decide)
  have hK : Kq (hidV false) hiH (hidR false) S (sI (sI (sI S 69 0 ((mI S 69 0) - (mI S 97 j))) 104 j 1) 105 j a) := hK.sI rfl
  refine lv_aload_n hx hb dX4_markSent_23 rfl (lv_at hl 2 rfl) ?_
  refine lv_aload_n hx hb dX4_markSent_24 rfl (lv_at hl 0 rfl) ?_
  refine g_4_4 (S := (sI (sI (sI S 69 0 ((mI S 69 0) - (mI S 97 j))) 104 j 1) 105 j a)) (x := (mI (sI (sI (sI S 69 0 ((mI S 69 0) - (mI S 97 j))) 104 j 1) 105 j a) 68 0)) X w h.v4 wF_X4_106 (rfl) dX4_markSent_25 ?_
  refine p_6_10 (S := (sI (sI (sI S 69 0 ((mI S 69 0) - (mI S 97 j))) 104 j 1) 105 j a)) (x := (mI (sI (sI (sI S 69 0 ((mI S 69 0) - (mI S 97 j))) 104 j 1) 105 j a) 68 0)) X w (Eq.mpr (hK.V (t := 6) (i := j) rfl) hv) wF_X4_109 dX4_markSent_28 (fun H locs w => ?_)
  have h : CI ea (sI (sI (sI (sI S 69 0 ((mI S 69 0) - (mI S 97 j))) 104 j 1) 105 j a) 106 j (mI (sI (sI (sI S 69 0 ((mI S 69 0) - (mI S 97 j))) 104 j 1) 105 j a) 68 0)) ns nj nm nt nr nc := h.stI (by decide)
  have hK : Kq (hidV false) hiH (hidR false) S (sI (sI (sI (sI S 69 0 ((mI S 69 0) - (mI S 97 j))) 104 j 1) 105 j a) 106 j (mI (sI (sI (sI S 69 0 ((mI S 69 0) - (mI S 97 j))) 104 j 1) 105 j a) 68 0)) := hK.sI rfl
  refine lv_aload_n hx hb dX4_markSent_31 rfl (lv_at hl 0 rfl) ?_
  refine lv_dup hx hb dX4_markSent_32 rfl ?_
  refine g_4_4 (S := (sI (sI (sI (sI S 69 0 ((mI S 69 0) - (mI S 97 j))) 104 j 1) 105 j a) 106 j (mI (sI (sI (sI S 69 0 ((mI S 69 0) - (mI S 97 j))) 104 j 1) 105 j a) 68 0))) (x := (mI (sI (sI (sI (sI S 69 0 ((mI S 69 0) - (mI S 97 j))) 104 j 1) 105 j a) 106 j (mI (sI (sI (sI S 69 0 ((mI S 69 0) - (mI S 97 j))) 104 j 1) 105 j a) 68 0)) 68 0)) X w h.v4 wF_X4_106 (rfl) dX4_markSent_33 ?_
  refine lv_iconst (v := 1) hx hb dX4_markSent_36 (by decide) ?_
  refine lv_iadd hx hb dX4_markSent_37 ?_
  refine p_4_4 (S := (sI (sI (sI (sI S 69 0 ((mI S 69 0) - (mI S 97 j))) 104 j 1) 105 j a) 106 j (mI (sI (sI (sI S 69 0 ((mI S 69 0) - (mI S 97 j))) 104 j 1) 105 j a) 68 0))) (x := ((mI (sI (sI (sI (sI S 69 0 ((mI S 69 0) - (mI S 97 j))) 104 j 1) 105 j a) 106 j (mI (sI (sI (sI S 69 0 ((mI S 69 0) - (mI S 97 j))) 104 j 1) 105 j a) 68 0)) 68 0) + 1)) X w h.v4 wF_X4_106 dX4_markSent_38 (fun H locs w => ?_)
  have h : CI ea (sI (sI (sI (sI (sI S 69 0 ((mI S 69 0) - (mI S 97 j))) 104 j 1) 105 j a) 106 j (mI (sI (sI (sI S 69 0 ((mI S 69 0) - (mI S 97 j))) 104 j 1) 105 j a) 68 0)) 68 0 ((mI (sI (sI (sI (sI S 69 0 ((mI S 69 0) - (mI S 97 j))) 104 j 1) 105 j a) 106 j (mI (sI (sI (sI S 69 0 ((mI S 69 0) - (mI S 97 j))) 104 j 1) 105 j a) 68 0)) 68 0) + 1)) ns nj nm nt nr nc := h.stI (by decide)
  have hK : Kq (hidV false) hiH (hidR false) S (sI (sI (sI (sI (sI S 69 0 ((mI S 69 0) - (mI S 97 j))) 104 j 1) 105 j a) 106 j (mI (sI (sI (sI S 69 0 ((mI S 69 0) - (mI S 97 j))) 104 j 1) 105 j a) 68 0)) 68 0 ((mI (sI (sI (sI (sI S 69 0 ((mI S 69 0) - (mI S 97 j))) 104 j 1) 105 j a) 106 j (mI (sI (sI (sI S 69 0 ((mI S 69 0) - (mI S 97 j))) 104 j 1) 105 j a) 68 0)) 68 0) + 1)) := hK.sI rfl
  refine lv_iconst (v := 0) hx hb dX4_markSent_41 (by decide) ?_
  refine lv_istore (lv' := [(4, .int 0), (0, .ref (gG S 4 0)), (1, .ref (gG S 9 j)), (2, .ref (gG S 6 j)), (3, .int a)]) hx hb dX4_markSent_42 hl (by decide) rfl (fun ls hl => ?_)
  have L44 : ∀ (N : Nat) (k44 : Nat) (T44 : HS) (H : Heap) (locs : List Loc) (ls : Array Slot), nr - k44 < N → (k44 ≤ nr) → (CI ea T44 ns nj nm nt nr nc) → (Kq (hidV false) hiH (hidR false) S T44) → (∀ i, mI T44 104 i = if i = j then 1 else mI S 104 i) → (mI T44 69 0 = mI S 69 0 - mI S 97 j) → Wd s0 D cy T44 s.heap H locs → lv_has ls 5 [(4, .int (nI k44)), (0, .ref (gG S 4 0)), (1, .ref (gG S 9 j)), (2, .ref (gG S 6 j)), (3, .int a)] → W p l e rm_m_X4_markSent s m ([.ref (gG S 4 0), .ref (gG S 9 j), .ref (gG S 6 j), .int a] : List Value).toArray below meth c H locs 0 0 (MQ below (GQ s0 D cy (fun v S' => none = v ∧ ∃ nc', CI ea S' ns nj nm nt nr nc' ∧ Kq (hidV false) hiH (hidR false) S S' ∧ (∀ i, mI S' 104 i = if i = j then 1 else mI S 104 i) ∧ mI S' 69 0 = mI S 69 0 - mI S 97 j)) ([.ref (gG S 4 0), .ref (gG S 9 j), .ref (gG S 6 j), .int a] : List Value).toArray s rm_m_X4_markSent.cells rm_m_X4_markSent.slots (A0 s0)) (F0 m 44 ls []) := by
    intro N
    induction N with
    | zero => intros; omega
    | succ N ih44 =>
      intro k44 T44 H locs ls hmu hk_k44 h hK_T44 e104 e69 w hl
      have hK := hK_T44
      refine lv_iload hx hb dX4_markSent_44 (lv_at hl 0 rfl) ?_
      refine lv_aload_n hx hb dX4_markSent_46 rfl (lv_at hl 1 rfl) ?_
      refine rE0 ((rfl).trans ((hK_T44.G (t := 4) (i := 0) rfl)).symm) ?_
      refine g_4_1 (S := T44) (x := (some (gG T44 17 4))) X w h.v4 wF_X4_18 (h.f65) dX4_markSent_47 ?_
      refine cV (S := T44) (nA := 0) (As := []) (rest := [.int (nI k44)]) X w hl h.l_re.1 (m_size G T44 ea 4 nr h.l_re) wY_Jx4a65c_size_8abf5 wM_X4_28 wIn_Jx4a65c_size_8abf5 wSe_Jx4a65c_Jx4a65c_size_8abf5 wI_Jx4a65c (by decide) rfl (by decide +kernel) rfl rfl dX4_markSent_50 ⟨by decide, by decide⟩ (Nat.le_of_ble_eq_true rfl) (⟨Nat.le_of_ble_eq_true rfl, Nat.le_of_ble_eq_true rfl⟩) (fun v1 S1 H locs hp w => ?_)
      obtain ⟨rfl, rfl⟩ := hp
      refine lv_icmp_ge (tgt := 94) hx hb dX4_markSent_53 (by decide) (fun hc_k44 => ?_) (fun hc_k44 => ?_)
      · have hge_k44 : nr ≤ k44 := by
          have hb1 := h.b_re
          exact (nI_leI (a := nr) (b := k44) (by omega) (by omega)).mp hc_k44
        refine lv_aload_n hx hb dX4_markSent_94 rfl (lv_at hl 1 rfl) ?_
        refine lv_aload_n hx hb dX4_markSent_95 rfl (lv_at hl 2 rfl) ?_
        refine rE0 ((rfl).trans ((hK_T44.G (t := 9) (i := j) rfl)).symm) ?_
        refine rE1 ((rfl).trans ((hK_T44.G (t := 4) (i := 0) rfl)).symm) ?_
        refine cV (S := T44) (nA := 1) (As := [.ref (gG T44 9 j)]) (rest := []) X w hl h.v4 (m_X4_awaitCorrection G T44 ea ns nj nm nt nr nc h j hj (hea) (co_room hj h0.x_co (by rw [hw]; decide) e104 (fun i => hK.R rfl) (fun i => hK.I rfl))) wY_X4_awaitCorrection wM_X4_118 wIn_X4_awaitCorrection wSe_X4_X4_awaitCorrection wI_X4 (by decide) rfl (by decide +kernel) rfl rfl dX4_markSent_96 ⟨by decide, by decide⟩ (Nat.le_of_ble_eq_true rfl) (⟨Nat.le_of_ble_eq_true rfl, Nat.le_of_ble_eq_true rfl⟩) (fun v5 U2 H locs hp w => ?_)
        obtain ⟨rfl, nc3, h, hkU2, e104c, e69c⟩ := hp
        have hK_U2 : Kq (hidV false) hiH (hidR false) S U2 := hK.tr hkU2
        have hK := hK_U2
        exact rV X w rfl dX4_markSent_99 (by decide) (by decide) (⟨rfl, _, h, hK, fun i => (e104c i).trans (e104 i), e69c.trans e69⟩)
      · have hlt_k44 : k44 < nr := by
          have hb1 := h.b_re
          exact Nat.lt_of_not_le (fun z => hc_k44 ((nI_leI (a := nr) (b := k44) (by omega) (by omega)).mpr z))
        refine lv_aload_n hx hb dX4_markSent_56 rfl (lv_at hl 2 rfl) ?_
        refine lv_aload_n hx hb dX4_markSent_57 rfl (lv_at hl 1 rfl) ?_
        refine rE0 ((rfl).trans ((hK_T44.G (t := 4) (i := 0) rfl)).symm) ?_
        refine g_4_1 (S := T44) (x := (some (gG T44 17 4))) X w h.v4 wF_X4_18 (h.f65) dX4_markSent_58 ?_
        refine lv_iload hx hb dX4_markSent_61 (lv_at hl 0 rfl) ?_
        refine cV (S := T44) (nA := 1) (As := [.int (nI k44)]) (rest := [.ref (gG S 9 j)]) X w hl h.l_re.1 (m_get G T44 ea 4 k44 nr (some (gG T44 5 k44)) h.l_re hlt_k44 (h.e_re k44 hlt_k44).1) wY_Jx4a65c_get_915e3 wM_X4_36 wIn_Jx4a65c_get_915e3 wSe_Jx4a65c_Jx4a65c_get_915e3 wI_Jx4a65c (by decide) rfl (by decide +kernel) rfl rfl dX4_markSent_63 ⟨by decide, by decide⟩ (Nat.le_of_ble_eq_true rfl) (⟨Nat.le_of_ble_eq_true rfl, Nat.le_of_ble_eq_true rfl⟩) (fun v6 S1 H locs hp w => ?_)
        obtain ⟨rfl, rfl⟩ := hp
        refine ckC (S := T44) (t := 5) X w (h.e_re k44 hlt_k44).2 (by decide) rfl wC_X4_42 dX4_markSent_66 ?_
        refine rE1 ((rfl).trans ((hK_T44.G (t := 9) (i := j) rfl)).symm) ?_
        refine cV (S := T44) (nA := 1) (As := [.ref (gG T44 5 k44)]) (rest := []) X w hl (h.e_ta j hj).2 (m_X9_isFor G T44 ea ns nj nm nt nr nc h j hj k44 hlt_k44) wY_X9_isFor wM_X4_112 wIn_X9_isFor wSe_X9_X9_isFor wI_X9 (by decide) rfl (by decide +kernel) rfl rfl dX4_markSent_69 ⟨by decide, by decide⟩ (Nat.le_of_ble_eq_true rfl) (⟨Nat.le_of_ble_eq_true rfl, Nat.le_of_ble_eq_true rfl⟩) (fun v8 S1 H locs hp w => ?_)
        obtain ⟨⟨x7, rfl⟩, rfl⟩ := hp
        have J88 : ∀ (TJ88 : HS) (H : Heap) (locs : List Loc) (ls : Array Slot), (CI ea TJ88 ns nj nm nt nr nc) → (Kq (hidV false) hiH (hidR false) S TJ88) → (∀ i, mI TJ88 104 i = if i = j then 1 else mI S 104 i) → (mI TJ88 69 0 = mI S 69 0 - mI S 97 j) → Wd s0 D cy TJ88 s.heap H locs → lv_has ls 5 [(4, .int (nI k44)), (0, .ref (gG S 4 0)), (1, .ref (gG S 9 j)), (2, .ref (gG S 6 j)), (3, .int a)] → W p l e rm_m_X4_markSent s m ([.ref (gG S 4 0), .ref (gG S 9 j), .ref (gG S 6 j), .int a] : List Value).toArray below meth c H locs 0 0 (MQ below (GQ s0 D cy (fun v S' => none = v ∧ ∃ nc', CI ea S' ns nj nm nt nr nc' ∧ Kq (hidV false) hiH (hidR false) S S' ∧ (∀ i, mI S' 104 i = if i = j then 1 else mI S 104 i) ∧ mI S' 69 0 = mI S 69 0 - mI S 97 j)) ([.ref (gG S 4 0), .ref (gG S 9 j), .ref (gG S 6 j), .int a] : List Value).toArray s rm_m_X4_markSent.cells rm_m_X4_markSent.slots (A0 s0)) (F0 m 88 ls []) := by
          intro TJ88 H locs ls h hK_TJ88 e104 e69 w hl
          have hK := hK_TJ88
          refine lv_iinc (v := nI (k44 + 1)) (lv' := [(4, .int (nI (k44 + 1))), (0, .ref (gG S 4 0)), (1, .ref (gG S 9 j)), (2, .ref (gG S 6 j)), (3, .int a)]) hx hb dX4_markSent_88 hl (k := 0) rfl (nI_1 _) (by decide) rfl (fun ls hl => ?_)
          refine lv_goto (tgt := 44) hx hb dX4_markSent_91 (by decide) ?_
          exact ih44 (k44 + 1) TJ88 _ _ _ (by omega) (hlt_k44) (h) (hK) (e104) (e69) w (lv_sub hl [0, 1, 2, 3, 4] rfl)
        refine lv_if_eq (tgt := 88) hx hb dX4_markSent_72 (by decide) (fun hc9 => ?_) (fun hc9 => ?_)
        · exact J88 T44 _ _ _ (h) (hK) (e104) (e69) w (lv_sub hl [0, 1, 2, 3, 4] rfl)
        · refine lv_aload_n hx hb dX4_markSent_75 rfl (lv_at hl 3 rfl) ?_
          refine lv_dup hx hb dX4_markSent_76 rfl ?_
          refine rE0 ((rfl).trans ((hK_T44.G (t := 6) (i := j) rfl)).symm) ?_
          refine g_6_12 (S := T44) (x := (mI T44 108 j)) X w (Eq.mpr (hK.V (t := 6) (i := j) rfl) hv) wF_X4_116 (rfl) dX4_markSent_77 ?_
          refine lv_iconst (v := 1) hx hb dX4_markSent_80 (by decide) ?_
          refine lv_iload hx hb dX4_markSent_81 (lv_at hl 0 rfl) ?_
          refine lv_ishl hx hb dX4_markSent_83 ?_
          refine lv_ior hx hb dX4_markSent_84 ?_
          refine rE1 ((rfl).trans ((hK_T44.G (t := 6) (i := j) rfl)).symm) ?_
          refine p_6_12 (S := T44) (x := ((mI T44 108 j) ||| (1 <<< ((nI k44) &&& 31)))) X w (Eq.mpr (hK.V (t := 6) (i := j) rfl) hv) wF_X4_116 dX4_markSent_85 (fun H locs w => ?_)
          have h : CI ea (sI T44 108 j ((mI T44 108 j) ||| (1 <<< ((nI k44) &&& 31)))) ns nj nm nt nr nc := h.stI (by decide)
          have hK : Kq (hidV false) hiH (hidR false) S (sI T44 108 j ((mI T44 108 j) ||| (1 <<< ((nI k44) &&& 31)))) := hK.sI rfl
          exact J88 (sI T44 108 j ((mI T44 108 j) ||| (1 <<< ((nI k44) &&& 31)))) _ _ _ (h) (hK) (e104) (e69) w (lv_sub hl [0, 1, 2, 3, 4] rfl)
  exact L44 _ 0 (sI (sI (sI (sI (sI S 69 0 ((mI S 69 0) - (mI S 97 j))) 104 j 1) 105 j a) 106 j (mI (sI (sI (sI S 69 0 ((mI S 69 0) - (mI S 97 j))) 104 j 1) 105 j a) 68 0)) 68 0 ((mI (sI (sI (sI (sI S 69 0 ((mI S 69 0) - (mI S 97 j))) 104 j 1) 105 j a) 106 j (mI (sI (sI (sI S 69 0 ((mI S 69 0) - (mI S 97 j))) 104 j 1) 105 j a) 68 0)) 68 0) + 1)) _ _ _ (Nat.lt_succ_self _) (Nat.zero_le _) (h) (hK) (fun i => by simp [mI, sI, up2]) (by simp [mI, sI, up2]) w (lv_sub hl [0, 1, 2, 3, 4] rfl)
