theorem clamp_neg {x : Int32} (h : x < 0) : x.toNatClampNeg = 0 := by
  have h1 : x.toInt < 0 := by
    have z := Int32.lt_iff_toInt_lt.mp h
    have e : (0 : Int32).toInt = 0 := by decide
    omega
  show x.toInt.toNat = 0
  omega
theorem co_dek {A : HS} {nr c : Nat} (hc : c ≤ coN A) (hq : c < qN A) (h40 : qN A ≤ 40) : (mI (coL A nr c) 258 0 < 10 → c = coN A) ∧ (¬ mI (coL A nr c) 258 0 < 10 → c + 1 ≤ coN A) := by
  by_cases n : mI A 258 0 < 0
  · have e0 : coN A = 0 := by unfold coN; rw [clamp_neg n]; exact Nat.min_eq_left (Nat.zero_le _)
    have c0 : c = 0 := by omega
    subst c0
    exact ⟨fun _ => e0.symm, fun z => absurd (Int32.lt_trans n (by decide)) z⟩
  · obtain ⟨w, hw, e⟩ := nI_of n
    have ec : coN A = min (w / 10) (qN A) := by unfold coN; rw [e, nI_clamp hw]
    have c1 : c ≤ w / 10 := Nat.le_trans hc (by rw [ec]; exact Nat.min_le_left _ _)
    rw [co_258 e c (by omega), ec]
    constructor
    · intro z
      have z1 := (nI_ltI (a := w - 10 * c) (b := 10) (by omega) (by decide)).mp z
      rw [Nat.min_eq_left (by omega)]; omega
    · intro z
      have z1 : ¬ w - 10 * c < 10 := fun y => z ((nI_ltI (a := w - 10 * c) (b := 10) (by omega) (by decide)).mpr y)
      exact Nat.le_min.mpr ⟨by omega, hq⟩
theorem coN_q {A : HS} : coN A ≤ qN A := Nat.min_le_right _ _
theorem goT_t {A : HS} {q n : Nat} (e : mA (goT A q n) 35 n q = 1) : goT A q (n + 1) = sA (goT A q n) 35 n (upd (mA (goT A q n) 35 n) q 2) := by
  have e2 : mA (goT A q n) 35 n = mA A 35 n := by rw [goT_35, if_neg (fun z => Nat.lt_irrefl _ z.1)]
  rw [e2] at e ⊢
  exact if_pos e
theorem goT_f {A : HS} {q n : Nat} (e : ¬ mA (goT A q n) 35 n q = 1) : goT A q (n + 1) = goT A q n := by
  have e2 : mA (goT A q n) 35 n = mA A 35 n := by rw [goT_35, if_neg (fun z => Nat.lt_irrefl _ z.1)]
  rw [e2] at e
  exact if_neg e
theorem RF.i12 {s0 : State} {S A : HS} {nq nt q : Nat} {x : Option Nat} (h : RF s0 S A nq nt) : RF s0 (sR (sI (sNew S 17 12 q) 272 12 0) 273 12 x) A nq nt := by
  refine ⟨fun f c j => Eq.trans (Eq.trans (up2_n (fun y => ?_)) (if_neg (fun y => ?_))) (h.1 f c j), h.2.1, h.2.2⟩
  · rw [y.1] at c; exact absurd c (by decide)
  · have y1 := y.1
    unfold inF at c
    simp only [Bool.or_eq_true, Bool.and_eq_true, Nat.ble_eq, beq_iff_eq] at c
    omega
theorem RF.oAdd {s0 : State} {S A : HS} {nq nt k q c : Nat} {m z : Int32} {b : Nat → Option Nat} (h : RF s0 S A nq nt) (hk : ¬ k = 11) : RF s0 (addS S k q c m z b) A nq nt := by
  refine ⟨fun f cf i => Eq.trans ((up2_n (fun y => ?_)).trans (up2_n (fun y => ?_))) (h.1 f cf i), h.2.1, h.2.2.1, fun i hi => ?_⟩
  · rw [y.1] at cf; exact absurd cf (by decide)
  · rw [y.1] at cf; exact absurd cf (by decide)
  · obtain ⟨g, h1, h2, h3⟩ := h.2.2.2 i hi
    exact ⟨g, h1, h2, (congrFun (up2_n (fun y => hk y.2.symm)) i).trans h3⟩
theorem RF.swq {s0 : State} {S T A : HS} {nr nq nt n2 : Nat} {x : Option Nat} (h : RF s0 T (coL A nr (coN A)) nq nt) (hn : n2 + coN A = nq) (hB : ∀ i, i < n2 → mB T 30 12 i = some (iq s0 (qT A (coN A + i)))) (h40 : nt ≤ 40) : RF s0 (swQ S (sR T 267 0 x)) (coA A nr) n2 nt := by
  have hq : qN A = nq := (coL_q (nr := nr) (coN A)).symm.trans h.2.2.1
  refine ⟨fun f c j => ?_, fun t c j => ?_, ?_, fun i hi => ?_⟩
  · have n1 : ¬ ((f = 272 ∨ f = 274) ∧ j = 11) := fun y => by
      rcases y.1 with z | z <;> rw [z] at c <;> exact absurd c (by decide)
    have n2 : ¬ (f / 16 = 17 ∧ j = 12) := fun y => by
      have y1 := y.1
      unfold inF at c
      simp only [Bool.or_eq_true, Bool.and_eq_true, Nat.ble_eq, beq_iff_eq] at c
      omega
    exact ((if_neg n1).trans (if_neg n2)).trans (h.1 f c j)
  · have n1 : ¬ ((t = 17 ∨ t = 30) ∧ j = 12) := fun y => by
      rcases y.1 with z | z <;> rw [z] at c <;> exact absurd c (by decide)
    have e60 : mA (coA A nr) t j = mA (coL A nr (coN A)) t j := by
      show up2 (mA (coL A nr (coN A))) 60 0 _ t j = _
      exact up2_n (fun y => by rw [y.1] at c; exact absurd c (by decide))
    rw [e60]
    exact (if_neg n1).trans (h.2.1 t c j)
  · show qN A - coN A = n2
    omega
  · obtain ⟨g, h1, h2, h3⟩ := h.2.2.2 (i + coN A) (by omega)
    rw [coL_60] at h2
    refine ⟨g, h1, h2, ?_⟩
    show mB T 30 12 i = _
    rw [hB i hi]
    unfold qT
    rw [Nat.add_comm (coN A) i, h2, nI_clamp (by omega)]
theorem rNx_c {A B : HS} {P Q : Nat → Bool} (h : ∀ j, mI A 244 j = mI B 244 j) : ∀ n, (∀ k, k < n → P k = Q k) → rNx A P n = rNx B Q n
  | 0, _ => rfl
  | n + 1, e => by
    have ih := rNx_c h n (fun k hk => e k (Nat.lt_succ_of_lt hk))
    have eb : ∀ j b, nxB A j b = nxB B j b := fun j b => by unfold nxB; rw [h j, h b]
    show (if P n = true ∧ (rNx A P n = -1 ∨ nxB A n (rNx A P n).toNatClampNeg = true) then nI n else rNx A P n) = _
    rw [ih, e n (Nat.lt_succ_self n), eb]
    rfl
theorem nx_conv {s0 : State} {S B : HS} {nq nt g : Nat} (h : RF s0 S B nq nt) (hg : mI S 257 0 = nI g) (hp : ∀ k, k < nt → mI S 247 k = 0 → mA S 40 0 k = 0) : rNx S (nxR S (mI B 258 0) (mA S 40 0)) nt = rNx B (nxP B g (mI B 258 0)) nt := rNx_c (h.1 244 rfl) nt (fun k hk => by
  by_cases c : mI S 247 k = 0
  · unfold nxR nxP
    rw [h.stale hg k, h.len k, ← h.1 247 rfl k, decide_eq_true c, decide_eq_true (hp k hk c)]
    simp
  · unfold nxR nxP
    rw [← h.1 247 rfl k, decide_eq_false c, Bool.false_and, Bool.false_and])
theorem SeQ.nx {A B : HS} {nt nr g b : Nat} (h : SeQ A B nt nr g) (e : rNx B (nxP B g (mI B 258 0)) nt = nI b) (hb : b < nt) (h40 : nt ≤ 40) (hp : nxP B g (mI B 258 0) b = true) : SeQ A (seT B nr g b) nt nr g := by
  obtain ⟨f, hf, e2⟩ := h
  have wt := wt_send (nr := nr) (g := g) hb (nxP_e hp).1
  cases f with
  | zero => omega
  | succ f =>
    refine ⟨f, by omega, e2.trans ?_⟩
    show (if rNx B (nxP B g (mI B 258 0)) nt = -1 then B else seL (seT B nr g (rNx B (nxP B g (mI B 258 0)) nt).toNatClampNeg) nt nr g f) = _
    rw [e, if_neg (nI_neg1 (by omega)), nI_clamp (by omega)]
theorem SeQ.done {A B : HS} {nt nr g : Nat} (h : SeQ A B nt nr g) (e : rNx B (nxP B g (mI B 258 0)) nt = -1) : seL A nt nr g (nt + 1) = B := by
  obtain ⟨f, hf, e2⟩ := h
  cases f with
  | zero => omega
  | succ f => exact e2.trans (if_pos e)
theorem tiR_T {A : HS} {x k : Nat} (e : rSetOf A x (nI k) = -1) : tiL A x (k + 1) = sI (sI (tiL A x k) 193 k (rHold (mI (tiL A x k) 193 k + (-2)) 0 40)) 194 k (mI (tiL A x k) 194 k + 0) := by
  rw [tiL_T e, hold_eq (by decide)]
theorem tiR_F {A : HS} {x k : Nat} (e : ¬ rSetOf A x (nI k) = -1) : tiL A x (k + 1) = sI (sI (tiL A x k) 193 k (rHold (mI (tiL A x k) 193 k + 3) 0 40)) 194 k (mI (tiL A x k) 194 k + 1) := by
  rw [tiL_F e, hold_eq (by decide)]
theorem v_or : ∀ v : Int32, (v = 0 ∨ v = 1) → (v ||| 1) = 1 ∧ ((v ||| 0) = 0 → v = 0) ∧ (¬ (v ||| 0) = 0 → (v ||| 0) = 1 ∧ v = 1) := fun v h => by
  rcases h with rfl | rfl <;> decide

abbrev rm_r_X16_correct : Room := { frames := 7, cells := 6, slots := 209, locals := 191 }
set_option maxHeartbeats 4000000 in
set_option maxRecDepth 100000 in
theorem r_X16_correct {s0 : State} {l : Launch} {D : va_G} {cy : Nat → ClassId} (G : Gl s0 l D cy) (S : HS) (ea ns nj nm nt nr nq : Nat) (h : RI ea S ns nj nm nt nr nq) (A : HS) (hE : RF s0 S A nq nt) (hea : ea = eaOf s0) (hZ : ¬ vV S 17 12 ∧ ¬ vV S 30 12) (hQ : QI s0 S nq nt) : Ctr s0 l D cy yX16_correct cX16_correct 5 none rm_r_X16_correct S [.ref (gG S 16 0)] (fun v S' => none = v ∧ ∃ n2, RI ea S' ns nj nm nt nr n2 ∧ Kq hvQ hiQ hrQ S S' ∧ QI s0 S' n2 nt ∧ RF s0 S' (coA A nr) n2 nt ∧ (∀ i, mI S' 247 i = mI S 247 i)) := by
  refine pro "CavershamShiftModel" G rfl rfl (Nat.le_of_ble_eq_true rfl) (fun p e s m below meth c ls X w hnm hl => ?_)
  have hx := X.1
  have hb := X.2.1
  have hown := X.2.2.2.1
  have hts := X.2.2.2.2.1
  have hl : lv_has ls 5 [(0, .ref (gG S 16 0))] := hl
  have h0 := h
  have hK : Kq hvC hiC hrC S S := Kq.rf
  have hE0 := hE
  have hqn : qN A = nq := hE.2.2.1
  refine nwO (S := S) (t := 17) (n := 3) X w 12 (hZ.1) (Or.inl (by decide)) (by decide) rfl in_17 tyJx4a65c tyJx4a65c_ok (by decide +kernel) wC_X16_13 wNew_Jx4a65c wI_Jx4a65c dX16_correct_0 rfl (Nat.le_of_ble_eq_true rfl) (Nat.le_of_ble_eq_true rfl) (fun q1 S2 H hS2 w => ?_)
  subst hS2
  refine lv_dup hx hb dX16_correct_3 rfl ?_
  refine cI (S := (sNew S 17 12 q1)) (nA := 0) (As := []) (rest := [.ref (gG (sNew S 17 12 q1) 17 12)]) X w hl (m_Jx4a65c_init_da8c8 G (sNew S 17 12 q1) 12 (Or.inr ⟨rfl, rfl⟩)) wY_Jx4a65c_init_da8c8 wM_X16_15 wIn_Jx4a65c_init_da8c8 wI_Jx4a65c rfl (by decide +kernel) rfl rfl dX16_correct_4 ⟨by decide, by decide⟩ (Nat.le_of_ble_eq_true rfl) (⟨(show 0 + 1 + 0 ≤ 6 by omega), (show 0 + 3 + 0 ≤ 209 by omega)⟩) (fun v1 S1 H locs hp w => ?_)
  obtain ⟨rfl, rfl⟩ := hp
  have h : RI ea (sR (sI (sNew S 17 12 q1) 272 12 0) 273 12 (some (eaOf s0))) ns nj nm nt nr nq := (h.new12.stI (by decide)).r12
  have hK : Kq hvC hiC hrC S (sR (sI (sNew S 17 12 q1) 272 12 0) 273 12 (some (eaOf s0))) := ((Kq.rf.new rfl (by decide) (fun f z => hiC17 z) (fun f z => hrC17 z)).sI rfl).sR rfl
  have hL : LsOk ea (sR (sI (sNew S 17 12 q1) 272 12 0) 273 12 (some (eaOf s0))) 12 0 := ⟨Or.inr ⟨rfl, rfl⟩, rfl, by decide, fun _ => by rw [hea]; rfl, fun z => absurd z (by decide)⟩
  have hz2 : 0 = 0 → ¬ vV (sR (sI (sNew S 17 12 q1) 272 12 0) 273 12 (some (eaOf s0))) 30 12 := fun _ v => v.elim hZ.2 (fun e => absurd e.1 (by decide))
  have hE2 : ∀ j, j < 0 → ∃ g, g < nt ∧ mB (sR (sI (sNew S 17 12 q1) 272 12 0) 273 12 (some (eaOf s0))) 30 12 j = some (iq s0 g) := fun j hj => absurd hj (Nat.not_lt_zero j)
  have hQ : QI s0 (sR (sI (sNew S 17 12 q1) 272 12 0) 273 12 (some (eaOf s0))) nq nt := ⟨hQ.1, hQ.2⟩
  have hE : RF s0 (sR (sI (sNew S 17 12 q1) 272 12 0) 273 12 (some (eaOf s0))) A nq nt := RF.i12 hE0
  have hB2 : ∀ i, i < 0 → mB (sR (sI (sNew S 17 12 q1) 272 12 0) 273 12 (some (eaOf s0))) 30 12 i = some (iq s0 (qT A (0 + i))) := fun i hi => absurd hi (Nat.not_lt_zero i)
  refine lv_astore_n (lv' := [(1, .ref (gG (sNew S 17 12 q1) 17 12)), (0, .ref (gG S 16 0))]) hx hb dX16_correct_7 rfl hl (by decide) rfl (fun ls hl => ?_)
  refine lv_iconst (v := 0) hx hb dX16_correct_8 (by decide) ?_
  refine lv_istore_n (lv' := [(2, .int 0), (1, .ref (gG (sNew S 17 12 q1) 17 12)), (0, .ref (gG S 16 0))]) hx hb dX16_correct_9 rfl hl (by decide) rfl (fun ls hl => ?_)
  refine lv_iconst (v := 0) hx hb dX16_correct_10 (by decide) ?_
  refine lv_istore_n (lv' := [(3, .int 0), (2, .int 0), (1, .ref (gG (sNew S 17 12 q1) 17 12)), (0, .ref (gG S 16 0))]) hx hb dX16_correct_11 rfl hl (by decide) rfl (fun ls hl => ?_)
  have L12 : ∀ (N : Nat) (k12 : Nat) (v12_2 : Int32) (n2 : Nat) (c8 : Nat) (T12 : HS) (H : Heap) (locs : List Loc) (ls : Array Slot), nq - k12 < N → (k12 ≤ nq) → (n2 ≤ k12) → (c8 ≤ k12) → (c8 ≤ coN A) → ((v12_2 = 0 ∧ n2 = 0 ∧ c8 = k12) ∨ (v12_2 = 1 ∧ c8 = coN A ∧ n2 + c8 = k12)) → (RF s0 T12 (coL A nr c8) nq nt) → (RI ea T12 ns nj nm nt nr nq) → (Kq hvC hiC hrC S T12) → (gG T12 17 12 = q1) → (LsOk ea T12 12 n2) → (n2 = 0 → ¬ vV T12 30 12) → (∀ j, j < n2 → ∃ g, g < nt ∧ mB T12 30 12 j = some (iq s0 g)) → (∀ i, i < n2 → mB T12 30 12 i = some (iq s0 (qT A (c8 + i)))) → (QI s0 T12 nq nt) → Wd s0 D cy T12 s.heap H locs → lv_has ls 5 [(3, .int (nI k12)), (2, .int v12_2), (1, .ref (gG (sNew S 17 12 q1) 17 12)), (0, .ref (gG S 16 0))] → W p l e rm_r_X16_correct s m ([.ref (gG S 16 0)] : List Value).toArray below meth c H locs (1 + gC n2) (3 + gL n2) (MQ below (GQ s0 D cy (fun v S' => none = v ∧ ∃ n2, RI ea S' ns nj nm nt nr n2 ∧ Kq hvQ hiQ hrQ S S' ∧ QI s0 S' n2 nt ∧ RF s0 S' (coA A nr) n2 nt ∧ (∀ i, mI S' 247 i = mI S 247 i))) ([.ref (gG S 16 0)] : List Value).toArray s rm_r_X16_correct.cells rm_r_X16_correct.slots (A0 s0)) (F0 m 12 ls []) := by
    intro N
    induction N with
    | zero => intros; omega
    | succ N ih12 =>
      intro k12 v12_2 n2 c8 T12 H locs ls hmu hk_k12 hn2k hck hcc hv hE h hK_T12 e12 hL hz2 hE2 hB2 hQ w hl
      have hK := hK_T12
      have hgl := gCL n2 (by have := hQ.le; have := h.b_ta; omega)
      refine lv_iload_n hx hb dX16_correct_12 rfl (lv_at hl 0 rfl) ?_
      refine lv_aload_n hx hb dX16_correct_13 rfl (lv_at hl 3 rfl) ?_
      refine rE0 ((rfl).trans ((hK_T12.G (t := 16) (i := 0) rfl)).symm) ?_
      refine g_16_11 (S := T12) (x := (some (gG T12 17 11))) X w h.v wF_X16_32 (h.f_qu) dX16_correct_14 ?_
      refine cF (S := T12) (t := 17) (nA := 0) (As := []) (rest := [.int (nI k12)]) X w hl h.l_qu.1 (m_size G T12 ea 11 nq h.l_qu) wY_Jx4a65c_size_8abf5 wM_X16_73 wIn_Jx4a65c_size_8abf5 wSe_Jx4a65c_Jx4a65c_size_8abf5_of_java_util_List_size___I wI_Jx4a65c fw_size (by decide) rfl (by decide +kernel) rfl rfl dX16_correct_17 ⟨by decide, by decide⟩ (Nat.le_of_ble_eq_true rfl) (⟨(show 1 + gC n2 + 0 ≤ 6 by omega), (show 3 + gL n2 + 0 ≤ 209 by omega)⟩) (fun v2 S1 H locs hp w => ?_)
      obtain ⟨rfl, rfl⟩ := hp
      refine lv_icmp_ge (tgt := 214) hx hb dX16_correct_22 (by decide) (fun hc_k12 => ?_) (fun hc_k12 => ?_)
      · have hge_k12 : nq ≤ k12 := by
          have hb1 := h.b_qu
          exact (nI_leI (a := nq) (b := k12) (by omega) (by omega)).mp hc_k12
        refine lv_aload_n hx hb dX16_correct_214 rfl (lv_at hl 3 rfl) ?_
        refine lv_aload_n hx hb dX16_correct_215 rfl (lv_at hl 2 rfl) ?_
        refine rE0 ((show gG (sNew S 17 12 q1) 17 12 = q1 from rfl).trans e12.symm) ?_
        refine rE1 ((rfl).trans ((hK_T12.G (t := 16) (i := 0) rfl)).symm) ?_
        have hq9 : qN A = nq := hE0.2.2.1
        have hcx : c8 = coN A ∧ n2 + c8 = nq := by
          have := coN_q (A := A)
          rcases hv with ⟨-, z1, z2⟩ | ⟨-, z1, z2⟩
          · exact ⟨by omega, by omega⟩
          · exact ⟨z1, by omega⟩
        obtain ⟨hcx1, hcx2⟩ := hcx
        rw [hcx1] at hE hB2 hcx2
        refine p_16_11 (S := T12) (x := (some (gG T12 17 12))) X w h.v wF_X16_32 dX16_correct_216 (fun H locs w => ?_)
        have w := w.map (sw_w hZ w.1)
        have h : RI ea (swQ S (sR T12 267 0 (some (gG T12 17 12)))) ns nj nm nt nr n2 := h.swq hL (by have := hQ.le; have := h.b_ta; omega) hz2
        have hKq : Kq hvQ hiQ hrQ S (swQ S (sR T12 267 0 (some (gG T12 17 12)))) := kq_sw (hK.sR rfl)
        have hQ2 : QI s0 (swQ S (sR T12 267 0 (some (gG T12 17 12)))) n2 nt := ⟨hE2, Nat.le_trans (Nat.le_trans hn2k (Nat.le_trans hk_k12 hQ.2)) (Nat.le_refl _)⟩
        have hE : RF s0 (swQ S (sR T12 267 0 (some (gG T12 17 12)))) (coA A nr) n2 nt := RF.swq hE hcx2 hB2 h.b_ta
        exact rV X w rfl dX16_correct_219 (show 1 + gC n2 ≤ 6 by omega) (show 3 + gL n2 ≤ 209 by omega) (⟨rfl, n2, h, hKq, hQ2, hE, fun i => hK.I rfl⟩)
      · have hlt_k12 : k12 < nq := by
          have hb1 := h.b_qu
          exact Nat.lt_of_not_le (fun z => hc_k12 ((nI_leI (a := nq) (b := k12) (by omega) (by omega)).mpr z))
        refine lv_iload_n hx hb dX16_correct_25 rfl (lv_at hl 1 rfl) ?_
        refine lv_aload_n hx hb dX16_correct_26 rfl (lv_at hl 3 rfl) ?_
        refine rE0 ((rfl).trans ((hK_T12.G (t := 16) (i := 0) rfl)).symm) ?_
        refine g_16_2 (S := T12) (x := (mI (coL A nr c8) 258 0)) X w h.v wF_X16_7 (hE.1 258 rfl 0) dX16_correct_27 ?_
        refine lv_bipush (v := 10) hx hb dX16_correct_30 (by decide) ?_
        refine lv_icmp_ge (tgt := 39) hx hb dX16_correct_32 (by decide) (fun hwi => ?_) (fun hwi => ?_)
        · refine lv_iconst (v := 0) hx hb dX16_correct_39 (by decide) ?_
          refine lv_ior hx hb dX16_correct_40 ?_
          refine lv_istore_n (lv' := [(2, .int (v12_2 ||| 0)), (3, .int (nI k12)), (1, .ref (gG (sNew S 17 12 q1) 17 12)), (0, .ref (gG S 16 0))]) hx hb dX16_correct_41 rfl hl (by decide) rfl (fun ls hl => ?_)
          refine lv_iload_n hx hb dX16_correct_42 rfl (lv_at hl 0 rfl) ?_
          refine lv_if_eq (tgt := 69) hx hb dX16_correct_43 (by decide) (fun h43 => ?_) (fun h43 => ?_)
          · have hv01 : v12_2 = 0 ∨ v12_2 = 1 := hv.imp (fun z => z.1) (fun z => z.1)
            have hpr : v12_2 = 0 ∧ n2 = 0 ∧ c8 = k12 ∧ c8 + 1 ≤ coN A := by
              first
              | exact absurd ((v_or _ hv01).1.symm.trans h43) (by decide)
              | (have y := (v_or _ hv01).2.1 h43
                 rcases hv with ⟨z1, z2, z3⟩ | ⟨z1, -⟩
                 · exact ⟨z1, z2, z3, (co_dek hcc (by omega) (by have := h.b_qu; omega)).2 (Int32.not_lt.mpr hwi)⟩
                 · rw [y] at z1; exact absurd z1 (by decide))
            refine lv_aload_n hx hb dX16_correct_69 rfl (lv_at hl 3 rfl) ?_
            refine lv_dup hx hb dX16_correct_70 rfl ?_
            refine rE0 ((rfl).trans ((hK_T12.G (t := 16) (i := 0) rfl)).symm) ?_
            refine g_16_2 (S := T12) (x := (mI (coL A nr c8) 258 0)) X w h.v wF_X16_7 (hE.1 258 rfl 0) dX16_correct_71 ?_
            refine lv_bipush (v := 10) hx hb dX16_correct_74 (by decide) ?_
            refine lv_isub hx hb dX16_correct_76 ?_
            refine rE1 ((rfl).trans ((hK_T12.G (t := 16) (i := 0) rfl)).symm) ?_
            refine p_16_2 (S := T12) (x := ((mI (coL A nr c8) 258 0) - 10)) X w h.v wF_X16_7 dX16_correct_77 (fun H locs w => ?_)
            have h : RI ea (sI T12 258 0 ((mI (coL A nr c8) 258 0) - 10)) ns nj nm nt nr nq := h.stI (by decide)
            have hK : Kq hvC hiC hrC S (sI T12 258 0 ((mI (coL A nr c8) 258 0) - 10)) := hK.sI rfl
            have hE : RF s0 (sI T12 258 0 ((mI (coL A nr c8) 258 0) - 10)) (sI (coL A nr c8) 258 0 ((mI (coL A nr c8) 258 0) - 10)) nq nt := hE.bI
            refine lv_aload_n hx hb dX16_correct_80 rfl (lv_at hl 3 rfl) ?_
            refine rE0 ((rfl).trans ((hK_T12.G (t := 16) (i := 0) rfl)).symm) ?_
            refine g_16_9 (S := (sI T12 258 0 ((mI (coL A nr c8) 258 0) - 10))) (x := (some (gG (sI T12 258 0 ((mI (coL A nr c8) 258 0) - 10)) 17 9))) X w h.v wF_X16_26 (h.f_ta) dX16_correct_81 ?_
            refine lv_aload_n hx hb dX16_correct_84 rfl (lv_at hl 3 rfl) ?_
            refine rE0 ((rfl).trans ((hK_T12.G (t := 16) (i := 0) rfl)).symm) ?_
            refine g_16_11 (S := (sI T12 258 0 ((mI (coL A nr c8) 258 0) - 10))) (x := (some (gG (sI T12 258 0 ((mI (coL A nr c8) 258 0) - 10)) 17 11))) X w h.v wF_X16_32 (h.f_qu) dX16_correct_85 ?_
            refine lv_iload_n hx hb dX16_correct_88 rfl (lv_at hl 1 rfl) ?_
            obtain ⟨g9, hg9, eg9, eb9⟩ := hE.2.2.2 k12 hlt_k12
            have eq9 : qT A k12 = g9 := by unfold qT; rw [← coL_60 (nr := nr) c8]; exact (congrArg Int32.toNatClampNeg eg9).trans (nI_clamp (by have := h.b_ta; omega))
            refine cF (S := (sI T12 258 0 ((mI (coL A nr c8) 258 0) - 10))) (t := 17) (nA := 1) (As := [.int (nI k12)]) (rest := [.ref (gG (sI T12 258 0 ((mI (coL A nr c8) 258 0) - 10)) 17 9)]) X w hl h.l_qu.1 (m_get G (sI T12 258 0 ((mI (coL A nr c8) 258 0) - 10)) ea 11 k12 nq (some (iq s0 g9)) h.l_qu hlt_k12 eb9) wY_Jx4a65c_get_915e3 wM_X16_46 wIn_Jx4a65c_get_915e3 wSe_Jx4a65c_Jx4a65c_get_915e3_of_java_util_List_get__I_Ljava_lang_Object_ wI_Jx4a65c fw_get (by decide) rfl (by decide +kernel) rfl rfl dX16_correct_89 ⟨by decide, by decide⟩ (Nat.le_of_ble_eq_true rfl) (⟨(show 1 + gC n2 + 0 ≤ 6 by omega), (show 3 + gL n2 + 0 ≤ 209 by omega)⟩) (fun v3 S1 H locs hp w => ?_)
            obtain ⟨rfl, rfl⟩ := hp
            refine ckIn (S := (sI T12 258 0 ((mI (coL A nr c8) 258 0) - 10))) (j := g9) X w (Nat.lt_of_lt_of_le hg9 h.b_ta) wC_X16_165 dX16_correct_94 ?_
            refine cVx (S := (sI T12 258 0 ((mI (coL A nr c8) 258 0) - 10))) (nA := 0) (As := []) (rest := [.ref (gG (sI T12 258 0 ((mI (coL A nr c8) 258 0) - 10)) 17 9)]) X w hl (recI X w (Nat.lt_of_lt_of_le hg9 h.b_ta)) (m_J6_intValue_8abf5 G (sI T12 258 0 ((mI (coL A nr c8) 258 0) - 10)) g9 (Nat.lt_of_lt_of_le hg9 h.b_ta)) wY_J6_intValue_8abf5 wM_X16_174 wIn_J6_intValue_8abf5 wSe_J6_J6_intValue_8abf5 wI_J6 (by decide) rfl rfl dX16_correct_97 ⟨by decide, by decide⟩ (Nat.le_of_ble_eq_true rfl) (⟨(show 1 + gC n2 + 0 ≤ 6 by omega), (show 3 + gL n2 + 0 ≤ 209 by omega)⟩) (fun v4 S1 H locs hp w => ?_)
            obtain ⟨rfl, rfl⟩ := hp
            refine cF (S := (sI T12 258 0 ((mI (coL A nr c8) 258 0) - 10))) (t := 17) (nA := 1) (As := [.int (nI g9)]) (rest := []) X w hl h.l_ta.1 (m_get G (sI T12 258 0 ((mI (coL A nr c8) 258 0) - 10)) ea 9 g9 nt (some (gG (sI T12 258 0 ((mI (coL A nr c8) 258 0) - 10)) 15 g9)) h.l_ta hg9 (h.e_ta g9 hg9).1) wY_Jx4a65c_get_915e3 wM_X16_46 wIn_Jx4a65c_get_915e3 wSe_Jx4a65c_Jx4a65c_get_915e3_of_java_util_List_get__I_Ljava_lang_Object_ wI_Jx4a65c fw_get (by decide) rfl (by decide +kernel) rfl rfl dX16_correct_100 ⟨by decide, by decide⟩ (Nat.le_of_ble_eq_true rfl) (⟨(show 1 + gC n2 + 0 ≤ 6 by omega), (show 3 + gL n2 + 0 ≤ 209 by omega)⟩) (fun v5 S1 H locs hp w => ?_)
            obtain ⟨rfl, rfl⟩ := hp
            refine ckC (S := (sI T12 258 0 ((mI (coL A nr c8) 258 0) - 10))) (t := 15) X w (h.e_ta g9 hg9).2 (by decide) rfl wC_X16_105 dX16_correct_105 ?_
            refine lv_iconst (v := 2) hx hb dX16_correct_108 (by decide) ?_
            refine p_15_13 (S := (sI T12 258 0 ((mI (coL A nr c8) 258 0) - 10))) (x := 2) X w (h.e_ta g9 hg9).2 wF_X16_161 dX16_correct_109 (fun H locs w => ?_)
            have h : RI ea (sI (sI T12 258 0 ((mI (coL A nr c8) 258 0) - 10)) 253 g9 2) ns nj nm nt nr nq := h.stI (by decide)
            have hK : Kq hvC hiC hrC S (sI (sI T12 258 0 ((mI (coL A nr c8) 258 0) - 10)) 253 g9 2) := hK.sI rfl
            have hQ : QI s0 (sI (sI T12 258 0 ((mI (coL A nr c8) 258 0) - 10)) 253 g9 2) nq nt := hQ.s253 (by decide)
            have hE : RF s0 (sI (sI T12 258 0 ((mI (coL A nr c8) 258 0) - 10)) 253 g9 2) (sI (sI (coL A nr c8) 258 0 ((mI (coL A nr c8) 258 0) - 10)) 253 g9 2) nq nt := hE.bI
            refine lv_iconst (v := 0) hx hb dX16_correct_112 (by decide) ?_
            refine lv_istore (lv' := [(4, .int 0), (2, .int (v12_2 ||| 0)), (3, .int (nI k12)), (1, .ref (gG (sNew S 17 12 q1) 17 12)), (0, .ref (gG S 16 0))]) hx hb dX16_correct_113 hl (by decide) rfl (fun ls hl => ?_)
            have L115 : ∀ (N : Nat) (k115 : Nat) (T115 : HS) (H : Heap) (locs : List Loc) (ls : Array Slot), nr - k115 < N → (k115 ≤ nr) → (RF s0 T115 (goT (sI (sI (coL A nr c8) 258 0 (mI (coL A nr c8) 258 0 - 10)) 253 g9 2) g9 k115) nq nt) → (RI ea T115 ns nj nm nt nr nq) → (Kq hvC hiC hrC S T115) → (gG T115 17 12 = q1) → (LsOk ea T115 12 n2) → (n2 = 0 → ¬ vV T115 30 12) → (∀ j, j < n2 → ∃ g, g < nt ∧ mB T115 30 12 j = some (iq s0 g)) → (∀ i, i < n2 → mB T115 30 12 i = some (iq s0 (qT A (c8 + i)))) → (QI s0 T115 nq nt) → (mB T115 30 11 k12 = some (iq s0 g9)) → Wd s0 D cy T115 s.heap H locs → lv_has ls 5 [(4, .int (nI k115)), (2, .int (v12_2 ||| 0)), (3, .int (nI k12)), (1, .ref (gG (sNew S 17 12 q1) 17 12)), (0, .ref (gG S 16 0))] → W p l e rm_r_X16_correct s m ([.ref (gG S 16 0)] : List Value).toArray below meth c H locs (1 + gC n2) (3 + gL n2) (MQ below (GQ s0 D cy (fun v S' => none = v ∧ ∃ n2, RI ea S' ns nj nm nt nr n2 ∧ Kq hvQ hiQ hrQ S S' ∧ QI s0 S' n2 nt ∧ RF s0 S' (coA A nr) n2 nt ∧ (∀ i, mI S' 247 i = mI S 247 i))) ([.ref (gG S 16 0)] : List Value).toArray s rm_r_X16_correct.cells rm_r_X16_correct.slots (A0 s0)) (F0 m 115 ls []) := by
              intro N
              induction N with
              | zero => intros; omega
              | succ N ih115 =>
                intro k115 T115 H locs ls hmu hk_k115 hE h hK_T115 e12 hL hz2 hE2 hB2 hQ eb9 w hl
                have hK := hK_T115
                refine lv_iload hx hb dX16_correct_115 (lv_at hl 0 rfl) ?_
                refine lv_aload_n hx hb dX16_correct_117 rfl (lv_at hl 4 rfl) ?_
                refine rE0 ((rfl).trans ((hK_T115.G (t := 16) (i := 0) rfl)).symm) ?_
                refine g_16_10 (S := T115) (x := (some (gG T115 17 10))) X w h.v wF_X16_29 (h.f_re) dX16_correct_118 ?_
                refine cF (S := T115) (t := 17) (nA := 0) (As := []) (rest := [.int (nI k115)]) X w hl h.l_re.1 (m_size G T115 ea 10 nr h.l_re) wY_Jx4a65c_size_8abf5 wM_X16_73 wIn_Jx4a65c_size_8abf5 wSe_Jx4a65c_Jx4a65c_size_8abf5_of_java_util_List_size___I wI_Jx4a65c fw_size (by decide) rfl (by decide +kernel) rfl rfl dX16_correct_121 ⟨by decide, by decide⟩ (Nat.le_of_ble_eq_true rfl) (⟨(show 1 + gC n2 + 0 ≤ 6 by omega), (show 3 + gL n2 + 0 ≤ 209 by omega)⟩) (fun v6 S1 H locs hp w => ?_)
                obtain ⟨rfl, rfl⟩ := hp
                refine lv_icmp_ge (tgt := 208) hx hb dX16_correct_126 (by decide) (fun hc_k115 => ?_) (fun hc_k115 => ?_)
                · have hge_k115 : nr ≤ k115 := by
                    have hb1 := h.b_re
                    exact (nI_leI (a := nr) (b := k115) (by omega) (by omega)).mp hc_k115
                  refine lv_iinc (v := nI (k12 + 1)) (lv' := [(3, .int (nI (k12 + 1))), (4, .int (nI k115)), (2, .int (v12_2 ||| 0)), (1, .ref (gG (sNew S 17 12 q1) 17 12)), (0, .ref (gG S 16 0))]) hx hb dX16_correct_208 hl (k := 2) rfl (nI_1 _) (by decide) rfl (fun ls hl => ?_)
                  refine lv_goto (tgt := 12) hx hb dX16_correct_211 (by decide) ?_
                  have hE : RF s0 T115 (coL A nr (c8 + 1)) nq nt := by
                    rw [show k115 = nr by omega] at hE
                    show RF s0 _ (goT (sI (sI (coL A nr c8) 258 0 (mI (coL A nr c8) 258 0 - 10)) 253 (qT A c8) 2) (qT A c8) nr) nq nt
                    rw [show qT A c8 = g9 by rw [hpr.2.2.1]; exact eq9]; exact hE
                  have hB2 : ∀ i, i < n2 → mB T115 30 12 i = some (iq s0 (qT A (c8 + 1 + i))) := fun i hi => absurd hi (by have := hpr.2.1; omega)
                  refine W.widen (k := 1 + gC n2) (n := 3 + gL n2) (by first | exact Nat.le_refl _ | exact (show 1 + gC n2 + addC n2 ≤ 1 + (gC n2 + addC n2) by omega)) (by first | exact Nat.le_refl _ | exact (show 3 + gL n2 + addL n2 ≤ 3 + (gL n2 + addL n2) by omega)) ?_
                  exact ih12 (k12 + 1) (v12_2 ||| 0) n2 (c8 + 1) T115 _ _ _ (by omega) (hlt_k12) (by omega) (by omega) (by first | exact hpr.2.2.2 | exact hcc) (by first | exact Or.inl ⟨h43, hpr.2.1, by rw [hpr.2.2.1]⟩ | exact Or.inr ⟨(v_or _ hv01).1, had.1, by have := had.2; omega⟩ | exact Or.inr ⟨((v_or _ hv01).2.2 h43).1, had.1, by have := had.2; omega⟩) (hE) (h) (hK) (e12) (hL) (hz2) (hE2) (hB2) (hQ) w (lv_sub hl [0, 2, 3, 4] rfl)
                · have hlt_k115 : k115 < nr := by
                    have hb1 := h.b_re
                    exact Nat.lt_of_not_le (fun z => hc_k115 ((nI_leI (a := nr) (b := k115) (by omega) (by omega)).mpr z))
                  refine lv_aload_n hx hb dX16_correct_129 rfl (lv_at hl 4 rfl) ?_
                  refine rE0 ((rfl).trans ((hK_T115.G (t := 16) (i := 0) rfl)).symm) ?_
                  refine g_16_10 (S := T115) (x := (some (gG T115 17 10))) X w h.v wF_X16_29 (h.f_re) dX16_correct_130 ?_
                  refine lv_iload hx hb dX16_correct_133 (lv_at hl 0 rfl) ?_
                  refine cF (S := T115) (t := 17) (nA := 1) (As := [.int (nI k115)]) (rest := []) X w hl h.l_re.1 (m_get G T115 ea 10 k115 nr (some (gG T115 13 k115)) h.l_re hlt_k115 (h.e_re k115 hlt_k115).1) wY_Jx4a65c_get_915e3 wM_X16_46 wIn_Jx4a65c_get_915e3 wSe_Jx4a65c_Jx4a65c_get_915e3_of_java_util_List_get__I_Ljava_lang_Object_ wI_Jx4a65c fw_get (by decide) rfl (by decide +kernel) rfl rfl dX16_correct_135 ⟨by decide, by decide⟩ (Nat.le_of_ble_eq_true rfl) (⟨(show 1 + gC n2 + 0 ≤ 6 by omega), (show 3 + gL n2 + 0 ≤ 209 by omega)⟩) (fun v7 S1 H locs hp w => ?_)
                  obtain ⟨rfl, rfl⟩ := hp
                  refine ckC (S := T115) (t := 13) X w (h.e_re k115 hlt_k115).2.1 (by decide) rfl wC_X16_177 dX16_correct_140 ?_
                  refine g_13_2 (S := T115) (x := (some (gG T115 35 k115))) X w (h.e_re k115 hlt_k115).2.1 wF_X16_179 ((h.e_re k115 hlt_k115).2.2.1) dX16_correct_143 ?_
                  refine lv_aload_n hx hb dX16_correct_146 rfl (lv_at hl 4 rfl) ?_
                  refine rE0 ((rfl).trans ((hK_T115.G (t := 16) (i := 0) rfl)).symm) ?_
                  refine g_16_11 (S := T115) (x := (some (gG T115 17 11))) X w h.v wF_X16_32 (h.f_qu) dX16_correct_147 ?_
                  refine lv_iload_n hx hb dX16_correct_150 rfl (lv_at hl 2 rfl) ?_
                  refine cF (S := T115) (t := 17) (nA := 1) (As := [.int (nI k12)]) (rest := [.ref (gG T115 35 k115)]) X w hl h.l_qu.1 (m_get G T115 ea 11 k12 nq (some (iq s0 g9)) h.l_qu hlt_k12 eb9) wY_Jx4a65c_get_915e3 wM_X16_46 wIn_Jx4a65c_get_915e3 wSe_Jx4a65c_Jx4a65c_get_915e3_of_java_util_List_get__I_Ljava_lang_Object_ wI_Jx4a65c fw_get (by decide) rfl (by decide +kernel) rfl rfl dX16_correct_151 ⟨by decide, by decide⟩ (Nat.le_of_ble_eq_true rfl) (⟨(show 1 + gC n2 + 0 ≤ 6 by omega), (show 3 + gL n2 + 0 ≤ 209 by omega)⟩) (fun v8 S1 H locs hp w => ?_)
                  obtain ⟨rfl, rfl⟩ := hp
                  refine ckIn (S := T115) (j := g9) X w (Nat.lt_of_lt_of_le hg9 h.b_ta) wC_X16_165 dX16_correct_156 ?_
                  refine cVx (S := T115) (nA := 0) (As := []) (rest := [.ref (gG T115 35 k115)]) X w hl (recI X w (Nat.lt_of_lt_of_le hg9 h.b_ta)) (m_J6_intValue_8abf5 G T115 g9 (Nat.lt_of_lt_of_le hg9 h.b_ta)) wY_J6_intValue_8abf5 wM_X16_174 wIn_J6_intValue_8abf5 wSe_J6_J6_intValue_8abf5 wI_J6 (by decide) rfl rfl dX16_correct_159 ⟨by decide, by decide⟩ (Nat.le_of_ble_eq_true rfl) (⟨(show 1 + gC n2 + 0 ≤ 6 by omega), (show 3 + gL n2 + 0 ≤ 209 by omega)⟩) (fun v9 S1 H locs hp w => ?_)
                  obtain ⟨rfl, rfl⟩ := hp
                  refine aLdI (S := T115) (t := 35) (v := mA T115 35 k115 g9) X w (h.e_re k115 hlt_k115).2.2.2.1 (by decide) rfl rfl (by rw [(h.e_re k115 hlt_k115).2.2.2.2]; exact nI_vp (Nat.lt_of_lt_of_le hg9 h.b_ta) (by decide)) (by rw [cl_nI (n := 40) (Nat.lt_of_lt_of_le hg9 h.b_ta) (by decide)]) dX16_correct_162 ?_
                  refine lv_iconst (v := 1) hx hb dX16_correct_163 (by decide) ?_
                  refine lv_icmp_ne (tgt := 202) hx hb dX16_correct_164 (by decide) (fun hgo => ?_) (fun hgo => ?_)
                  · refine lv_iinc (v := nI (k115 + 1)) (lv' := [(4, .int (nI (k115 + 1))), (2, .int (v12_2 ||| 0)), (3, .int (nI k12)), (1, .ref (gG (sNew S 17 12 q1) 17 12)), (0, .ref (gG S 16 0))]) hx hb dX16_correct_202 hl (k := 0) rfl (nI_1 _) (by decide) rfl (fun ls hl => ?_)
                    refine lv_goto (tgt := 115) hx hb dX16_correct_205 (by decide) ?_
                    have hE : RF s0 T115 (goT (sI (sI (coL A nr c8) 258 0 (mI (coL A nr c8) 258 0 - 10)) 253 g9 2) g9 (k115 + 1)) nq nt := by first | (rw [goT_f (fun z => hgo ((congrFun (hE.2.1 35 rfl k115) g9).trans z))]; exact hE) | exact hE
                    exact ih115 (k115 + 1) T115 _ _ _ (by omega) (hlt_k115) (hE) (h) (hK) (e12) (hL) (hz2) (hE2) (hB2) (hQ) (eb9) w (lv_sub hl [0, 1, 2, 3, 4] rfl)
                  · have hE9 := hE
                    refine lv_aload_n hx hb dX16_correct_167 rfl (lv_at hl 4 rfl) ?_
                    refine rE0 ((rfl).trans ((hK_T115.G (t := 16) (i := 0) rfl)).symm) ?_
                    refine g_16_10 (S := T115) (x := (some (gG T115 17 10))) X w h.v wF_X16_29 (h.f_re) dX16_correct_168 ?_
                    refine lv_iload hx hb dX16_correct_171 (lv_at hl 0 rfl) ?_
                    refine cF (S := T115) (t := 17) (nA := 1) (As := [.int (nI k115)]) (rest := []) X w hl h.l_re.1 (m_get G T115 ea 10 k115 nr (some (gG T115 13 k115)) h.l_re hlt_k115 (h.e_re k115 hlt_k115).1) wY_Jx4a65c_get_915e3 wM_X16_46 wIn_Jx4a65c_get_915e3 wSe_Jx4a65c_Jx4a65c_get_915e3_of_java_util_List_get__I_Ljava_lang_Object_ wI_Jx4a65c fw_get (by decide) rfl (by decide +kernel) rfl rfl dX16_correct_173 ⟨by decide, by decide⟩ (Nat.le_of_ble_eq_true rfl) (⟨(show 1 + gC n2 + 0 ≤ 6 by omega), (show 3 + gL n2 + 0 ≤ 209 by omega)⟩) (fun v10 S1 H locs hp w => ?_)
                    obtain ⟨rfl, rfl⟩ := hp
                    refine ckC (S := T115) (t := 13) X w (h.e_re k115 hlt_k115).2.1 (by decide) rfl wC_X16_177 dX16_correct_178 ?_
                    refine g_13_2 (S := T115) (x := (some (gG T115 35 k115))) X w (h.e_re k115 hlt_k115).2.1 wF_X16_179 ((h.e_re k115 hlt_k115).2.2.1) dX16_correct_181 ?_
                    refine lv_aload_n hx hb dX16_correct_184 rfl (lv_at hl 4 rfl) ?_
                    refine rE0 ((rfl).trans ((hK_T115.G (t := 16) (i := 0) rfl)).symm) ?_
                    refine g_16_11 (S := T115) (x := (some (gG T115 17 11))) X w h.v wF_X16_32 (h.f_qu) dX16_correct_185 ?_
                    refine lv_iload_n hx hb dX16_correct_188 rfl (lv_at hl 2 rfl) ?_
                    refine cF (S := T115) (t := 17) (nA := 1) (As := [.int (nI k12)]) (rest := [.ref (gG T115 35 k115)]) X w hl h.l_qu.1 (m_get G T115 ea 11 k12 nq (some (iq s0 g9)) h.l_qu hlt_k12 eb9) wY_Jx4a65c_get_915e3 wM_X16_46 wIn_Jx4a65c_get_915e3 wSe_Jx4a65c_Jx4a65c_get_915e3_of_java_util_List_get__I_Ljava_lang_Object_ wI_Jx4a65c fw_get (by decide) rfl (by decide +kernel) rfl rfl dX16_correct_189 ⟨by decide, by decide⟩ (Nat.le_of_ble_eq_true rfl) (⟨(show 1 + gC n2 + 0 ≤ 6 by omega), (show 3 + gL n2 + 0 ≤ 209 by omega)⟩) (fun v11 S1 H locs hp w => ?_)
                    obtain ⟨rfl, rfl⟩ := hp
                    refine ckIn (S := T115) (j := g9) X w (Nat.lt_of_lt_of_le hg9 h.b_ta) wC_X16_165 dX16_correct_194 ?_
                    refine cVx (S := T115) (nA := 0) (As := []) (rest := [.ref (gG T115 35 k115)]) X w hl (recI X w (Nat.lt_of_lt_of_le hg9 h.b_ta)) (m_J6_intValue_8abf5 G T115 g9 (Nat.lt_of_lt_of_le hg9 h.b_ta)) wY_J6_intValue_8abf5 wM_X16_174 wIn_J6_intValue_8abf5 wSe_J6_J6_intValue_8abf5 wI_J6 (by decide) rfl rfl dX16_correct_197 ⟨by decide, by decide⟩ (Nat.le_of_ble_eq_true rfl) (⟨(show 1 + gC n2 + 0 ≤ 6 by omega), (show 3 + gL n2 + 0 ≤ 209 by omega)⟩) (fun v12 S1 H locs hp w => ?_)
                    obtain ⟨rfl, rfl⟩ := hp
                    refine lv_iconst (v := 2) hx hb dX16_correct_200 (by decide) ?_
                    refine aStI (S := T115) (t := 35) X w (h.e_re k115 hlt_k115).2.2.2.1 (by decide) rfl rfl (by show vp_in _ (mN _ 35 k115); rw [(h.e_re k115 hlt_k115).2.2.2.2]; exact nI_vp (Nat.lt_of_lt_of_le hg9 h.b_ta) (by decide)) dX16_correct_201 (fun H locs w => ?_)
                    have h : RI ea (sA T115 35 k115 (upd (mA T115 35 k115) (nI g9).toNatClampNeg 2)) ns nj nm nt nr nq := h.a35 _ _
                    have hK : Kq hvC hiC hrC S (sA T115 35 k115 (upd (mA T115 35 k115) (nI g9).toNatClampNeg 2)) := hK.sA rfl
                    have hE : RF s0 (sA T115 35 k115 (upd (mA T115 35 k115) (nI g9).toNatClampNeg 2)) (sA (goT (sI (sI (coL A nr c8) 258 0 (mI (coL A nr c8) 258 0 - 10)) 253 g9 2) g9 k115) 35 k115 (upd (mA (goT (sI (sI (coL A nr c8) 258 0 (mI (coL A nr c8) 258 0 - 10)) 253 g9 2) g9 k115) 35 k115) (nI g9).toNatClampNeg 2)) nq nt := hE.sU rfl
                    have hE : RF s0 (sA T115 35 k115 (upd (mA T115 35 k115) (nI g9).toNatClampNeg 2)) (goT (sI (sI (coL A nr c8) 258 0 (mI (coL A nr c8) 258 0 - 10)) 253 g9 2) g9 (k115 + 1)) nq nt := by rw [show (nI g9).toNatClampNeg = g9 from nI_clamp (by have := h.b_ta; omega)] at hE ⊢; rw [goT_t ((congrFun (hE9.2.1 35 rfl k115) g9).symm.trans hgo)]; exact hE
                    refine lv_iinc (v := nI (k115 + 1)) (lv' := [(4, .int (nI (k115 + 1))), (2, .int (v12_2 ||| 0)), (3, .int (nI k12)), (1, .ref (gG (sNew S 17 12 q1) 17 12)), (0, .ref (gG S 16 0))]) hx hb dX16_correct_202 hl (k := 0) rfl (nI_1 _) (by decide) rfl (fun ls hl => ?_)
                    refine lv_goto (tgt := 115) hx hb dX16_correct_205 (by decide) ?_
                    have hE : RF s0 (sA T115 35 k115 (upd (mA T115 35 k115) (nI g9).toNatClampNeg 2)) (goT (sI (sI (coL A nr c8) 258 0 (mI (coL A nr c8) 258 0 - 10)) 253 g9 2) g9 (k115 + 1)) nq nt := by first | (rw [goT_f (fun z => hgo ((congrFun (hE.2.1 35 rfl k115) g9).trans z))]; exact hE) | exact hE
                    exact ih115 (k115 + 1) (sA T115 35 k115 (upd (mA T115 35 k115) (nI g9).toNatClampNeg 2)) _ _ _ (by omega) (hlt_k115) (hE) (h) (hK) (e12) (hL) (hz2) (hE2) (hB2) (hQ) (eb9) w (lv_sub hl [0, 1, 2, 3, 4] rfl)
            exact L115 _ 0 (sI (sI T12 258 0 ((mI (coL A nr c8) 258 0) - 10)) 253 g9 2) _ _ _ (Nat.lt_succ_self _) (Nat.zero_le _) (hE) (h) (hK) (e12) (hL) (hz2) (hE2) (hB2) (hQ) (eb9) w (lv_sub hl [0, 1, 2, 3, 4] rfl)
          · have hv01 : v12_2 = 0 ∨ v12_2 = 1 := hv.imp (fun z => z.1) (fun z => z.1)
            have had : c8 = coN A ∧ n2 + c8 = k12 := by
              rcases hv with ⟨z1, z2, z3⟩ | ⟨-, z2, z3⟩
              · first
                | exact absurd (z1.symm.trans ((v_or _ hv01).2.2 h43).2) (by decide)
                | exact ⟨(co_dek hcc (by omega) (by have := h.b_qu; omega)).1 (Int32.not_le.mp hwi), by omega⟩
              · exact ⟨z2, z3⟩
            refine lv_aload_n hx hb dX16_correct_46 rfl (lv_at hl 2 rfl) ?_
            refine lv_aload_n hx hb dX16_correct_47 rfl (lv_at hl 3 rfl) ?_
            refine rE0 ((rfl).trans ((hK_T12.G (t := 16) (i := 0) rfl)).symm) ?_
            refine g_16_11 (S := T12) (x := (some (gG T12 17 11))) X w h.v wF_X16_32 (h.f_qu) dX16_correct_48 ?_
            refine lv_iload_n hx hb dX16_correct_51 rfl (lv_at hl 1 rfl) ?_
            obtain ⟨g9, hg9, eg9, eb9⟩ := hE.2.2.2 k12 hlt_k12
            have eq9 : qT A k12 = g9 := by unfold qT; rw [← coL_60 (nr := nr) c8]; exact (congrArg Int32.toNatClampNeg eg9).trans (nI_clamp (by have := h.b_ta; omega))
            refine cF (S := T12) (t := 17) (nA := 1) (As := [.int (nI k12)]) (rest := [.ref (gG (sNew S 17 12 q1) 17 12)]) X w hl h.l_qu.1 (m_get G T12 ea 11 k12 nq (some (iq s0 g9)) h.l_qu hlt_k12 eb9) wY_Jx4a65c_get_915e3 wM_X16_46 wIn_Jx4a65c_get_915e3 wSe_Jx4a65c_Jx4a65c_get_915e3_of_java_util_List_get__I_Ljava_lang_Object_ wI_Jx4a65c fw_get (by decide) rfl (by decide +kernel) rfl rfl dX16_correct_52 ⟨by decide, by decide⟩ (Nat.le_of_ble_eq_true rfl) (⟨(show 1 + gC n2 + 0 ≤ 6 by omega), (show 3 + gL n2 + 0 ≤ 209 by omega)⟩) (fun v13 S1 H locs hp w => ?_)
            obtain ⟨rfl, rfl⟩ := hp
            refine ckIn (S := T12) (j := g9) X w (Nat.lt_of_lt_of_le hg9 h.b_ta) wC_X16_165 dX16_correct_57 ?_
            refine rE1 ((show gG (sNew S 17 12 q1) 17 12 = q1 from rfl).trans e12.symm) ?_
            refine cF (S := T12) (t := 17) (nA := 1) (As := [.ref (iq s0 g9)]) (rest := []) X w hl hL.1 (add_q12 G T12 n2 nt g9 (hea ▸ hL) h.b_ta (by have := hQ.le; have := h.b_ta; omega) hz2 (h.z31 12) hE2 hg9) wY_Jx4a65c_add_9ea2d wM_X16_170 wIn_Jx4a65c_add_9ea2d wSe_Jx4a65c_Jx4a65c_add_9ea2d_of_java_util_List_add__Ljava_lang_Object__Z wI_Jx4a65c fw_add (by decide) rfl (by decide +kernel) rfl rfl dX16_correct_60 ⟨Nat.le_of_ble_eq_true rfl, Nat.le_of_ble_eq_true rfl⟩ (Nat.le_of_ble_eq_true rfl) (⟨(show 1 + gC n2 + addC n2 ≤ 6 by have := (gCL (n2 + 1) (by have := hQ.le; have := h.b_ta; omega)).1; have e : gC (n2 + 1) = gC n2 + addC n2 := rfl; omega), (show 3 + gL n2 + addL n2 ≤ 209 by have := (gCL (n2 + 1) (by have := hQ.le; have := h.b_ta; omega)).2; have e : gL (n2 + 1) = gL n2 + addL n2 := rfl; omega)⟩) (fun v14 S1 H locs hp w => ?_)
            obtain ⟨rfl, q2, m2, b2, rfl, hb0, hb1⟩ := hp
            have h : RI ea (addS T12 12 q2 (capOf (n2 + 1)) m2 (nI (n2 + 1)) b2) ns nj nm nt nr nq := h.add12
            have hK : Kq hvC hiC hrC S (addS T12 12 q2 (capOf (n2 + 1)) m2 (nI (n2 + 1)) b2) := hK.add rfl rfl rfl rfl
            have hL : LsOk ea (addS T12 12 q2 (capOf (n2 + 1)) m2 (nI (n2 + 1)) b2) 12 (n2 + 1) := hL.add (by have := hQ.le; have := h.b_ta; omega)
            have hz2 : n2 + 1 = 0 → ¬ vV (addS T12 12 q2 (capOf (n2 + 1)) m2 (nI (n2 + 1)) b2) 30 12 := fun z => absurd z (by omega)
            have hE2 : ∀ j, j < n2 + 1 → ∃ g, g < nt ∧ mB (addS T12 12 q2 (capOf (n2 + 1)) m2 (nI (n2 + 1)) b2) 30 12 j = some (iq s0 g) := fun j hj => by
              rw [show mB (addS T12 12 q2 (capOf (n2 + 1)) m2 (nI (n2 + 1)) b2) 30 12 = b2 from rfl]
              rcases Nat.lt_succ_iff_lt_or_eq.mp hj with z | z
              · rw [hb1 j z]; exact hE2 j z
              · rw [z]; exact ⟨_, hg9, hb0⟩
            have hQ : QI s0 (addS T12 12 q2 (capOf (n2 + 1)) m2 (nI (n2 + 1)) b2) nq nt := ⟨hQ.1, hQ.2⟩
            have hE : RF s0 (addS T12 12 q2 (capOf (n2 + 1)) m2 (nI (n2 + 1)) b2) (coL A nr c8) nq nt := RF.oAdd hE (by decide)
            have hB2 : ∀ i, i < n2 + 1 → mB (addS T12 12 q2 (capOf (n2 + 1)) m2 (nI (n2 + 1)) b2) 30 12 i = some (iq s0 (qT A (c8 + i))) := fun i hi => by
              rw [show mB (addS T12 12 q2 (capOf (n2 + 1)) m2 (nI (n2 + 1)) b2) 30 12 = b2 from rfl]
              rcases Nat.lt_succ_iff_lt_or_eq.mp hi with z | z
              · rw [hb1 i z]; exact hB2 i z
              · rw [z, hb0, ← eq9, show c8 + n2 = k12 by omega]
            refine lv_pop hx hb dX16_correct_65 rfl ?_
            refine lv_goto (tgt := 208) hx hb dX16_correct_66 (by decide) ?_
            refine lv_iinc (v := nI (k12 + 1)) (lv' := [(3, .int (nI (k12 + 1))), (2, .int (v12_2 ||| 0)), (1, .ref (gG (sNew S 17 12 q1) 17 12)), (0, .ref (gG S 16 0))]) hx hb dX16_correct_208 hl (k := 1) rfl (nI_1 _) (by decide) rfl (fun ls hl => ?_)
            refine lv_goto (tgt := 12) hx hb dX16_correct_211 (by decide) ?_
            refine W.widen (k := 1 + gC (n2 + 1)) (n := 3 + gL (n2 + 1)) (by first | exact Nat.le_refl _ | exact (show 1 + gC n2 + addC n2 ≤ 1 + (gC n2 + addC n2) by omega)) (by first | exact Nat.le_refl _ | exact (show 3 + gL n2 + addL n2 ≤ 3 + (gL n2 + addL n2) by omega)) ?_
            exact ih12 (k12 + 1) (v12_2 ||| 0) (n2 + 1) c8 (addS T12 12 q2 (capOf (n2 + 1)) m2 (nI (n2 + 1)) b2) _ _ _ (by omega) (hlt_k12) (by omega) (by omega) (by first | exact hpr.2.2.2 | exact hcc) (by first | exact Or.inl ⟨h43, hpr.2.1, by rw [hpr.2.2.1]⟩ | exact Or.inr ⟨(v_or _ hv01).1, had.1, by have := had.2; omega⟩ | exact Or.inr ⟨((v_or _ hv01).2.2 h43).1, had.1, by have := had.2; omega⟩) (hE) (h) (hK) (e12) (hL) (hz2) (hE2) (hB2) (hQ) w (lv_sub hl [0, 1, 2, 3] rfl)
        · refine lv_iconst (v := 1) hx hb dX16_correct_35 (by decide) ?_
          refine lv_goto (tgt := 40) hx hb dX16_correct_36 (by decide) ?_
          refine lv_ior hx hb dX16_correct_40 ?_
          refine lv_istore_n (lv' := [(2, .int (v12_2 ||| 1)), (3, .int (nI k12)), (1, .ref (gG (sNew S 17 12 q1) 17 12)), (0, .ref (gG S 16 0))]) hx hb dX16_correct_41 rfl hl (by decide) rfl (fun ls hl => ?_)
          refine lv_iload_n hx hb dX16_correct_42 rfl (lv_at hl 0 rfl) ?_
          refine lv_if_eq (tgt := 69) hx hb dX16_correct_43 (by decide) (fun h43 => ?_) (fun h43 => ?_)
          · have hv01 : v12_2 = 0 ∨ v12_2 = 1 := hv.imp (fun z => z.1) (fun z => z.1)
            have hpr : v12_2 = 0 ∧ n2 = 0 ∧ c8 = k12 ∧ c8 + 1 ≤ coN A := by
              first
              | exact absurd ((v_or _ hv01).1.symm.trans h43) (by decide)
              | (have y := (v_or _ hv01).2.1 h43
                 rcases hv with ⟨z1, z2, z3⟩ | ⟨z1, -⟩
                 · exact ⟨z1, z2, z3, (co_dek hcc (by omega) (by have := h.b_qu; omega)).2 (Int32.not_lt.mpr hwi)⟩
                 · rw [y] at z1; exact absurd z1 (by decide))
            refine lv_aload_n hx hb dX16_correct_69 rfl (lv_at hl 3 rfl) ?_
            refine lv_dup hx hb dX16_correct_70 rfl ?_
            refine rE0 ((rfl).trans ((hK_T12.G (t := 16) (i := 0) rfl)).symm) ?_
            refine g_16_2 (S := T12) (x := (mI (coL A nr c8) 258 0)) X w h.v wF_X16_7 (hE.1 258 rfl 0) dX16_correct_71 ?_
            refine lv_bipush (v := 10) hx hb dX16_correct_74 (by decide) ?_
            refine lv_isub hx hb dX16_correct_76 ?_
            refine rE1 ((rfl).trans ((hK_T12.G (t := 16) (i := 0) rfl)).symm) ?_
            refine p_16_2 (S := T12) (x := ((mI (coL A nr c8) 258 0) - 10)) X w h.v wF_X16_7 dX16_correct_77 (fun H locs w => ?_)
            have h : RI ea (sI T12 258 0 ((mI (coL A nr c8) 258 0) - 10)) ns nj nm nt nr nq := h.stI (by decide)
            have hK : Kq hvC hiC hrC S (sI T12 258 0 ((mI (coL A nr c8) 258 0) - 10)) := hK.sI rfl
            have hE : RF s0 (sI T12 258 0 ((mI (coL A nr c8) 258 0) - 10)) (sI (coL A nr c8) 258 0 ((mI (coL A nr c8) 258 0) - 10)) nq nt := hE.bI
            refine lv_aload_n hx hb dX16_correct_80 rfl (lv_at hl 3 rfl) ?_
            refine rE0 ((rfl).trans ((hK_T12.G (t := 16) (i := 0) rfl)).symm) ?_
            refine g_16_9 (S := (sI T12 258 0 ((mI (coL A nr c8) 258 0) - 10))) (x := (some (gG (sI T12 258 0 ((mI (coL A nr c8) 258 0) - 10)) 17 9))) X w h.v wF_X16_26 (h.f_ta) dX16_correct_81 ?_
            refine lv_aload_n hx hb dX16_correct_84 rfl (lv_at hl 3 rfl) ?_
            refine rE0 ((rfl).trans ((hK_T12.G (t := 16) (i := 0) rfl)).symm) ?_
            refine g_16_11 (S := (sI T12 258 0 ((mI (coL A nr c8) 258 0) - 10))) (x := (some (gG (sI T12 258 0 ((mI (coL A nr c8) 258 0) - 10)) 17 11))) X w h.v wF_X16_32 (h.f_qu) dX16_correct_85 ?_
            refine lv_iload_n hx hb dX16_correct_88 rfl (lv_at hl 1 rfl) ?_
            obtain ⟨g9, hg9, eg9, eb9⟩ := hE.2.2.2 k12 hlt_k12
            have eq9 : qT A k12 = g9 := by unfold qT; rw [← coL_60 (nr := nr) c8]; exact (congrArg Int32.toNatClampNeg eg9).trans (nI_clamp (by have := h.b_ta; omega))
            refine cF (S := (sI T12 258 0 ((mI (coL A nr c8) 258 0) - 10))) (t := 17) (nA := 1) (As := [.int (nI k12)]) (rest := [.ref (gG (sI T12 258 0 ((mI (coL A nr c8) 258 0) - 10)) 17 9)]) X w hl h.l_qu.1 (m_get G (sI T12 258 0 ((mI (coL A nr c8) 258 0) - 10)) ea 11 k12 nq (some (iq s0 g9)) h.l_qu hlt_k12 eb9) wY_Jx4a65c_get_915e3 wM_X16_46 wIn_Jx4a65c_get_915e3 wSe_Jx4a65c_Jx4a65c_get_915e3_of_java_util_List_get__I_Ljava_lang_Object_ wI_Jx4a65c fw_get (by decide) rfl (by decide +kernel) rfl rfl dX16_correct_89 ⟨by decide, by decide⟩ (Nat.le_of_ble_eq_true rfl) (⟨(show 1 + gC n2 + 0 ≤ 6 by omega), (show 3 + gL n2 + 0 ≤ 209 by omega)⟩) (fun v15 S1 H locs hp w => ?_)
            obtain ⟨rfl, rfl⟩ := hp
            refine ckIn (S := (sI T12 258 0 ((mI (coL A nr c8) 258 0) - 10))) (j := g9) X w (Nat.lt_of_lt_of_le hg9 h.b_ta) wC_X16_165 dX16_correct_94 ?_
            refine cVx (S := (sI T12 258 0 ((mI (coL A nr c8) 258 0) - 10))) (nA := 0) (As := []) (rest := [.ref (gG (sI T12 258 0 ((mI (coL A nr c8) 258 0) - 10)) 17 9)]) X w hl (recI X w (Nat.lt_of_lt_of_le hg9 h.b_ta)) (m_J6_intValue_8abf5 G (sI T12 258 0 ((mI (coL A nr c8) 258 0) - 10)) g9 (Nat.lt_of_lt_of_le hg9 h.b_ta)) wY_J6_intValue_8abf5 wM_X16_174 wIn_J6_intValue_8abf5 wSe_J6_J6_intValue_8abf5 wI_J6 (by decide) rfl rfl dX16_correct_97 ⟨by decide, by decide⟩ (Nat.le_of_ble_eq_true rfl) (⟨(show 1 + gC n2 + 0 ≤ 6 by omega), (show 3 + gL n2 + 0 ≤ 209 by omega)⟩) (fun v16 S1 H locs hp w => ?_)
            obtain ⟨rfl, rfl⟩ := hp
            refine cF (S := (sI T12 258 0 ((mI (coL A nr c8) 258 0) - 10))) (t := 17) (nA := 1) (As := [.int (nI g9)]) (rest := []) X w hl h.l_ta.1 (m_get G (sI T12 258 0 ((mI (coL A nr c8) 258 0) - 10)) ea 9 g9 nt (some (gG (sI T12 258 0 ((mI (coL A nr c8) 258 0) - 10)) 15 g9)) h.l_ta hg9 (h.e_ta g9 hg9).1) wY_Jx4a65c_get_915e3 wM_X16_46 wIn_Jx4a65c_get_915e3 wSe_Jx4a65c_Jx4a65c_get_915e3_of_java_util_List_get__I_Ljava_lang_Object_ wI_Jx4a65c fw_get (by decide) rfl (by decide +kernel) rfl rfl dX16_correct_100 ⟨by decide, by decide⟩ (Nat.le_of_ble_eq_true rfl) (⟨(show 1 + gC n2 + 0 ≤ 6 by omega), (show 3 + gL n2 + 0 ≤ 209 by omega)⟩) (fun v17 S1 H locs hp w => ?_)
            obtain ⟨rfl, rfl⟩ := hp
            refine ckC (S := (sI T12 258 0 ((mI (coL A nr c8) 258 0) - 10))) (t := 15) X w (h.e_ta g9 hg9).2 (by decide) rfl wC_X16_105 dX16_correct_105 ?_
            refine lv_iconst (v := 2) hx hb dX16_correct_108 (by decide) ?_
            refine p_15_13 (S := (sI T12 258 0 ((mI (coL A nr c8) 258 0) - 10))) (x := 2) X w (h.e_ta g9 hg9).2 wF_X16_161 dX16_correct_109 (fun H locs w => ?_)
            have h : RI ea (sI (sI T12 258 0 ((mI (coL A nr c8) 258 0) - 10)) 253 g9 2) ns nj nm nt nr nq := h.stI (by decide)
            have hK : Kq hvC hiC hrC S (sI (sI T12 258 0 ((mI (coL A nr c8) 258 0) - 10)) 253 g9 2) := hK.sI rfl
            have hQ : QI s0 (sI (sI T12 258 0 ((mI (coL A nr c8) 258 0) - 10)) 253 g9 2) nq nt := hQ.s253 (by decide)
            have hE : RF s0 (sI (sI T12 258 0 ((mI (coL A nr c8) 258 0) - 10)) 253 g9 2) (sI (sI (coL A nr c8) 258 0 ((mI (coL A nr c8) 258 0) - 10)) 253 g9 2) nq nt := hE.bI
            refine lv_iconst (v := 0) hx hb dX16_correct_112 (by decide) ?_
            refine lv_istore (lv' := [(4, .int 0), (2, .int (v12_2 ||| 1)), (3, .int (nI k12)), (1, .ref (gG (sNew S 17 12 q1) 17 12)), (0, .ref (gG S 16 0))]) hx hb dX16_correct_113 hl (by decide) rfl (fun ls hl => ?_)
            have L115 : ∀ (N : Nat) (k115 : Nat) (T115 : HS) (H : Heap) (locs : List Loc) (ls : Array Slot), nr - k115 < N → (k115 ≤ nr) → (RF s0 T115 (goT (sI (sI (coL A nr c8) 258 0 (mI (coL A nr c8) 258 0 - 10)) 253 g9 2) g9 k115) nq nt) → (RI ea T115 ns nj nm nt nr nq) → (Kq hvC hiC hrC S T115) → (gG T115 17 12 = q1) → (LsOk ea T115 12 n2) → (n2 = 0 → ¬ vV T115 30 12) → (∀ j, j < n2 → ∃ g, g < nt ∧ mB T115 30 12 j = some (iq s0 g)) → (∀ i, i < n2 → mB T115 30 12 i = some (iq s0 (qT A (c8 + i)))) → (QI s0 T115 nq nt) → (mB T115 30 11 k12 = some (iq s0 g9)) → Wd s0 D cy T115 s.heap H locs → lv_has ls 5 [(4, .int (nI k115)), (2, .int (v12_2 ||| 1)), (3, .int (nI k12)), (1, .ref (gG (sNew S 17 12 q1) 17 12)), (0, .ref (gG S 16 0))] → W p l e rm_r_X16_correct s m ([.ref (gG S 16 0)] : List Value).toArray below meth c H locs (1 + gC n2) (3 + gL n2) (MQ below (GQ s0 D cy (fun v S' => none = v ∧ ∃ n2, RI ea S' ns nj nm nt nr n2 ∧ Kq hvQ hiQ hrQ S S' ∧ QI s0 S' n2 nt ∧ RF s0 S' (coA A nr) n2 nt ∧ (∀ i, mI S' 247 i = mI S 247 i))) ([.ref (gG S 16 0)] : List Value).toArray s rm_r_X16_correct.cells rm_r_X16_correct.slots (A0 s0)) (F0 m 115 ls []) := by
              intro N
              induction N with
              | zero => intros; omega
              | succ N ih115 =>
                intro k115 T115 H locs ls hmu hk_k115 hE h hK_T115 e12 hL hz2 hE2 hB2 hQ eb9 w hl
                have hK := hK_T115
                refine lv_iload hx hb dX16_correct_115 (lv_at hl 0 rfl) ?_
                refine lv_aload_n hx hb dX16_correct_117 rfl (lv_at hl 4 rfl) ?_
                refine rE0 ((rfl).trans ((hK_T115.G (t := 16) (i := 0) rfl)).symm) ?_
                refine g_16_10 (S := T115) (x := (some (gG T115 17 10))) X w h.v wF_X16_29 (h.f_re) dX16_correct_118 ?_
                refine cF (S := T115) (t := 17) (nA := 0) (As := []) (rest := [.int (nI k115)]) X w hl h.l_re.1 (m_size G T115 ea 10 nr h.l_re) wY_Jx4a65c_size_8abf5 wM_X16_73 wIn_Jx4a65c_size_8abf5 wSe_Jx4a65c_Jx4a65c_size_8abf5_of_java_util_List_size___I wI_Jx4a65c fw_size (by decide) rfl (by decide +kernel) rfl rfl dX16_correct_121 ⟨by decide, by decide⟩ (Nat.le_of_ble_eq_true rfl) (⟨(show 1 + gC n2 + 0 ≤ 6 by omega), (show 3 + gL n2 + 0 ≤ 209 by omega)⟩) (fun v18 S1 H locs hp w => ?_)
                obtain ⟨rfl, rfl⟩ := hp
                refine lv_icmp_ge (tgt := 208) hx hb dX16_correct_126 (by decide) (fun hc_k115 => ?_) (fun hc_k115 => ?_)
                · have hge_k115 : nr ≤ k115 := by
                    have hb1 := h.b_re
                    exact (nI_leI (a := nr) (b := k115) (by omega) (by omega)).mp hc_k115
                  have hge_k115 : nr ≤ k115 := by
                    have hb1 := h.b_re
                    exact (nI_leI (a := nr) (b := k115) (by omega) (by omega)).mp hc_k115
                  refine lv_iinc (v := nI (k12 + 1)) (lv' := [(3, .int (nI (k12 + 1))), (4, .int (nI k115)), (2, .int (v12_2 ||| 1)), (1, .ref (gG (sNew S 17 12 q1) 17 12)), (0, .ref (gG S 16 0))]) hx hb dX16_correct_208 hl (k := 2) rfl (nI_1 _) (by decide) rfl (fun ls hl => ?_)
                  refine lv_goto (tgt := 12) hx hb dX16_correct_211 (by decide) ?_
                  have hE : RF s0 T115 (coL A nr (c8 + 1)) nq nt := by
                    rw [show k115 = nr by omega] at hE
                    show RF s0 _ (goT (sI (sI (coL A nr c8) 258 0 (mI (coL A nr c8) 258 0 - 10)) 253 (qT A c8) 2) (qT A c8) nr) nq nt
                    rw [show qT A c8 = g9 by rw [hpr.2.2.1]; exact eq9]; exact hE
                  have hB2 : ∀ i, i < n2 → mB T115 30 12 i = some (iq s0 (qT A (c8 + 1 + i))) := fun i hi => absurd hi (by have := hpr.2.1; omega)
                  refine W.widen (k := 1 + gC n2) (n := 3 + gL n2) (by first | exact Nat.le_refl _ | exact (show 1 + gC n2 + addC n2 ≤ 1 + (gC n2 + addC n2) by omega)) (by first | exact Nat.le_refl _ | exact (show 3 + gL n2 + addL n2 ≤ 3 + (gL n2 + addL n2) by omega)) ?_
                  exact ih12 (k12 + 1) (v12_2 ||| 1) n2 (c8 + 1) T115 _ _ _ (by omega) (hlt_k12) (by omega) (by omega) (by first | exact hpr.2.2.2 | exact hcc) (by first | exact Or.inl ⟨h43, hpr.2.1, by rw [hpr.2.2.1]⟩ | exact Or.inr ⟨(v_or _ hv01).1, had.1, by have := had.2; omega⟩ | exact Or.inr ⟨((v_or _ hv01).2.2 h43).1, had.1, by have := had.2; omega⟩) (hE) (h) (hK) (e12) (hL) (hz2) (hE2) (hB2) (hQ) w (lv_sub hl [0, 2, 3, 4] rfl)
                · have hlt_k115 : k115 < nr := by
                    have hb1 := h.b_re
                    exact Nat.lt_of_not_le (fun z => hc_k115 ((nI_leI (a := nr) (b := k115) (by omega) (by omega)).mpr z))
                  have hlt_k115 : k115 < nr := by
                    have hb1 := h.b_re
                    exact Nat.lt_of_not_le (fun z => hc_k115 ((nI_leI (a := nr) (b := k115) (by omega) (by omega)).mpr z))
                  refine lv_aload_n hx hb dX16_correct_129 rfl (lv_at hl 4 rfl) ?_
                  refine rE0 ((rfl).trans ((hK_T115.G (t := 16) (i := 0) rfl)).symm) ?_
                  refine g_16_10 (S := T115) (x := (some (gG T115 17 10))) X w h.v wF_X16_29 (h.f_re) dX16_correct_130 ?_
                  refine lv_iload hx hb dX16_correct_133 (lv_at hl 0 rfl) ?_
                  refine cF (S := T115) (t := 17) (nA := 1) (As := [.int (nI k115)]) (rest := []) X w hl h.l_re.1 (m_get G T115 ea 10 k115 nr (some (gG T115 13 k115)) h.l_re hlt_k115 (h.e_re k115 hlt_k115).1) wY_Jx4a65c_get_915e3 wM_X16_46 wIn_Jx4a65c_get_915e3 wSe_Jx4a65c_Jx4a65c_get_915e3_of_java_util_List_get__I_Ljava_lang_Object_ wI_Jx4a65c fw_get (by decide) rfl (by decide +kernel) rfl rfl dX16_correct_135 ⟨by decide, by decide⟩ (Nat.le_of_ble_eq_true rfl) (⟨(show 1 + gC n2 + 0 ≤ 6 by omega), (show 3 + gL n2 + 0 ≤ 209 by omega)⟩) (fun v19 S1 H locs hp w => ?_)
                  obtain ⟨rfl, rfl⟩ := hp
                  refine ckC (S := T115) (t := 13) X w (h.e_re k115 hlt_k115).2.1 (by decide) rfl wC_X16_177 dX16_correct_140 ?_
                  refine g_13_2 (S := T115) (x := (some (gG T115 35 k115))) X w (h.e_re k115 hlt_k115).2.1 wF_X16_179 ((h.e_re k115 hlt_k115).2.2.1) dX16_correct_143 ?_
                  refine lv_aload_n hx hb dX16_correct_146 rfl (lv_at hl 4 rfl) ?_
                  refine rE0 ((rfl).trans ((hK_T115.G (t := 16) (i := 0) rfl)).symm) ?_
                  refine g_16_11 (S := T115) (x := (some (gG T115 17 11))) X w h.v wF_X16_32 (h.f_qu) dX16_correct_147 ?_
                  refine lv_iload_n hx hb dX16_correct_150 rfl (lv_at hl 2 rfl) ?_
                  refine cF (S := T115) (t := 17) (nA := 1) (As := [.int (nI k12)]) (rest := [.ref (gG T115 35 k115)]) X w hl h.l_qu.1 (m_get G T115 ea 11 k12 nq (some (iq s0 g9)) h.l_qu hlt_k12 eb9) wY_Jx4a65c_get_915e3 wM_X16_46 wIn_Jx4a65c_get_915e3 wSe_Jx4a65c_Jx4a65c_get_915e3_of_java_util_List_get__I_Ljava_lang_Object_ wI_Jx4a65c fw_get (by decide) rfl (by decide +kernel) rfl rfl dX16_correct_151 ⟨by decide, by decide⟩ (Nat.le_of_ble_eq_true rfl) (⟨(show 1 + gC n2 + 0 ≤ 6 by omega), (show 3 + gL n2 + 0 ≤ 209 by omega)⟩) (fun v20 S1 H locs hp w => ?_)
                  obtain ⟨rfl, rfl⟩ := hp
                  refine ckIn (S := T115) (j := g9) X w (Nat.lt_of_lt_of_le hg9 h.b_ta) wC_X16_165 dX16_correct_156 ?_
                  refine cVx (S := T115) (nA := 0) (As := []) (rest := [.ref (gG T115 35 k115)]) X w hl (recI X w (Nat.lt_of_lt_of_le hg9 h.b_ta)) (m_J6_intValue_8abf5 G T115 g9 (Nat.lt_of_lt_of_le hg9 h.b_ta)) wY_J6_intValue_8abf5 wM_X16_174 wIn_J6_intValue_8abf5 wSe_J6_J6_intValue_8abf5 wI_J6 (by decide) rfl rfl dX16_correct_159 ⟨by decide, by decide⟩ (Nat.le_of_ble_eq_true rfl) (⟨(show 1 + gC n2 + 0 ≤ 6 by omega), (show 3 + gL n2 + 0 ≤ 209 by omega)⟩) (fun v21 S1 H locs hp w => ?_)
                  obtain ⟨rfl, rfl⟩ := hp
                  refine aLdI (S := T115) (t := 35) (v := mA T115 35 k115 g9) X w (h.e_re k115 hlt_k115).2.2.2.1 (by decide) rfl rfl (by rw [(h.e_re k115 hlt_k115).2.2.2.2]; exact nI_vp (Nat.lt_of_lt_of_le hg9 h.b_ta) (by decide)) (by rw [cl_nI (n := 40) (Nat.lt_of_lt_of_le hg9 h.b_ta) (by decide)]) dX16_correct_162 ?_
                  refine lv_iconst (v := 1) hx hb dX16_correct_163 (by decide) ?_
                  refine lv_icmp_ne (tgt := 202) hx hb dX16_correct_164 (by decide) (fun hgo => ?_) (fun hgo => ?_)
                  · refine lv_iinc (v := nI (k115 + 1)) (lv' := [(4, .int (nI (k115 + 1))), (2, .int (v12_2 ||| 1)), (3, .int (nI k12)), (1, .ref (gG (sNew S 17 12 q1) 17 12)), (0, .ref (gG S 16 0))]) hx hb dX16_correct_202 hl (k := 0) rfl (nI_1 _) (by decide) rfl (fun ls hl => ?_)
                    refine lv_goto (tgt := 115) hx hb dX16_correct_205 (by decide) ?_
                    have hE : RF s0 T115 (goT (sI (sI (coL A nr c8) 258 0 (mI (coL A nr c8) 258 0 - 10)) 253 g9 2) g9 (k115 + 1)) nq nt := by first | (rw [goT_f (fun z => hgo ((congrFun (hE.2.1 35 rfl k115) g9).trans z))]; exact hE) | exact hE
                    exact ih115 (k115 + 1) T115 _ _ _ (by omega) (hlt_k115) (hE) (h) (hK) (e12) (hL) (hz2) (hE2) (hB2) (hQ) (eb9) w (lv_sub hl [0, 1, 2, 3, 4] rfl)
                  · have hE9 := hE
                    refine lv_aload_n hx hb dX16_correct_167 rfl (lv_at hl 4 rfl) ?_
                    refine rE0 ((rfl).trans ((hK_T115.G (t := 16) (i := 0) rfl)).symm) ?_
                    refine g_16_10 (S := T115) (x := (some (gG T115 17 10))) X w h.v wF_X16_29 (h.f_re) dX16_correct_168 ?_
                    refine lv_iload hx hb dX16_correct_171 (lv_at hl 0 rfl) ?_
                    refine cF (S := T115) (t := 17) (nA := 1) (As := [.int (nI k115)]) (rest := []) X w hl h.l_re.1 (m_get G T115 ea 10 k115 nr (some (gG T115 13 k115)) h.l_re hlt_k115 (h.e_re k115 hlt_k115).1) wY_Jx4a65c_get_915e3 wM_X16_46 wIn_Jx4a65c_get_915e3 wSe_Jx4a65c_Jx4a65c_get_915e3_of_java_util_List_get__I_Ljava_lang_Object_ wI_Jx4a65c fw_get (by decide) rfl (by decide +kernel) rfl rfl dX16_correct_173 ⟨by decide, by decide⟩ (Nat.le_of_ble_eq_true rfl) (⟨(show 1 + gC n2 + 0 ≤ 6 by omega), (show 3 + gL n2 + 0 ≤ 209 by omega)⟩) (fun v22 S1 H locs hp w => ?_)
                    obtain ⟨rfl, rfl⟩ := hp
                    refine ckC (S := T115) (t := 13) X w (h.e_re k115 hlt_k115).2.1 (by decide) rfl wC_X16_177 dX16_correct_178 ?_
                    refine g_13_2 (S := T115) (x := (some (gG T115 35 k115))) X w (h.e_re k115 hlt_k115).2.1 wF_X16_179 ((h.e_re k115 hlt_k115).2.2.1) dX16_correct_181 ?_
                    refine lv_aload_n hx hb dX16_correct_184 rfl (lv_at hl 4 rfl) ?_
                    refine rE0 ((rfl).trans ((hK_T115.G (t := 16) (i := 0) rfl)).symm) ?_
                    refine g_16_11 (S := T115) (x := (some (gG T115 17 11))) X w h.v wF_X16_32 (h.f_qu) dX16_correct_185 ?_
                    refine lv_iload_n hx hb dX16_correct_188 rfl (lv_at hl 2 rfl) ?_
                    refine cF (S := T115) (t := 17) (nA := 1) (As := [.int (nI k12)]) (rest := [.ref (gG T115 35 k115)]) X w hl h.l_qu.1 (m_get G T115 ea 11 k12 nq (some (iq s0 g9)) h.l_qu hlt_k12 eb9) wY_Jx4a65c_get_915e3 wM_X16_46 wIn_Jx4a65c_get_915e3 wSe_Jx4a65c_Jx4a65c_get_915e3_of_java_util_List_get__I_Ljava_lang_Object_ wI_Jx4a65c fw_get (by decide) rfl (by decide +kernel) rfl rfl dX16_correct_189 ⟨by decide, by decide⟩ (Nat.le_of_ble_eq_true rfl) (⟨(show 1 + gC n2 + 0 ≤ 6 by omega), (show 3 + gL n2 + 0 ≤ 209 by omega)⟩) (fun v23 S1 H locs hp w => ?_)
                    obtain ⟨rfl, rfl⟩ := hp
                    refine ckIn (S := T115) (j := g9) X w (Nat.lt_of_lt_of_le hg9 h.b_ta) wC_X16_165 dX16_correct_194 ?_
                    refine cVx (S := T115) (nA := 0) (As := []) (rest := [.ref (gG T115 35 k115)]) X w hl (recI X w (Nat.lt_of_lt_of_le hg9 h.b_ta)) (m_J6_intValue_8abf5 G T115 g9 (Nat.lt_of_lt_of_le hg9 h.b_ta)) wY_J6_intValue_8abf5 wM_X16_174 wIn_J6_intValue_8abf5 wSe_J6_J6_intValue_8abf5 wI_J6 (by decide) rfl rfl dX16_correct_197 ⟨by decide, by decide⟩ (Nat.le_of_ble_eq_true rfl) (⟨(show 1 + gC n2 + 0 ≤ 6 by omega), (show 3 + gL n2 + 0 ≤ 209 by omega)⟩) (fun v24 S1 H locs hp w => ?_)
                    obtain ⟨rfl, rfl⟩ := hp
                    refine lv_iconst (v := 2) hx hb dX16_correct_200 (by decide) ?_
                    refine aStI (S := T115) (t := 35) X w (h.e_re k115 hlt_k115).2.2.2.1 (by decide) rfl rfl (by show vp_in _ (mN _ 35 k115); rw [(h.e_re k115 hlt_k115).2.2.2.2]; exact nI_vp (Nat.lt_of_lt_of_le hg9 h.b_ta) (by decide)) dX16_correct_201 (fun H locs w => ?_)
                    have h : RI ea (sA T115 35 k115 (upd (mA T115 35 k115) (nI g9).toNatClampNeg 2)) ns nj nm nt nr nq := h.a35 _ _
                    have hK : Kq hvC hiC hrC S (sA T115 35 k115 (upd (mA T115 35 k115) (nI g9).toNatClampNeg 2)) := hK.sA rfl
                    have hE : RF s0 (sA T115 35 k115 (upd (mA T115 35 k115) (nI g9).toNatClampNeg 2)) (sA (goT (sI (sI (coL A nr c8) 258 0 (mI (coL A nr c8) 258 0 - 10)) 253 g9 2) g9 k115) 35 k115 (upd (mA (goT (sI (sI (coL A nr c8) 258 0 (mI (coL A nr c8) 258 0 - 10)) 253 g9 2) g9 k115) 35 k115) (nI g9).toNatClampNeg 2)) nq nt := hE.sU rfl
                    have hE : RF s0 (sA T115 35 k115 (upd (mA T115 35 k115) (nI g9).toNatClampNeg 2)) (goT (sI (sI (coL A nr c8) 258 0 (mI (coL A nr c8) 258 0 - 10)) 253 g9 2) g9 (k115 + 1)) nq nt := by rw [show (nI g9).toNatClampNeg = g9 from nI_clamp (by have := h.b_ta; omega)] at hE ⊢; rw [goT_t ((congrFun (hE9.2.1 35 rfl k115) g9).symm.trans hgo)]; exact hE
                    refine lv_iinc (v := nI (k115 + 1)) (lv' := [(4, .int (nI (k115 + 1))), (2, .int (v12_2 ||| 1)), (3, .int (nI k12)), (1, .ref (gG (sNew S 17 12 q1) 17 12)), (0, .ref (gG S 16 0))]) hx hb dX16_correct_202 hl (k := 0) rfl (nI_1 _) (by decide) rfl (fun ls hl => ?_)
                    refine lv_goto (tgt := 115) hx hb dX16_correct_205 (by decide) ?_
                    have hE : RF s0 (sA T115 35 k115 (upd (mA T115 35 k115) (nI g9).toNatClampNeg 2)) (goT (sI (sI (coL A nr c8) 258 0 (mI (coL A nr c8) 258 0 - 10)) 253 g9 2) g9 (k115 + 1)) nq nt := by first | (rw [goT_f (fun z => hgo ((congrFun (hE.2.1 35 rfl k115) g9).trans z))]; exact hE) | exact hE
                    exact ih115 (k115 + 1) (sA T115 35 k115 (upd (mA T115 35 k115) (nI g9).toNatClampNeg 2)) _ _ _ (by omega) (hlt_k115) (hE) (h) (hK) (e12) (hL) (hz2) (hE2) (hB2) (hQ) (eb9) w (lv_sub hl [0, 1, 2, 3, 4] rfl)
            exact L115 _ 0 (sI (sI T12 258 0 ((mI (coL A nr c8) 258 0) - 10)) 253 g9 2) _ _ _ (Nat.lt_succ_self _) (Nat.zero_le _) (hE) (h) (hK) (e12) (hL) (hz2) (hE2) (hB2) (hQ) (eb9) w (lv_sub hl [0, 1, 2, 3, 4] rfl)
          · have hv01 : v12_2 = 0 ∨ v12_2 = 1 := hv.imp (fun z => z.1) (fun z => z.1)
            have had : c8 = coN A ∧ n2 + c8 = k12 := by
              rcases hv with ⟨z1, z2, z3⟩ | ⟨-, z2, z3⟩
              · first
                | exact absurd (z1.symm.trans ((v_or _ hv01).2.2 h43).2) (by decide)
                | exact ⟨(co_dek hcc (by omega) (by have := h.b_qu; omega)).1 (Int32.not_le.mp hwi), by omega⟩
              · exact ⟨z2, z3⟩
            refine lv_aload_n hx hb dX16_correct_46 rfl (lv_at hl 2 rfl) ?_
            refine lv_aload_n hx hb dX16_correct_47 rfl (lv_at hl 3 rfl) ?_
            refine rE0 ((rfl).trans ((hK_T12.G (t := 16) (i := 0) rfl)).symm) ?_
            refine g_16_11 (S := T12) (x := (some (gG T12 17 11))) X w h.v wF_X16_32 (h.f_qu) dX16_correct_48 ?_
            refine lv_iload_n hx hb dX16_correct_51 rfl (lv_at hl 1 rfl) ?_
            obtain ⟨g9, hg9, eg9, eb9⟩ := hE.2.2.2 k12 hlt_k12
            have eq9 : qT A k12 = g9 := by unfold qT; rw [← coL_60 (nr := nr) c8]; exact (congrArg Int32.toNatClampNeg eg9).trans (nI_clamp (by have := h.b_ta; omega))
            refine cF (S := T12) (t := 17) (nA := 1) (As := [.int (nI k12)]) (rest := [.ref (gG (sNew S 17 12 q1) 17 12)]) X w hl h.l_qu.1 (m_get G T12 ea 11 k12 nq (some (iq s0 g9)) h.l_qu hlt_k12 eb9) wY_Jx4a65c_get_915e3 wM_X16_46 wIn_Jx4a65c_get_915e3 wSe_Jx4a65c_Jx4a65c_get_915e3_of_java_util_List_get__I_Ljava_lang_Object_ wI_Jx4a65c fw_get (by decide) rfl (by decide +kernel) rfl rfl dX16_correct_52 ⟨by decide, by decide⟩ (Nat.le_of_ble_eq_true rfl) (⟨(show 1 + gC n2 + 0 ≤ 6 by omega), (show 3 + gL n2 + 0 ≤ 209 by omega)⟩) (fun v25 S1 H locs hp w => ?_)
            obtain ⟨rfl, rfl⟩ := hp
            refine ckIn (S := T12) (j := g9) X w (Nat.lt_of_lt_of_le hg9 h.b_ta) wC_X16_165 dX16_correct_57 ?_
            refine rE1 ((show gG (sNew S 17 12 q1) 17 12 = q1 from rfl).trans e12.symm) ?_
            refine cF (S := T12) (t := 17) (nA := 1) (As := [.ref (iq s0 g9)]) (rest := []) X w hl hL.1 (add_q12 G T12 n2 nt g9 (hea ▸ hL) h.b_ta (by have := hQ.le; have := h.b_ta; omega) hz2 (h.z31 12) hE2 hg9) wY_Jx4a65c_add_9ea2d wM_X16_170 wIn_Jx4a65c_add_9ea2d wSe_Jx4a65c_Jx4a65c_add_9ea2d_of_java_util_List_add__Ljava_lang_Object__Z wI_Jx4a65c fw_add (by decide) rfl (by decide +kernel) rfl rfl dX16_correct_60 ⟨Nat.le_of_ble_eq_true rfl, Nat.le_of_ble_eq_true rfl⟩ (Nat.le_of_ble_eq_true rfl) (⟨(show 1 + gC n2 + addC n2 ≤ 6 by have := (gCL (n2 + 1) (by have := hQ.le; have := h.b_ta; omega)).1; have e : gC (n2 + 1) = gC n2 + addC n2 := rfl; omega), (show 3 + gL n2 + addL n2 ≤ 209 by have := (gCL (n2 + 1) (by have := hQ.le; have := h.b_ta; omega)).2; have e : gL (n2 + 1) = gL n2 + addL n2 := rfl; omega)⟩) (fun v26 S1 H locs hp w => ?_)
            obtain ⟨rfl, q2, m2, b2, rfl, hb0, hb1⟩ := hp
            have h : RI ea (addS T12 12 q2 (capOf (n2 + 1)) m2 (nI (n2 + 1)) b2) ns nj nm nt nr nq := h.add12
            have hK : Kq hvC hiC hrC S (addS T12 12 q2 (capOf (n2 + 1)) m2 (nI (n2 + 1)) b2) := hK.add rfl rfl rfl rfl
            have hL : LsOk ea (addS T12 12 q2 (capOf (n2 + 1)) m2 (nI (n2 + 1)) b2) 12 (n2 + 1) := hL.add (by have := hQ.le; have := h.b_ta; omega)
            have hz2 : n2 + 1 = 0 → ¬ vV (addS T12 12 q2 (capOf (n2 + 1)) m2 (nI (n2 + 1)) b2) 30 12 := fun z => absurd z (by omega)
            have hE2 : ∀ j, j < n2 + 1 → ∃ g, g < nt ∧ mB (addS T12 12 q2 (capOf (n2 + 1)) m2 (nI (n2 + 1)) b2) 30 12 j = some (iq s0 g) := fun j hj => by
              rw [show mB (addS T12 12 q2 (capOf (n2 + 1)) m2 (nI (n2 + 1)) b2) 30 12 = b2 from rfl]
              rcases Nat.lt_succ_iff_lt_or_eq.mp hj with z | z
              · rw [hb1 j z]; exact hE2 j z
              · rw [z]; exact ⟨_, hg9, hb0⟩
            have hQ : QI s0 (addS T12 12 q2 (capOf (n2 + 1)) m2 (nI (n2 + 1)) b2) nq nt := ⟨hQ.1, hQ.2⟩
            have hE : RF s0 (addS T12 12 q2 (capOf (n2 + 1)) m2 (nI (n2 + 1)) b2) (coL A nr c8) nq nt := RF.oAdd hE (by decide)
            have hB2 : ∀ i, i < n2 + 1 → mB (addS T12 12 q2 (capOf (n2 + 1)) m2 (nI (n2 + 1)) b2) 30 12 i = some (iq s0 (qT A (c8 + i))) := fun i hi => by
              rw [show mB (addS T12 12 q2 (capOf (n2 + 1)) m2 (nI (n2 + 1)) b2) 30 12 = b2 from rfl]
              rcases Nat.lt_succ_iff_lt_or_eq.mp hi with z | z
              · rw [hb1 i z]; exact hB2 i z
              · rw [z, hb0, ← eq9, show c8 + n2 = k12 by omega]
            refine lv_pop hx hb dX16_correct_65 rfl ?_
            refine lv_goto (tgt := 208) hx hb dX16_correct_66 (by decide) ?_
            refine lv_iinc (v := nI (k12 + 1)) (lv' := [(3, .int (nI (k12 + 1))), (2, .int (v12_2 ||| 1)), (1, .ref (gG (sNew S 17 12 q1) 17 12)), (0, .ref (gG S 16 0))]) hx hb dX16_correct_208 hl (k := 1) rfl (nI_1 _) (by decide) rfl (fun ls hl => ?_)
            refine lv_goto (tgt := 12) hx hb dX16_correct_211 (by decide) ?_
            refine W.widen (k := 1 + gC (n2 + 1)) (n := 3 + gL (n2 + 1)) (by first | exact Nat.le_refl _ | exact (show 1 + gC n2 + addC n2 ≤ 1 + (gC n2 + addC n2) by omega)) (by first | exact Nat.le_refl _ | exact (show 3 + gL n2 + addL n2 ≤ 3 + (gL n2 + addL n2) by omega)) ?_
            exact ih12 (k12 + 1) (v12_2 ||| 1) (n2 + 1) c8 (addS T12 12 q2 (capOf (n2 + 1)) m2 (nI (n2 + 1)) b2) _ _ _ (by omega) (hlt_k12) (by omega) (by omega) (by first | exact hpr.2.2.2 | exact hcc) (by first | exact Or.inl ⟨h43, hpr.2.1, by rw [hpr.2.2.1]⟩ | exact Or.inr ⟨(v_or _ hv01).1, had.1, by have := had.2; omega⟩ | exact Or.inr ⟨((v_or _ hv01).2.2 h43).1, had.1, by have := had.2; omega⟩) (hE) (h) (hK) (e12) (hL) (hz2) (hE2) (hB2) (hQ) w (lv_sub hl [0, 1, 2, 3] rfl)
  refine W.widen (k := 1 + gC 0) (n := 3 + gL 0) (Nat.le_of_ble_eq_true rfl) (Nat.le_of_ble_eq_true rfl) ?_
  exact L12 _ 0 0 0 0 (sR (sI (sNew S 17 12 q1) 272 12 0) 273 12 (some (eaOf s0))) _ _ _ (Nat.lt_succ_self _) (Nat.zero_le _) (Nat.zero_le _) (Nat.zero_le _) (Nat.zero_le _) (Or.inl ⟨rfl, rfl, rfl⟩) (hE) (h) (hK) (rfl) (hL) (hz2) (hE2) (hB2) (hQ) w (lv_sub hl [0, 1, 2, 3] rfl)

