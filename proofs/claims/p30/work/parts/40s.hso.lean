theorem RC.sole {S A : HS} {ns nj nt x k : Nat} (h : RC S A ns nj nt) (hx : x < 24) (hk : k < 3) (hne : ¬ mA A 37 x k = -1) : cElse S (nI x) (nI k) (mA A 37 x k) 3 = false := by
  obtain ⟨-, -, h3, -, -, h6⟩ := h
  have u : ∀ i, i < 3 → cSlot S 1 (nI x) (nI i) = mA A 37 x i := fun i hi => by rw [cSlot_nI hx hi]; exact (h3 x i hx hi).2
  have n : ∀ i, i < 3 → (decide (¬ nI i = nI k) && decide (mA A 37 x i = mA A 37 x k)) = false := fun i hi => by
    by_cases e : i = k
    · have q : decide (¬ nI i = nI k) = false := decide_eq_false (fun z => z (by rw [e]))
      rw [q, Bool.false_and]
    · have q : decide (mA A 37 x i = mA A 37 x k) = false := decide_eq_false (fun z => hne (z.symm.trans (h6 x i k hx hi hk e z)))
      rw [q, Bool.and_false]
  show (((false || (decide (¬ nI 0 = nI k) && decide (cSlot S 1 (nI x) (nI 0) = mA A 37 x k))) || (decide (¬ nI 1 = nI k) && decide (cSlot S 1 (nI x) (nI 1) = mA A 37 x k))) || (decide (¬ nI 2 = nI k) && decide (cSlot S 1 (nI x) (nI 2) = mA A 37 x k))) = false
  rw [u 0 (by decide), u 1 (by decide), u 2 (by decide), n 0 (by decide), n 1 (by decide), n 2 (by decide)]; rfl
theorem sIn_16 : ∀ b, b < 16 → (∀ r, r < 4 → sIn (nI b) (nI r) = false) → b = 0 := by decide +kernel
theorem no_108 {S A : HS} {nr nt j : Nat} (f : RCf S A nr j) (q : AQ7 A nt nr) (hj : j < nt) (h1 : ¬ mI A 247 j = 1) : mI S 108 j = 0 := by
  obtain ⟨-, -, -, -, -, -, -, -, -, -, -, -, d12, d13, b, hb, eb⟩ := f
  have z := sIn_16 b hb (fun r hr => by
    rw [← eb]
    by_cases c : r < nr
    · have y := d12 r c
      rw [q j hj h1 r c] at y
      cases g : sIn (mI S 108 j) (nI r) with
      | false => rfl
      | true =>
        rw [g, if_pos rfl] at y
        split at y <;> exact absurd y (by decide)
    · exact d13 r (by omega) hr)
  rw [eb, z]; rfl
theorem i32_lc (a b c : Int32) : a + (b + c) = b + (a + c) := by rw [← Int32.add_assoc, Int32.add_comm a b, Int32.add_assoc]
/-- each report stands as one of five -/
def STR (A : HS) (nt : Nat) : Prop := ∀ j, j < nt → mI A 247 j = -1 ∨ ∃ g, g < 5 ∧ mI A 247 j = nI g
def sS (A : HS) (nt : Nat) : Nat → Int32
  | 0 => 0
  | k + 1 => sS A nt k + rCnt (fun j => decide (mI A 247 j = nI k)) nt
theorem sS_n {A : HS} : ∀ n, STR A n → sS A n 5 = rCnt (fun k => decide (¬ mI A 247 k = -1)) n
  | 0, _ => by
    show (((((0 : Int32) + 0) + 0) + 0) + 0) + 0 = 0
    decide
  | n + 1, h => by
    have ih := sS_n n (fun j hj => h j (Nat.lt_succ_of_lt hj))
    have e5 : ∀ m, sS A m 5 = ((((0 + rCnt (fun j => decide (mI A 247 j = nI 0)) m) + rCnt (fun j => decide (mI A 247 j = nI 1)) m) + rCnt (fun j => decide (mI A 247 j = nI 2)) m) + rCnt (fun j => decide (mI A 247 j = nI 3)) m) + rCnt (fun j => decide (mI A 247 j = nI 4)) m := fun m => rfl
    rw [e5] at ih ⊢
    have s1 : ∀ p : Nat → Bool, rCnt p (n + 1) = rCnt p n + (if p n = true then 1 else 0) := fun p => rfl
    rw [s1, s1, s1, s1, s1, s1, ← ih]
    generalize rCnt (fun j => decide (mI A 247 j = nI 0)) n = a0
    generalize rCnt (fun j => decide (mI A 247 j = nI 1)) n = a1
    generalize rCnt (fun j => decide (mI A 247 j = nI 2)) n = a2
    generalize rCnt (fun j => decide (mI A 247 j = nI 3)) n = a3
    generalize rCnt (fun j => decide (mI A 247 j = nI 4)) n = a4
    rcases h n (Nat.lt_succ_self n) with e | ⟨g, hg, e⟩
    · rw [e, if_neg (by decide), if_neg (by decide), if_neg (by decide), if_neg (by decide), if_neg (by decide), if_neg (by decide)]; simp
    · rw [e]
      have hg5 : g = 0 ∨ g = 1 ∨ g = 2 ∨ g = 3 ∨ g = 4 := by omega
      rcases hg5 with rfl | rfl | rfl | rfl | rfl
      · rw [if_pos (by decide), if_neg (by decide), if_neg (by decide), if_neg (by decide), if_neg (by decide), if_pos (by decide)]; simp only [Int32.add_zero, Int32.zero_add, Int32.add_assoc, Int32.add_comm, i32_lc]
      · rw [if_neg (by decide), if_pos (by decide), if_neg (by decide), if_neg (by decide), if_neg (by decide), if_pos (by decide)]; simp only [Int32.add_zero, Int32.zero_add, Int32.add_assoc, Int32.add_comm, i32_lc]
      · rw [if_neg (by decide), if_neg (by decide), if_pos (by decide), if_neg (by decide), if_neg (by decide), if_pos (by decide)]; simp only [Int32.add_zero, Int32.zero_add, Int32.add_assoc, Int32.add_comm, i32_lc]
      · rw [if_neg (by decide), if_neg (by decide), if_neg (by decide), if_pos (by decide), if_neg (by decide), if_pos (by decide)]; simp only [Int32.add_zero, Int32.zero_add, Int32.add_assoc, Int32.add_comm, i32_lc]
      · rw [if_neg (by decide), if_neg (by decide), if_neg (by decide), if_neg (by decide), if_pos (by decide), if_pos (by decide)]; simp only [Int32.add_zero, Int32.zero_add, Int32.add_assoc, Int32.add_comm, i32_lc]
theorem so_600 {A : HS} (h : AQ9 A) : sOut (mI A 258 0) 0 600 = false := by
  obtain ⟨w, hw, e⟩ := h
  rw [e]
  unfold sOut
  rw [decide_eq_false (nI_pos (n := w) (by omega)), decide_eq_false (fun z => by have := (nI_ltI (a := 600) (b := w) (by decide) (by omega)).mp z; omega)]; rfl

abbrev rm_a_X7_isShiftSound : Room := { frames := 4, cells := 0, slots := 0, locals := 89 }
set_option maxHeartbeats 4000000 in
set_option maxRecDepth 100000 in
theorem a_X7_isShiftSound {s0 : State} {l : Launch} {D : va_G} {cy : Nat → ClassId} (G : Gl s0 l D cy) (S : HS) (ea ns nj nm nt nr nc : Nat) (h : CI ea S ns nj nm nt nr nc) (A : HS) (hA : RK S A ns nj nm nt nr nc)  : Ctr s0 l D cy yX7_isShiftSound cX7_isShiftSound 4 (some .boolean) rm_a_X7_isShiftSound S [.ref (gG S 7 0)] (PU S (some (.int (b2i true)))) := by
  refine pro "CavershamShift$Room" G rfl rfl (Nat.le_of_ble_eq_true rfl) (fun p e s m below meth c ls X w hnm hl => ?_)
  have hx := X.1
  have hb := X.2.1
  have hown := X.2.2.2.1
  have hts := X.2.2.2.2.1
  have hl : lv_has ls 4 [(0, .ref (gG S 7 0))] := hl
  refine lv_iconst (v := 0) hx hb dX7_isShiftSound_0 (by decide) ?_
  refine lv_istore_n (lv' := [(1, .int 0), (0, .ref (gG S 7 0))]) hx hb dX7_isShiftSound_1 rfl hl (by decide) rfl (fun ls hl => ?_)
  have L2 : ∀ (N : Nat) (ka : Nat) (H : Heap) (locs : List Loc) (ls : Array Slot), 24 - ka < N → (ka ≤ 24) → Wd s0 D cy S s.heap H locs → lv_has ls 4 [(0, .ref (gG S 7 0)), (1, .int (nI ka))] → W p l e rm_a_X7_isShiftSound s m ([.ref (gG S 7 0)] : List Value).toArray below meth c H locs 0 0 (MQ below (GQ s0 D cy (PU S (some (.int (b2i true))))) ([.ref (gG S 7 0)] : List Value).toArray s rm_a_X7_isShiftSound.cells rm_a_X7_isShiftSound.slots (A0 s0)) (F0 m 2 ls []) := by
    intro N
    induction N with
    | zero => intros; omega
    | succ N ih2 =>
      intro ka H locs ls hmu hk_ka w hl
      refine lv_iload_n hx hb dX7_isShiftSound_2 rfl (lv_at hl 1 rfl) ?_
      refine lv_bipush (v := 24) hx hb dX7_isShiftSound_3 (by decide) ?_
      refine lv_icmp_ge (tgt := 51) hx hb dX7_isShiftSound_5 (by decide) (fun hz_ka => ?_) (fun hz_ka => ?_)
      · have hge_ka : 24 ≤ ka := (nI_leI (a := 24) (b := ka) (by decide) (by omega)).mp hz_ka
        refine lv_iconst (v := 1) hx hb dX7_isShiftSound_51 (by decide) ?_
        exact rZ X w rfl dX7_isShiftSound_52 (by decide) (by decide) (by decide) (pu_i rfl)
      · have hlt_ka : ka < 24 := Nat.lt_of_not_le (fun z => hz_ka ((nI_leI (a := 24) (b := ka) (by decide) (by omega)).mpr z))
        refine lv_iconst (v := 0) hx hb dX7_isShiftSound_8 (by decide) ?_
        refine lv_istore_n (lv' := [(2, .int 0), (0, .ref (gG S 7 0)), (1, .int (nI ka))]) hx hb dX7_isShiftSound_9 rfl hl (by decide) rfl (fun ls hl => ?_)
        have L10 : ∀ (N : Nat) (kb : Nat) (H : Heap) (locs : List Loc) (ls : Array Slot), 3 - kb < N → (kb ≤ 3) → Wd s0 D cy S s.heap H locs → lv_has ls 4 [(0, .ref (gG S 7 0)), (1, .int (nI ka)), (2, .int (nI kb))] → W p l e rm_a_X7_isShiftSound s m ([.ref (gG S 7 0)] : List Value).toArray below meth c H locs 0 0 (MQ below (GQ s0 D cy (PU S (some (.int (b2i true))))) ([.ref (gG S 7 0)] : List Value).toArray s rm_a_X7_isShiftSound.cells rm_a_X7_isShiftSound.slots (A0 s0)) (F0 m 10 ls []) := by
          intro N
          induction N with
          | zero => intros; omega
          | succ N ih10 =>
            intro kb H locs ls hmu hk_kb w hl
            refine lv_iload_n hx hb dX7_isShiftSound_10 rfl (lv_at hl 2 rfl) ?_
            refine lv_iconst (v := 3) hx hb dX7_isShiftSound_11 (by decide) ?_
            refine lv_icmp_ge (tgt := 45) hx hb dX7_isShiftSound_12 (by decide) (fun hz_kb => ?_) (fun hz_kb => ?_)
            · have hge_kb : 3 ≤ kb := (nI_leI (a := 3) (b := kb) (by decide) (by omega)).mp hz_kb
              refine lv_iinc (v := nI (ka + 1)) (lv' := [(1, .int (nI (ka + 1))), (0, .ref (gG S 7 0)), (2, .int (nI kb))]) hx hb dX7_isShiftSound_45 hl (k := 1) rfl (nI_1 _) (by decide) rfl (fun ls hl => ?_)
              refine lv_goto (tgt := 2) hx hb dX7_isShiftSound_48 (by decide) ?_
              exact ih2 (ka + 1) _ _ _ (by omega) (by omega) w (lv_sub hl [1, 0] rfl)
            · have hlt_kb : kb < 3 := Nat.lt_of_not_le (fun z => hz_kb ((nI_leI (a := 3) (b := kb) (by decide) (by omega)).mpr z))
              refine lv_aload_n hx hb dX7_isShiftSound_15 rfl (lv_at hl 0 rfl) ?_
              refine lv_iload_n hx hb dX7_isShiftSound_16 rfl (lv_at hl 1 rfl) ?_
              refine lv_iload_n hx hb dX7_isShiftSound_17 rfl (lv_at hl 2 rfl) ?_
              refine cV (S := S) (nA := 2) (As := [.int (nI ka), .int (nI kb)]) (rest := []) X w hl h.v7 (a_X7_monitorIn G S ea ns nj nm nt nr nc h A hA ka kb hlt_ka hlt_kb) wY_X7_monitorIn wM_X7_53 wIn_X7_monitorIn wSe_X7_X7_monitorIn wI_X7 (by decide) rfl (by decide +kernel) rfl rfl dX7_isShiftSound_18 ⟨by decide, by decide⟩ (Nat.le_of_ble_eq_true rfl) (⟨Nat.le_of_ble_eq_true rfl, Nat.le_of_ble_eq_true rfl⟩) (fun v1 S1 H locs hp w => ?_)
              obtain ⟨rfl, rfl⟩ := hp
              refine lv_istore_n (lv' := [(3, .int (mA A 37 ka kb)), (0, .ref (gG S 7 0)), (1, .int (nI ka)), (2, .int (nI kb))]) hx hb dX7_isShiftSound_21 rfl hl (by decide) rfl (fun ls hl => ?_)
              refine lv_iload_n hx hb dX7_isShiftSound_22 rfl (lv_at hl 0 rfl) ?_
              refine lv_iconst (v := (-1)) hx hb dX7_isShiftSound_23 (by decide) ?_
              refine lv_icmp_eq (tgt := 39) hx hb dX7_isShiftSound_24 (by decide) (fun hne => ?_) (fun hne => ?_)
              · refine lv_iinc (v := nI (kb + 1)) (lv' := [(2, .int (nI (kb + 1))), (3, .int (mA A 37 ka kb)), (0, .ref (gG S 7 0)), (1, .int (nI ka))]) hx hb dX7_isShiftSound_39 hl (k := 3) rfl (nI_1 _) (by decide) rfl (fun ls hl => ?_)
                refine lv_goto (tgt := 10) hx hb dX7_isShiftSound_42 (by decide) ?_
                exact ih10 (kb + 1) _ _ _ (by omega) (by omega) w (lv_sub hl [2, 3, 0] rfl)
              · refine lv_aload_n hx hb dX7_isShiftSound_27 rfl (lv_at hl 1 rfl) ?_
                refine lv_iload_n hx hb dX7_isShiftSound_28 rfl (lv_at hl 2 rfl) ?_
                refine lv_iload_n hx hb dX7_isShiftSound_29 rfl (lv_at hl 3 rfl) ?_
                refine lv_iload_n hx hb dX7_isShiftSound_30 rfl (lv_at hl 0 rfl) ?_
                refine cV (S := S) (nA := 3) (As := [.int (nI ka), .int (nI kb), .int (mA A 37 ka kb)]) (rest := []) X w hl h.v7 (m_X7_sitsElsewhere G S ea ns nj nm nt nr nc h (nI ka) (nI kb) (mA A 37 ka kb)) wY_X7_sitsElsewhere wM_X7_108 wIn_X7_sitsElsewhere wSe_X7_X7_sitsElsewhere wI_X7 (by decide) rfl (by decide +kernel) rfl rfl dX7_isShiftSound_31 ⟨by decide, by decide⟩ (Nat.le_of_ble_eq_true rfl) (⟨Nat.le_of_ble_eq_true rfl, Nat.le_of_ble_eq_true rfl⟩) (fun v2 S1 H locs hp w => ?_)
                obtain ⟨rfl, rfl⟩ := hp
                refine lv_if_eq (tgt := 39) hx hb dX7_isShiftSound_34 (by decide) (fun hse => ?_) (fun hse => ?_)
                · refine lv_iinc (v := nI (kb + 1)) (lv' := [(2, .int (nI (kb + 1))), (3, .int (mA A 37 ka kb)), (0, .ref (gG S 7 0)), (1, .int (nI ka))]) hx hb dX7_isShiftSound_39 hl (k := 3) rfl (nI_1 _) (by decide) rfl (fun ls hl => ?_)
                  refine lv_goto (tgt := 10) hx hb dX7_isShiftSound_42 (by decide) ?_
                  exact ih10 (kb + 1) _ _ _ (by omega) (by omega) w (lv_sub hl [2, 3, 0] rfl)
                · exact absurd (hA.rc.sole hlt_ka hlt_kb hne) (by rw [b2i_t hse]; decide)
        exact L10 _ 0 _ _ _ (Nat.lt_succ_self _) (by omega) w (lv_sub hl [1, 2, 0] rfl)
  exact L2 _ 0 _ _ _ (Nat.lt_succ_self _) (by omega) w (lv_sub hl [1, 0] rfl)

abbrev rm_a_X4_areReportsSound : Room := { frames := 3, cells := 0, slots := 0, locals := 64 }
set_option maxHeartbeats 4000000 in
set_option maxRecDepth 100000 in
theorem a_X4_areReportsSound {s0 : State} {l : Launch} {D : va_G} {cy : Nat → ClassId} (G : Gl s0 l D cy) (S : HS) (ea ns nj nm nt nr nc : Nat) (h : CI ea S ns nj nm nt nr nc) (A : HS) (hA : RK S A ns nj nm nt nr nc)  : Ctr s0 l D cy yX4_areReportsSound cX4_areReportsSound 6 (some .boolean) rm_a_X4_areReportsSound S [.ref (gG S 4 0)] (PU S (some (.int (b2i true)))) := by
  refine pro "CavershamShift$Newsroom" G rfl rfl (Nat.le_of_ble_eq_true rfl) (fun p e s m below meth c ls X w hnm hl => ?_)
  have hx := X.1
  have hb := X.2.1
  have hown := X.2.2.2.1
  have hts := X.2.2.2.2.1
  have hl : lv_has ls 6 [(0, .ref (gG S 4 0))] := hl
  refine lv_iconst (v := 0) hx hb dX4_areReportsSound_0 (by decide) ?_
  refine lv_istore_n (lv' := [(1, .int 0), (0, .ref (gG S 4 0))]) hx hb dX4_areReportsSound_1 rfl hl (by decide) rfl (fun ls hl => ?_)
  have L2 : ∀ (N : Nat) (k : Nat) (H : Heap) (locs : List Loc) (ls : Array Slot), nt - k < N → (k ≤ nt) → Wd s0 D cy S s.heap H locs → lv_has ls 6 [(0, .ref (gG S 4 0)), (1, .int (nI k))] → W p l e rm_a_X4_areReportsSound s m ([.ref (gG S 4 0)] : List Value).toArray below meth c H locs 0 0 (MQ below (GQ s0 D cy (PU S (some (.int (b2i true))))) ([.ref (gG S 4 0)] : List Value).toArray s rm_a_X4_areReportsSound.cells rm_a_X4_areReportsSound.slots (A0 s0)) (F0 m 2 ls []) := by
    intro N
    induction N with
    | zero => intros; omega
    | succ N ih2 =>
      intro k H locs ls hmu hk w hl
      refine lv_iload_n hx hb dX4_areReportsSound_2 rfl (lv_at hl 1 rfl) ?_
      refine lv_aload_n hx hb dX4_areReportsSound_3 rfl (lv_at hl 0 rfl) ?_
      refine g_4_0 (S := S) (x := (some (gG S 17 3))) X w h.v4 wF_X4_12 (h.f64) dX4_areReportsSound_4 ?_
      refine cV (S := S) (nA := 0) (As := []) (rest := [.int (nI k)]) X w hl h.l_ta.1 (m_size G S ea 3 nt h.l_ta) wY_Jx4a65c_size_8abf5 wM_X4_28 wIn_Jx4a65c_size_8abf5 wSe_Jx4a65c_Jx4a65c_size_8abf5 wI_Jx4a65c (by decide) rfl (by decide +kernel) rfl rfl dX4_areReportsSound_7 ⟨by decide, by decide⟩ (Nat.le_of_ble_eq_true rfl) (⟨Nat.le_of_ble_eq_true rfl, Nat.le_of_ble_eq_true rfl⟩) (fun v1 S1 H locs hp w => ?_)
      obtain ⟨rfl, rfl⟩ := hp
      refine lv_icmp_ge (tgt := 95) hx hb dX4_areReportsSound_10 (by decide) (fun hsz => ?_) (fun hsz => ?_)
      · have hge : nt ≤ k := by
          have hb1 := h.b_ta
          exact (nI_leI (by omega) (by omega)).mp hsz
        refine lv_iconst (v := 1) hx hb dX4_areReportsSound_95 (by decide) ?_
        exact rZ X w rfl dX4_areReportsSound_96 (by decide) (by decide) (by decide) (pu_i rfl)
      · have hlt : k < nt := by
          have hb1 := h.b_ta
          exact Nat.lt_of_not_le (fun z => hsz ((nI_leI (by omega) (by omega)).mpr z))
        refine lv_aload_n hx hb dX4_areReportsSound_13 rfl (lv_at hl 0 rfl) ?_
        refine g_4_0 (S := S) (x := (some (gG S 17 3))) X w h.v4 wF_X4_12 (h.f64) dX4_areReportsSound_14 ?_
        refine lv_iload_n hx hb dX4_areReportsSound_17 rfl (lv_at hl 1 rfl) ?_
        refine cV (S := S) (nA := 1) (As := [.int (nI k)]) (rest := []) X w hl h.l_ta.1 (m_get G S ea 3 k nt (some (gG S 9 k)) h.l_ta hlt (h.e_ta k hlt).1) wY_Jx4a65c_get_915e3 wM_X4_36 wIn_Jx4a65c_get_915e3 wSe_Jx4a65c_Jx4a65c_get_915e3 wI_Jx4a65c (by decide) rfl (by decide +kernel) rfl rfl dX4_areReportsSound_18 ⟨by decide, by decide⟩ (Nat.le_of_ble_eq_true rfl) (⟨Nat.le_of_ble_eq_true rfl, Nat.le_of_ble_eq_true rfl⟩) (fun v2 S1 H locs hp w => ?_)
        obtain ⟨rfl, rfl⟩ := hp
        refine ckC (S := S) (t := 9) X w (h.e_ta k hlt).2 (by decide) rfl wC_X4_40 dX4_areReportsSound_21 ?_
        refine lv_astore_n (lv' := [(2, .ref (gG S 9 k)), (0, .ref (gG S 4 0)), (1, .int (nI k))]) hx hb dX4_areReportsSound_24 rfl hl (by decide) rfl (fun ls hl => ?_)
        refine lv_aload_n hx hb dX4_areReportsSound_25 rfl (lv_at hl 0 rfl) ?_
        rcases hA.rp k hlt with ⟨her3, hur3, hzr3, hwr3, hsr3⟩ | ⟨her3, hvr3, hur3, hwr3⟩
        · refine g_9_8 (S := S) (x := none) X w (h.e_ta k hlt).2 wF_X4_71 (her3) dX4_areReportsSound_26 ?_
          refine lv_astore_nN (lv' := [(3, .null), (2, .ref (gG S 9 k)), (0, .ref (gG S 4 0)), (1, .int (nI k))]) hx hb dX4_areReportsSound_29 rfl hl (by decide) rfl (fun ls hl => ?_)
          refine lv_aload_nN hx hb dX4_areReportsSound_30 rfl (lv_at hl 0 rfl) ?_
          refine lv_ifnullN (tgt := 89) hx hb dX4_areReportsSound_31 (by decide) ?_
          refine lv_iinc (v := nI (k + 1)) (lv' := [(1, .int (nI (k + 1))), (3, .null), (2, .ref (gG S 9 k)), (0, .ref (gG S 4 0))]) hx hb dX4_areReportsSound_89 hl (k := 3) rfl (nI_1 _) (by decide) rfl (fun ls hl => ?_)
          refine lv_goto (tgt := 2) hx hb dX4_areReportsSound_92 (by decide) ?_
          exact ih2 (k + 1) _ _ _ (by omega) (by omega) w (lv_sub hl [3, 0] rfl)
        · refine g_9_8 (S := S) (x := (some (gG S 6 k))) X w (h.e_ta k hlt).2 wF_X4_71 (her3) dX4_areReportsSound_26 ?_
          refine lv_astore_n (lv' := [(3, .ref (gG S 6 k)), (2, .ref (gG S 9 k)), (0, .ref (gG S 4 0)), (1, .int (nI k))]) hx hb dX4_areReportsSound_29 rfl hl (by decide) rfl (fun ls hl => ?_)
          refine lv_aload_n hx hb dX4_areReportsSound_30 rfl (lv_at hl 0 rfl) ?_
          refine lv_ifnull hx hb dX4_areReportsSound_31 ?_
          refine lv_aload_n hx hb dX4_areReportsSound_34 rfl (lv_at hl 0 rfl) ?_
          refine g_6_12 (S := S) (x := (mI S 108 k)) X w hvr3 wF_X4_116 (rfl) dX4_areReportsSound_35 ?_
          refine lv_if_eq (tgt := 53) hx hb dX4_areReportsSound_38 (by decide) (fun hrd => ?_) (fun hrd => ?_)
          · refine lv_iconst (v := 0) hx hb dX4_areReportsSound_53 (by decide) ?_
            refine lv_istore (lv' := [(4, .int 0), (3, .ref (gG S 6 k)), (2, .ref (gG S 9 k)), (0, .ref (gG S 4 0)), (1, .int (nI k))]) hx hb dX4_areReportsSound_54 hl (by decide) rfl (fun ls hl => ?_)
            refine lv_aload_n hx hb dX4_areReportsSound_56 rfl (lv_at hl 1 rfl) ?_
            refine g_6_11 (S := S) (x := (mI A 253 k)) X w hvr3 wF_X4_131 ((hwr3).2.2.2.2.2.2.2.2.2.2.2.1) dX4_areReportsSound_57 ?_
            refine lv_if_eq (tgt := 74) hx hb dX4_areReportsSound_60 (by decide) (fun hco => ?_) (fun hco => ?_)
            · refine lv_iconst (v := 0) hx hb dX4_areReportsSound_74 (by decide) ?_
              refine lv_istore (lv' := [(5, .int 0), (4, .int 0), (3, .ref (gG S 6 k)), (2, .ref (gG S 9 k)), (0, .ref (gG S 4 0)), (1, .int (nI k))]) hx hb dX4_areReportsSound_75 hl (by decide) rfl (fun ls hl => ?_)
              refine lv_iload hx hb dX4_areReportsSound_77 (lv_at hl 1 rfl) ?_
              refine lv_if_ne (tgt := 87) hx hb dX4_areReportsSound_79 (by decide) (fun hc4 => ?_) (fun hc4 => ?_)
              · exact absurd hc4 (by decide)
              · refine lv_iload hx hb dX4_areReportsSound_82 (lv_at hl 0 rfl) ?_
                refine lv_if_eq (tgt := 89) hx hb dX4_areReportsSound_84 (by decide) (fun hc5 => ?_) (fun hc5 => ?_)
                · refine lv_iinc (v := nI (k + 1)) (lv' := [(1, .int (nI (k + 1))), (5, .int 0), (4, .int 0), (3, .ref (gG S 6 k)), (2, .ref (gG S 9 k)), (0, .ref (gG S 4 0))]) hx hb dX4_areReportsSound_89 hl (k := 5) rfl (nI_1 _) (by decide) rfl (fun ls hl => ?_)
                  refine lv_goto (tgt := 2) hx hb dX4_areReportsSound_92 (by decide) ?_
                  exact ih2 (k + 1) _ _ _ (by omega) (by omega) w (lv_sub hl [5, 0] rfl)
                · exact absurd hc5 (by decide)
            · refine lv_aload_n hx hb dX4_areReportsSound_63 rfl (lv_at hl 2 rfl) ?_
              refine cV (S := S) (nA := 0) (As := []) (rest := []) X w hl (h.e_ta k hlt).2 (a_X9_isInError G S ea ns nj nm nt nr nc h A hA k hlt) wY_X9_isInError wM_X4_134 wIn_X9_isInError wSe_X9_X9_isInError wI_X9 (by decide) rfl (by decide +kernel) rfl rfl dX4_areReportsSound_64 ⟨by decide, by decide⟩ (Nat.le_of_ble_eq_true rfl) (⟨Nat.le_of_ble_eq_true rfl, Nat.le_of_ble_eq_true rfl⟩) (fun v6 S1 H locs hp w => ?_)
              obtain ⟨rfl, rfl⟩ := hp
              refine lv_if_ne (tgt := 74) hx hb dX4_areReportsSound_67 (by decide) (fun hie => ?_) (fun hie => ?_)
              · refine lv_iconst (v := 0) hx hb dX4_areReportsSound_74 (by decide) ?_
                refine lv_istore (lv' := [(5, .int 0), (4, .int 0), (3, .ref (gG S 6 k)), (2, .ref (gG S 9 k)), (0, .ref (gG S 4 0)), (1, .int (nI k))]) hx hb dX4_areReportsSound_75 hl (by decide) rfl (fun ls hl => ?_)
                refine lv_iload hx hb dX4_areReportsSound_77 (lv_at hl 1 rfl) ?_
                refine lv_if_ne (tgt := 87) hx hb dX4_areReportsSound_79 (by decide) (fun hc7 => ?_) (fun hc7 => ?_)
                · exact absurd hc7 (by decide)
                · refine lv_iload hx hb dX4_areReportsSound_82 (lv_at hl 0 rfl) ?_
                  refine lv_if_eq (tgt := 89) hx hb dX4_areReportsSound_84 (by decide) (fun hc8 => ?_) (fun hc8 => ?_)
                  · refine lv_iinc (v := nI (k + 1)) (lv' := [(1, .int (nI (k + 1))), (5, .int 0), (4, .int 0), (3, .ref (gG S 6 k)), (2, .ref (gG S 9 k)), (0, .ref (gG S 4 0))]) hx hb dX4_areReportsSound_89 hl (k := 5) rfl (nI_1 _) (by decide) rfl (fun ls hl => ?_)
                    refine lv_goto (tgt := 2) hx hb dX4_areReportsSound_92 (by decide) ?_
                    exact ih2 (k + 1) _ _ _ (by omega) (by omega) w (lv_sub hl [5, 0] rfl)
                  · exact absurd hc8 (by decide)
              · exact absurd (hA.q8 k hlt hco) (by rw [b2i_f hie]; decide)
          · refine lv_aload_n hx hb dX4_areReportsSound_41 rfl (lv_at hl 0 rfl) ?_
            refine g_6_8 (S := S) (x := (mI A 247 k)) X w hvr3 wF_X4_56 ((hwr3).2.2.2.2.2.2.2.2.1) dX4_areReportsSound_42 ?_
            refine lv_iconst (v := 1) hx hb dX4_areReportsSound_45 (by decide) ?_
            refine lv_icmp_eq (tgt := 53) hx hb dX4_areReportsSound_46 (by decide) (fun hst => ?_) (fun hst => ?_)
            · refine lv_iconst (v := 0) hx hb dX4_areReportsSound_53 (by decide) ?_
              refine lv_istore (lv' := [(4, .int 0), (3, .ref (gG S 6 k)), (2, .ref (gG S 9 k)), (0, .ref (gG S 4 0)), (1, .int (nI k))]) hx hb dX4_areReportsSound_54 hl (by decide) rfl (fun ls hl => ?_)
              refine lv_aload_n hx hb dX4_areReportsSound_56 rfl (lv_at hl 1 rfl) ?_
              refine g_6_11 (S := S) (x := (mI A 253 k)) X w hvr3 wF_X4_131 ((hwr3).2.2.2.2.2.2.2.2.2.2.2.1) dX4_areReportsSound_57 ?_
              refine lv_if_eq (tgt := 74) hx hb dX4_areReportsSound_60 (by decide) (fun hco => ?_) (fun hco => ?_)
              · refine lv_iconst (v := 0) hx hb dX4_areReportsSound_74 (by decide) ?_
                refine lv_istore (lv' := [(5, .int 0), (4, .int 0), (3, .ref (gG S 6 k)), (2, .ref (gG S 9 k)), (0, .ref (gG S 4 0)), (1, .int (nI k))]) hx hb dX4_areReportsSound_75 hl (by decide) rfl (fun ls hl => ?_)
                refine lv_iload hx hb dX4_areReportsSound_77 (lv_at hl 1 rfl) ?_
                refine lv_if_ne (tgt := 87) hx hb dX4_areReportsSound_79 (by decide) (fun hc9 => ?_) (fun hc9 => ?_)
                · exact absurd hc9 (by decide)
                · refine lv_iload hx hb dX4_areReportsSound_82 (lv_at hl 0 rfl) ?_
                  refine lv_if_eq (tgt := 89) hx hb dX4_areReportsSound_84 (by decide) (fun hc10 => ?_) (fun hc10 => ?_)
                  · refine lv_iinc (v := nI (k + 1)) (lv' := [(1, .int (nI (k + 1))), (5, .int 0), (4, .int 0), (3, .ref (gG S 6 k)), (2, .ref (gG S 9 k)), (0, .ref (gG S 4 0))]) hx hb dX4_areReportsSound_89 hl (k := 5) rfl (nI_1 _) (by decide) rfl (fun ls hl => ?_)
                    refine lv_goto (tgt := 2) hx hb dX4_areReportsSound_92 (by decide) ?_
                    exact ih2 (k + 1) _ _ _ (by omega) (by omega) w (lv_sub hl [5, 0] rfl)
                  · exact absurd hc10 (by decide)
              · refine lv_aload_n hx hb dX4_areReportsSound_63 rfl (lv_at hl 2 rfl) ?_
                refine cV (S := S) (nA := 0) (As := []) (rest := []) X w hl (h.e_ta k hlt).2 (a_X9_isInError G S ea ns nj nm nt nr nc h A hA k hlt) wY_X9_isInError wM_X4_134 wIn_X9_isInError wSe_X9_X9_isInError wI_X9 (by decide) rfl (by decide +kernel) rfl rfl dX4_areReportsSound_64 ⟨by decide, by decide⟩ (Nat.le_of_ble_eq_true rfl) (⟨Nat.le_of_ble_eq_true rfl, Nat.le_of_ble_eq_true rfl⟩) (fun v11 S1 H locs hp w => ?_)
                obtain ⟨rfl, rfl⟩ := hp
                refine lv_if_ne (tgt := 74) hx hb dX4_areReportsSound_67 (by decide) (fun hie => ?_) (fun hie => ?_)
                · refine lv_iconst (v := 0) hx hb dX4_areReportsSound_74 (by decide) ?_
                  refine lv_istore (lv' := [(5, .int 0), (4, .int 0), (3, .ref (gG S 6 k)), (2, .ref (gG S 9 k)), (0, .ref (gG S 4 0)), (1, .int (nI k))]) hx hb dX4_areReportsSound_75 hl (by decide) rfl (fun ls hl => ?_)
                  refine lv_iload hx hb dX4_areReportsSound_77 (lv_at hl 1 rfl) ?_
                  refine lv_if_ne (tgt := 87) hx hb dX4_areReportsSound_79 (by decide) (fun hc12 => ?_) (fun hc12 => ?_)
                  · exact absurd hc12 (by decide)
                  · refine lv_iload hx hb dX4_areReportsSound_82 (lv_at hl 0 rfl) ?_
                    refine lv_if_eq (tgt := 89) hx hb dX4_areReportsSound_84 (by decide) (fun hc13 => ?_) (fun hc13 => ?_)
                    · refine lv_iinc (v := nI (k + 1)) (lv' := [(1, .int (nI (k + 1))), (5, .int 0), (4, .int 0), (3, .ref (gG S 6 k)), (2, .ref (gG S 9 k)), (0, .ref (gG S 4 0))]) hx hb dX4_areReportsSound_89 hl (k := 5) rfl (nI_1 _) (by decide) rfl (fun ls hl => ?_)
                      refine lv_goto (tgt := 2) hx hb dX4_areReportsSound_92 (by decide) ?_
                      exact ih2 (k + 1) _ _ _ (by omega) (by omega) w (lv_sub hl [5, 0] rfl)
                    · exact absurd hc13 (by decide)
                · exact absurd (hA.q8 k hlt hco) (by rw [b2i_f hie]; decide)
            · exact (hrd (no_108 (by assumption) hA.q7 hlt hst)).elim
  exact L2 _ 0 _ _ _ (Nat.lt_succ_self _) (by omega) w (lv_sub hl [1, 0] rfl)

abbrev rm_a_X4_isStateSound : Room := { frames := 4, cells := 0, slots := 0, locals := 89 }
set_option maxHeartbeats 4000000 in
set_option maxRecDepth 100000 in
theorem a_X4_isStateSound {s0 : State} {l : Launch} {D : va_G} {cy : Nat → ClassId} (G : Gl s0 l D cy) (S : HS) (ea ns nj nm nt nr nc : Nat) (h : CI ea S ns nj nm nt nr nc) (A : HS) (hA : RK S A ns nj nm nt nr nc) (hst : STR A nt) : Ctr s0 l D cy yX4_isStateSound cX4_isStateSound 3 (some .boolean) rm_a_X4_isStateSound S [.ref (gG S 4 0)] (PU S (some (.int (b2i true)))) := by
  refine pro "CavershamShift$Newsroom" G rfl rfl (Nat.le_of_ble_eq_true rfl) (fun p e s m below meth c ls X w hnm hl => ?_)
  have hx := X.1
  have hb := X.2.1
  have hown := X.2.2.2.1
  have hts := X.2.2.2.2.1
  have hl : lv_has ls 3 [(0, .ref (gG S 4 0))] := hl
  refine lv_iconst (v := 0) hx hb dX4_isStateSound_0 (by decide) ?_
  refine lv_istore_n (lv' := [(1, .int 0), (0, .ref (gG S 4 0))]) hx hb dX4_isStateSound_1 rfl hl (by decide) rfl (fun ls hl => ?_)
  refine lv_iconst (v := 0) hx hb dX4_isStateSound_2 (by decide) ?_
  refine lv_istore_n (lv' := [(2, .int 0), (1, .int 0), (0, .ref (gG S 4 0))]) hx hb dX4_isStateSound_3 rfl hl (by decide) rfl (fun ls hl => ?_)
  have L4 : ∀ (N : Nat) (k4 : Nat) (y : Int32) (H : Heap) (locs : List Loc) (ls : Array Slot), 5 - k4 < N → (k4 ≤ 5) → (y = sS A nt k4) → Wd s0 D cy S s.heap H locs → lv_has ls 3 [(0, .ref (gG S 4 0)), (1, .int y), (2, .int (nI k4))] → W p l e rm_a_X4_isStateSound s m ([.ref (gG S 4 0)] : List Value).toArray below meth c H locs 0 0 (MQ below (GQ s0 D cy (PU S (some (.int (b2i true))))) ([.ref (gG S 4 0)] : List Value).toArray s rm_a_X4_isStateSound.cells rm_a_X4_isStateSound.slots (A0 s0)) (F0 m 4 ls []) := by
    intro N
    induction N with
    | zero => intros; omega
    | succ N ih4 =>
      intro k4 y H locs ls hmu hk hy w hl
      refine lv_iload_n hx hb dX4_isStateSound_4 rfl (lv_at hl 2 rfl) ?_
      refine lv_iconst (v := 4) hx hb dX4_isStateSound_5 (by decide) ?_
      refine lv_icmp_gt (tgt := 23) hx hb dX4_isStateSound_6 (by decide) (fun hz4 => ?_) (fun hz4 => ?_)
      · have hge : 5 ≤ k4 := by
          have z9 := (nI_ltI (a := 4) (b := k4) (by decide) (by omega)).mp hz4
          omega
        refine lv_iload_n hx hb dX4_isStateSound_23 rfl (lv_at hl 1 rfl) ?_
        refine lv_aload_n hx hb dX4_isStateSound_24 rfl (lv_at hl 0 rfl) ?_
        refine cV (S := S) (nA := 0) (As := []) (rest := [.int y]) X w hl h.v4 (a_X4_countReports G S ea ns nj nm nt nr nc h A hA ) wY_X4_countReports wM_X4_179 wIn_X4_countReports wSe_X4_X4_countReports wI_X4 (by decide) rfl (by decide +kernel) rfl rfl dX4_isStateSound_25 ⟨by decide, by decide⟩ (Nat.le_of_ble_eq_true rfl) (⟨Nat.le_of_ble_eq_true rfl, Nat.le_of_ble_eq_true rfl⟩) (fun v1 S1 H locs hp w => ?_)
        obtain ⟨rfl, rfl⟩ := hp
        refine lv_icmp_ne (tgt := 56) hx hb dX4_isStateSound_28 (by decide) (fun hsu => ?_) (fun hsu => ?_)
        · exact (hsu (by rw [hy, show k4 = 5 by omega]; exact sS_n nt hst)).elim
        · refine lv_aload_n hx hb dX4_isStateSound_31 rfl (lv_at hl 0 rfl) ?_
          refine cV (S := S) (nA := 0) (As := []) (rest := []) X w hl h.v4 (a_X4_areReportsSound G S ea ns nj nm nt nr nc h A hA ) wY_X4_areReportsSound wM_X4_182 wIn_X4_areReportsSound wSe_X4_X4_areReportsSound wI_X4 (by decide) rfl (by decide +kernel) rfl rfl dX4_isStateSound_32 ⟨by decide, by decide⟩ (Nat.le_of_ble_eq_true rfl) (⟨Nat.le_of_ble_eq_true rfl, Nat.le_of_ble_eq_true rfl⟩) (fun v2 S1 H locs hp w => ?_)
          obtain ⟨rfl, rfl⟩ := hp
          refine lv_if_eq (tgt := 56) hx hb dX4_isStateSound_35 (by decide) (fun h35 => ?_) (fun h35 => ?_)
          · exact absurd h35 (by decide)
          · refine lv_aload_n hx hb dX4_isStateSound_38 rfl (lv_at hl 0 rfl) ?_
            refine g_4_5 (S := S) (x := (mI A 258 0)) X w h.v4 wF_X4_24 (hA.wi) dX4_isStateSound_39 ?_
            refine lv_iconst (v := 0) hx hb dX4_isStateSound_42 (by decide) ?_
            refine lv_sipush (v := 600) hx hb dX4_isStateSound_43 (by decide) ?_
            refine cSN (S := S) (nA := 3) (As := [.int (mI A 258 0), .int 0, .int 600]) (rest := []) X w hl (m_X10_isOutside G S (mI A 258 0) 0 600) wY_X10_isOutside wMN_X4_32 wSt_X10_isOutside wI_X10 (by decide +kernel) rfl rfl dX4_isStateSound_46 ⟨by decide, by decide⟩ (Nat.le_of_ble_eq_true rfl) (⟨Nat.le_of_ble_eq_true rfl, Nat.le_of_ble_eq_true rfl⟩) (fun v3 S1 H locs hp w => ?_)
            obtain ⟨rfl, rfl⟩ := hp
            refine lv_if_ne (tgt := 56) hx hb dX4_isStateSound_49 (by decide) (fun hws => ?_) (fun hws => ?_)
            · exact (hws (by rw [so_600 hA.q9]; rfl)).elim
            · refine lv_iconst (v := 1) hx hb dX4_isStateSound_52 (by decide) ?_
              refine lv_goto (tgt := 57) hx hb dX4_isStateSound_53 (by decide) ?_
              exact rZ X w rfl dX4_isStateSound_57 (by decide) (by decide) (by decide) (pu_i rfl)
      · have hlt : k4 < 5 := by
          refine Nat.lt_of_not_le (fun z => hz4 ((nI_ltI (a := 4) (b := k4) (by decide) (by omega)).mpr (by omega)))
        refine lv_iload_n hx hb dX4_isStateSound_9 rfl (lv_at hl 1 rfl) ?_
        refine lv_aload_n hx hb dX4_isStateSound_10 rfl (lv_at hl 0 rfl) ?_
        refine lv_iload_n hx hb dX4_isStateSound_11 rfl (lv_at hl 2 rfl) ?_
        refine cV (S := S) (nA := 1) (As := [.int (nI k4)]) (rest := [.int y]) X w hl h.v4 (a_X4_countThatStand G S ea ns nj nm nt nr nc h A hA (nI k4) (nI_neg1 (by omega))) wY_X4_countThatStand wM_X4_175 wIn_X4_countThatStand wSe_X4_X4_countThatStand wI_X4 (by decide) rfl (by decide +kernel) rfl rfl dX4_isStateSound_12 ⟨by decide, by decide⟩ (Nat.le_of_ble_eq_true rfl) (⟨Nat.le_of_ble_eq_true rfl, Nat.le_of_ble_eq_true rfl⟩) (fun v4 S1 H locs hp w => ?_)
        obtain ⟨rfl, rfl⟩ := hp
        refine lv_iadd hx hb dX4_isStateSound_15 ?_
        refine lv_istore_n (lv' := [(1, .int (y + (rCnt (fun k => decide (mI A 247 k = (nI k4))) nt))), (0, .ref (gG S 4 0)), (2, .int (nI k4))]) hx hb dX4_isStateSound_16 rfl hl (by decide) rfl (fun ls hl => ?_)
        refine lv_iinc (v := nI (k4 + 1)) (lv' := [(2, .int (nI (k4 + 1))), (1, .int (y + (rCnt (fun k => decide (mI A 247 k = (nI k4))) nt))), (0, .ref (gG S 4 0))]) hx hb dX4_isStateSound_17 hl (k := 2) rfl (nI_1 _) (by decide) rfl (fun ls hl => ?_)
        refine lv_goto (tgt := 4) hx hb dX4_isStateSound_20 (by decide) ?_
        exact ih4 (k4 + 1) (y + (rCnt (fun k => decide (mI A 247 k = (nI k4))) nt)) _ _ _ (by omega) (by omega) (by rw [hy]; rfl) w (lv_sub hl [2, 1, 0] rfl)
  exact L4 _ 0 0 _ _ _ (Nat.lt_succ_self _) (by omega) (rfl) w (lv_sub hl [2, 1, 0] rfl)

abbrev rm_a_X10_isSound : Room := { frames := 5, cells := 0, slots := 0, locals := 112 }
set_option maxHeartbeats 4000000 in
set_option maxRecDepth 100000 in
theorem a_X10_isSound {s0 : State} {l : Launch} {D : va_G} {cy : Nat → ClassId} (G : Gl s0 l D cy) (S : HS) (ea ns nj nm nt nr nc : Nat) (h : CI ea S ns nj nm nt nr nc) (A : HS) (hA : RK S A ns nj nm nt nr nc) (hst : STR A nt) : Ctr s0 l D cy yX10_isSound cX10_isSound 1 (some .boolean) rm_a_X10_isSound S [.ref (gG S 10 0)] (PU S (some (.int (b2i true)))) := by
  refine pro "CavershamShift" G rfl rfl (Nat.le_of_ble_eq_true rfl) (fun p e s m below meth c ls X w hnm hl => ?_)
  have hx := X.1
  have hb := X.2.1
  have hown := X.2.2.2.1
  have hts := X.2.2.2.2.1
  have hl : lv_has ls 1 [(0, .ref (gG S 10 0))] := hl
  refine lv_aload_n hx hb dX10_isSound_0 rfl (lv_at hl 0 rfl) ?_
  refine g_10_1 (S := S) (x := (some (gG S 7 0))) X w h.v10 wF_X10_21 (h.f161) dX10_isSound_1 ?_
  refine cV (S := S) (nA := 0) (As := []) (rest := []) X w hl h.v7 (a_X7_isShiftSound G S ea ns nj nm nt nr nc h A hA ) wY_X7_isShiftSound wM_X10_383 wIn_X7_isShiftSound wSe_X7_X7_isShiftSound wI_X7 (by decide) rfl (by decide +kernel) rfl rfl dX10_isSound_4 ⟨by decide, by decide⟩ (Nat.le_of_ble_eq_true rfl) (⟨Nat.le_of_ble_eq_true rfl, Nat.le_of_ble_eq_true rfl⟩) (fun v1 S1 H locs hp w => ?_)
  obtain ⟨rfl, rfl⟩ := hp
  refine lv_if_eq (tgt := 24) hx hb dX10_isSound_7 (by decide) (fun h7 => ?_) (fun h7 => ?_)
  · exact absurd h7 (by decide)
  · refine lv_aload_n hx hb dX10_isSound_10 rfl (lv_at hl 0 rfl) ?_
    refine g_10_2 (S := S) (x := (some (gG S 4 0))) X w h.v10 wF_X10_28 (h.f162) dX10_isSound_11 ?_
    refine cV (S := S) (nA := 0) (As := []) (rest := []) X w hl h.v4 (a_X4_isStateSound G S ea ns nj nm nt nr nc h A hA (hst)) wY_X4_isStateSound wM_X10_387 wIn_X4_isStateSound wSe_X4_X4_isStateSound wI_X4 (by decide) rfl (by decide +kernel) rfl rfl dX10_isSound_14 ⟨by decide, by decide⟩ (Nat.le_of_ble_eq_true rfl) (⟨Nat.le_of_ble_eq_true rfl, Nat.le_of_ble_eq_true rfl⟩) (fun v2 S1 H locs hp w => ?_)
    obtain ⟨rfl, rfl⟩ := hp
    refine lv_if_eq (tgt := 24) hx hb dX10_isSound_17 (by decide) (fun h17 => ?_) (fun h17 => ?_)
    · exact absurd h17 (by decide)
    · refine lv_iconst (v := 1) hx hb dX10_isSound_20 (by decide) ?_
      refine lv_goto (tgt := 25) hx hb dX10_isSound_21 (by decide) ?_
      exact rZ X w rfl dX10_isSound_25 (by decide) (by decide) (by decide) (pu_i rfl)
