/-! what the reference's hour writes on -/
def hvQ (t i : Nat) : Bool := ((t == 17 || t == 30) && i == 11) || t == 35
def hiQ (f i : Nat) : Bool := (Nat.ble 246 f && Nat.ble f 255) || (f / 16 == 12 || (f == 258 || (f == 261 || ((f == 272 || f == 274) && i == 11))))
def hrQ (f i : Nat) : Bool := f == 267 || (f == 273 && i == 11)
theorem q1k {S T : HS} (k : Kq hvQ hiQ hrQ S T) : KeepR S T := k.le (fun t i => ff_of fun e => by
    have z : ((t = 17 ∨ t = 30) ∧ i = 11) ∨ t = 35 := by simpa [hvQ] using e
    rcases z with ⟨rfl | rfl, rfl⟩ | rfl <;> rfl) (fun f i => ff_of fun e => by
    have z : (246 ≤ f ∧ f ≤ 255) ∨ f / 16 = 12 ∨ f = 258 ∨ f = 261 ∨ ((f = 272 ∨ f = 274) ∧ i = 11) := by simpa [hiQ, Nat.ble_eq] using e
    have e1 : (f == 260 || (f == 257 || f == 259)) = false := by
      have h5 : f ≠ 260 := by omega
      have h4 : f ≠ 257 := by omega
      have h3 : f ≠ 259 := by omega
      simp [h5, h4, h3]
    have e2 : refX f = false := refX_f (by omega)
    unfold refI
    rw [e1, e2]
    rcases z with z | z | rfl | rfl | ⟨rfl | rfl, rfl⟩
    · rw [show f / 16 = 15 by omega]; rfl
    · rw [z]; rfl
    · rfl
    · rfl
    · rfl
    · rfl) (fun f i => ff_of fun e => by
    have z : f = 267 ∨ (f = 273 ∧ i = 11) := by simpa [hrQ] using e
    rcases z with rfl | ⟨rfl, rfl⟩ <;> rfl)

theorem dX16_no_0 : decode cX16_no 0 = .ok (.aload_n 0, 1) := by decide +kernel
theorem dX16_no_1 : decode cX16_no 1 = .ok (.iload_n 1, 1) := by decide +kernel
theorem dX16_no_2 : decode cX16_no 2 = .ok (.putfield 43, 3) := by decide +kernel
theorem dX16_no_5 : decode cX16_no 5 = .ok (.iconst 0, 1) := by decide +kernel
theorem dX16_no_6 : decode cX16_no 6 = .ok (.ireturn, 1) := by decide +kernel
abbrev rm_m_X16_no : Room := { frames := 0, cells := 0, slots := 0, locals := 0 }
set_option maxHeartbeats 4000000 in
set_option maxRecDepth 100000 in
theorem m_X16_no {s0 : State} {l : Launch} {D : va_G} {cy : Nat → ClassId} (G : Gl s0 l D cy) (S : HS) (ea ns nj nm nt nr nq : Nat) (h : RI ea S ns nj nm nt nr nq) (k : Int32) : Ctr s0 l D cy yX16_no cX16_no 2 (some .int) rm_m_X16_no S [.ref (gG S 16 0), .int k] (fun v S' => some (.int 0) = v ∧ S' = sI S 256 0 k) := by
  refine pro "CavershamShiftModel" G rfl rfl (Nat.le_of_ble_eq_true rfl) (fun p e s m below meth c ls X w hnm hl => ?_)
  have hx := X.1
  have hb := X.2.1
  have hown := X.2.2.2.1
  have hts := X.2.2.2.2.1
  have hl : lv_has ls 2 [(0, .ref (gG S 16 0)), (1, .int k)] := hl
  have h0 := h
  have hK : Kq refV refI refR S S := Kq.rf
  refine lv_aload_n hx hb dX16_no_0 rfl (lv_at hl 0 rfl) ?_
  refine lv_iload_n hx hb dX16_no_1 rfl (lv_at hl 1 rfl) ?_
  refine p_16_0 (S := S) (x := k) X w h.v wF_X16_43 dX16_no_2 (fun H locs w => ?_)
  have h : RI ea (sI S 256 0 k) ns nj nm nt nr nq := h.stI (by decide)
  have hK : Kq refV refI refR S (sI S 256 0 k) := hK.sI rfl
  refine lv_iconst (v := 0) hx hb dX16_no_5 (by decide) ?_
  exact rI X w rfl dX16_no_6 (by decide) (by decide) (⟨rfl, rfl⟩)

theorem dX16_enqueue_0 : decode cX16_enqueue 0 = .ok (.aload_n 0, 1) := by decide +kernel
theorem dX16_enqueue_1 : decode cX16_enqueue 1 = .ok (.getfield 26, 3) := by decide +kernel
theorem dX16_enqueue_4 : decode cX16_enqueue 4 = .ok (.iload_n 1, 1) := by decide +kernel
theorem dX16_enqueue_5 : decode cX16_enqueue 5 = .ok (.invokeinterface 46 2, 5) := by decide +kernel
theorem dX16_enqueue_10 : decode cX16_enqueue 10 = .ok (.checkcast 105, 3) := by decide +kernel
theorem dX16_enqueue_13 : decode cX16_enqueue 13 = .ok (.astore_n 2, 1) := by decide +kernel
theorem dX16_enqueue_14 : decode cX16_enqueue 14 = .ok (.aload_n 2, 1) := by decide +kernel
theorem dX16_enqueue_15 : decode cX16_enqueue 15 = .ok (.invokevirtual 157, 3) := by decide +kernel
theorem dX16_enqueue_18 : decode cX16_enqueue 18 = .ok (.ifCond .eq 10, 3) := by decide +kernel
theorem dX16_enqueue_21 : decode cX16_enqueue 21 = .ok (.aload_n 2, 1) := by decide +kernel
theorem dX16_enqueue_22 : decode cX16_enqueue 22 = .ok (.getfield 161, 3) := by decide +kernel
theorem dX16_enqueue_25 : decode cX16_enqueue 25 = .ok (.ifCond .eq 4, 3) := by decide +kernel
theorem dX16_enqueue_28 : decode cX16_enqueue 28 = .ok (.return_, 1) := by decide +kernel
theorem dX16_enqueue_29 : decode cX16_enqueue 29 = .ok (.aload_n 2, 1) := by decide +kernel
theorem dX16_enqueue_30 : decode cX16_enqueue 30 = .ok (.iconst 1, 1) := by decide +kernel
theorem dX16_enqueue_31 : decode cX16_enqueue 31 = .ok (.putfield 161, 3) := by decide +kernel
theorem dX16_enqueue_34 : decode cX16_enqueue 34 = .ok (.aload_n 0, 1) := by decide +kernel
theorem dX16_enqueue_35 : decode cX16_enqueue 35 = .ok (.getfield 32, 3) := by decide +kernel
theorem dX16_enqueue_38 : decode cX16_enqueue 38 = .ok (.iload_n 1, 1) := by decide +kernel
theorem dX16_enqueue_39 : decode cX16_enqueue 39 = .ok (.invokestatic 164, 3) := by decide +kernel
theorem dX16_enqueue_42 : decode cX16_enqueue 42 = .ok (.invokeinterface 170 2, 5) := by decide +kernel
theorem dX16_enqueue_47 : decode cX16_enqueue 47 = .ok (.pop, 1) := by decide +kernel
theorem dX16_enqueue_48 : decode cX16_enqueue 48 = .ok (.return_, 1) := by decide +kernel
abbrev rm_m_X16_enqueue_n : Room := { frames := 4, cells := 0, slots := 0, locals := 81 }
set_option maxHeartbeats 4000000 in
set_option maxRecDepth 100000 in
theorem m_X16_enqueue_n {s0 : State} {l : Launch} {D : va_G} {cy : Nat → ClassId} (G : Gl s0 l D cy) (S : HS) (ea ns nj nm nt nr nq : Nat) (h : RI ea S ns nj nm nt nr nq) (j : Nat) (hj : j < nt) (hno : ¬ (rWrong (mI S 247 j) (mI S 246 j) (mI S 245 j) (mI S 248 j) = true ∧ mI S 253 j = 0)) : Ctr s0 l D cy yX16_enqueue cX16_enqueue 3 none rm_m_X16_enqueue_n S [.ref (gG S 16 0), .int (nI j)] (fun v S' => none = v ∧ S = S') := by
  refine pro "CavershamShiftModel" G rfl rfl (Nat.le_of_ble_eq_true rfl) (fun p e s m below meth c ls X w hnm hl => ?_)
  have hx := X.1
  have hb := X.2.1
  have hown := X.2.2.2.1
  have hts := X.2.2.2.2.1
  have hl : lv_has ls 3 [(0, .ref (gG S 16 0)), (1, .int (nI j))] := hl
  have h0 := h
  have hK : Kq hvQ hiQ hrQ S S := Kq.rf
  refine lv_aload_n hx hb dX16_enqueue_0 rfl (lv_at hl 0 rfl) ?_
  refine g_16_9 (S := S) (x := (some (gG S 17 9))) X w h.v wF_X16_26 (h.f_ta) dX16_enqueue_1 ?_
  refine lv_iload_n hx hb dX16_enqueue_4 rfl (lv_at hl 1 rfl) ?_
  refine cF (S := S) (t := 17) (nA := 1) (As := [.int (nI j)]) (rest := []) X w hl h.l_ta.1 (m_get G S ea 9 j nt (some (gG S 15 j)) h.l_ta hj (h.e_ta j hj).1) wY_Jx4a65c_get_915e3 wM_X16_46 wIn_Jx4a65c_get_915e3 wSe_Jx4a65c_Jx4a65c_get_915e3_of_java_util_List_get__I_Ljava_lang_Object_ wI_Jx4a65c fw_get (by decide) rfl (by decide +kernel) rfl rfl dX16_enqueue_5 ⟨by decide, by decide⟩ (Nat.le_of_ble_eq_true rfl) (⟨Nat.le_of_ble_eq_true rfl, Nat.le_of_ble_eq_true rfl⟩) (fun v1 S1 H locs hp w => ?_)
  obtain ⟨rfl, rfl⟩ := hp
  refine ckC (S := S) (t := 15) X w (h.e_ta j hj).2 (by decide) rfl wC_X16_105 dX16_enqueue_10 ?_
  refine lv_astore_n (lv' := [(2, .ref (gG S 15 j)), (0, .ref (gG S 16 0)), (1, .int (nI j))]) hx hb dX16_enqueue_13 rfl hl (by decide) rfl (fun ls hl => ?_)
  refine lv_aload_n hx hb dX16_enqueue_14 rfl (lv_at hl 0 rfl) ?_
  refine cV (S := S) (nA := 0) (As := []) (rest := []) X w hl (h.e_ta j hj).2 (m_X15_isWrong G S j (h.e_ta j hj).2) wY_X15_isWrong wM_X16_157 wIn_X15_isWrong wSe_X15_X15_isWrong wI_X15 (by decide) rfl (by decide +kernel) rfl rfl dX16_enqueue_15 ⟨by decide, by decide⟩ (Nat.le_of_ble_eq_true rfl) (⟨Nat.le_of_ble_eq_true rfl, Nat.le_of_ble_eq_true rfl⟩) (fun v2 S1 H locs hp w => ?_)
  obtain ⟨rfl, rfl⟩ := hp
  refine lv_if_eq (tgt := 28) hx hb dX16_enqueue_18 (by decide) (fun hw9 => ?_) (fun hw9 => ?_)
  · exact rV X w rfl dX16_enqueue_28 (by decide) (by decide) (⟨rfl, rfl⟩)
  · refine lv_aload_n hx hb dX16_enqueue_21 rfl (lv_at hl 0 rfl) ?_
    refine g_15_13 (S := S) (x := (mI S 253 j)) X w (h.e_ta j hj).2 wF_X16_161 (rfl) dX16_enqueue_22 ?_
    refine lv_if_eq (tgt := 29) hx hb dX16_enqueue_25 (by decide) (fun hz9 => ?_) (fun hz9 => ?_)
    · exact absurd ⟨b2i_t hw9, hz9⟩ hno
    · exact rV X w rfl dX16_enqueue_28 (by decide) (by decide) (⟨rfl, rfl⟩)

