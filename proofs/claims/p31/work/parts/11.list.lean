def capOf (n : Nat) : Nat := if n = 0 then 0 else if n ≤ 10 then 10 else if n ≤ 15 then 15 else if n ≤ 22 then 22 else if n ≤ 33 then 33 else 49
/-- the list k holds n elements, in the array that is its own; ea: the empty row of all -/
def LsOk (ea : Nat) (S : HS) (k n : Nat) : Prop := vV S 17 k ∧ mI S 274 k = nI n ∧ n ≤ 49 ∧ (n = 0 → mR S 273 k = some ea) ∧ (0 < n → vV S 30 k ∧ mR S 273 k = some (gG S 30 k) ∧ mN S 30 k = capOf n)
theorem capOf_ge {n : Nat} (h : n ≤ 49) : n ≤ capOf n := by unfold capOf; split <;> (try split) <;> (try split) <;> (try split) <;> (try split) <;> omega
theorem capOf_le (n : Nat) : capOf n ≤ 49 := by unfold capOf; split <;> (try split) <;> (try split) <;> (try split) <;> (try split) <;> omega
theorem dJx4a65c_size_8abf5_0 : decode cJx4a65c_size_8abf5 0 = .ok (.aload_n 0, 1) := by decide +kernel
theorem dJx4a65c_size_8abf5_1 : decode cJx4a65c_size_8abf5 1 = .ok (.getfield 48, 3) := by decide +kernel
theorem dJx4a65c_size_8abf5_4 : decode cJx4a65c_size_8abf5 4 = .ok (.ireturn, 1) := by decide +kernel
abbrev rm_m_Jx4a65c_size_8abf5 : Room := { frames := 0, cells := 0, slots := 0, locals := 0 }
set_option maxHeartbeats 4000000 in
set_option maxRecDepth 100000 in
theorem m_Jx4a65c_size_8abf5 {s0 : State} {l : Launch} {D : va_G} {cy : Nat → ClassId} (G : Gl s0 l D cy) (S : HS) (k n : Nat) (hV : vV S 17 k) (hs : mI S 274 k = nI n) : Ctr s0 l D cy yJx4a65c_size_8abf5 cJx4a65c_size_8abf5 1 (some .int) rm_m_Jx4a65c_size_8abf5 S [.ref (gG S 17 k)] (PU S (some (.int (nI n)))) := by
  refine pro "java/util/ArrayList" G rfl rfl (Nat.le_of_ble_eq_true rfl) (fun p e s m below meth c ls X w hnm hl => ?_)
  have hx := X.1
  have hb := X.2.1
  have hown := X.2.2.2.1
  have hts := X.2.2.2.2.1
  have hl : lv_has ls 1 [(0, .ref (gG S 17 k))] := hl
  refine lv_aload_n hx hb dJx4a65c_size_8abf5_0 rfl (lv_at hl 0 rfl) ?_
  refine g_17_2 (S := S) (x := (nI n)) X w hV wF_Jx4a65c_48 (hs) dJx4a65c_size_8abf5_1 ?_
  exact rI X w rfl dJx4a65c_size_8abf5_4 (by decide) (by decide) (pu_i rfl)

theorem dJ3_checkIndex_8e157_0 : decode cJ3_checkIndex_8e157 0 = .ok (.iload_n 0, 1) := by decide +kernel
theorem dJ3_checkIndex_8e157_1 : decode cJ3_checkIndex_8e157 1 = .ok (.ifCond .lt 8, 3) := by decide +kernel
theorem dJ3_checkIndex_8e157_4 : decode cJ3_checkIndex_8e157 4 = .ok (.iload_n 0, 1) := by decide +kernel
theorem dJ3_checkIndex_8e157_5 : decode cJ3_checkIndex_8e157 5 = .ok (.iload_n 1, 1) := by decide +kernel
theorem dJ3_checkIndex_8e157_6 : decode cJ3_checkIndex_8e157 6 = .ok (.if_icmp .lt 10, 3) := by decide +kernel
theorem dJ3_checkIndex_8e157_16 : decode cJ3_checkIndex_8e157 16 = .ok (.iload_n 0, 1) := by decide +kernel
theorem dJ3_checkIndex_8e157_17 : decode cJ3_checkIndex_8e157 17 = .ok (.ireturn, 1) := by decide +kernel
abbrev rm_m_J3_checkIndex_8e157 : Room := { frames := 0, cells := 0, slots := 0, locals := 0 }
set_option maxHeartbeats 4000000 in
set_option maxRecDepth 100000 in
theorem m_J3_checkIndex_8e157 {s0 : State} {l : Launch} {D : va_G} {cy : Nat → ClassId} (G : Gl s0 l D cy) (S : HS) (j n : Nat) (hj : j < n) (hn : n < 2 ^ 31) : Ctr s0 l D cy yJ3_checkIndex_8e157 cJ3_checkIndex_8e157 3 (some .int) rm_m_J3_checkIndex_8e157 S [.int (nI j), .int (nI n), .null] (PU S (some (.int (nI j)))) := by
  refine pro "jdk/internal/util/Preconditions" G rfl rfl (Nat.le_of_ble_eq_true rfl) (fun p e s m below meth c ls X w hnm hl => ?_)
  have hx := X.1
  have hb := X.2.1
  have hown := X.2.2.2.1
  have hts := X.2.2.2.2.1
  have hl : lv_has ls 3 [(0, .int (nI j)), (1, .int (nI n)), (2, .null)] := hl
  refine lv_iload_n hx hb dJ3_checkIndex_8e157_0 rfl (lv_at hl 0 rfl) ?_
  refine lv_if_lt (tgt := 9) hx hb dJ3_checkIndex_8e157_1 (by decide) (fun hc1 => ?_) (fun hc1 => ?_)
  · exact absurd hc1 (nI_pos (Nat.lt_trans hj hn))
  · refine lv_iload_n hx hb dJ3_checkIndex_8e157_4 rfl (lv_at hl 0 rfl) ?_
    refine lv_iload_n hx hb dJ3_checkIndex_8e157_5 rfl (lv_at hl 1 rfl) ?_
    refine lv_icmp_lt (tgt := 16) hx hb dJ3_checkIndex_8e157_6 (by decide) (fun hc2 => ?_) (fun hc2 => ?_)
    · refine lv_iload_n hx hb dJ3_checkIndex_8e157_16 rfl (lv_at hl 0 rfl) ?_
      exact rI X w rfl dJ3_checkIndex_8e157_17 (by decide) (by decide) (pu_i rfl)
    · exact absurd ((nI_ltI (Nat.lt_trans hj hn) hn).mpr hj) hc2

theorem dJ15_checkIndex_7cf53_0 : decode cJ15_checkIndex_7cf53 0 = .ok (.iload_n 0, 1) := by decide +kernel
theorem dJ15_checkIndex_7cf53_1 : decode cJ15_checkIndex_7cf53 1 = .ok (.iload_n 1, 1) := by decide +kernel
theorem dJ15_checkIndex_7cf53_2 : decode cJ15_checkIndex_7cf53 2 = .ok (.aconst_null, 1) := by decide +kernel
theorem dJ15_checkIndex_7cf53_3 : decode cJ15_checkIndex_7cf53 3 = .ok (.invokestatic 105, 3) := by decide +kernel
theorem dJ15_checkIndex_7cf53_6 : decode cJ15_checkIndex_7cf53 6 = .ok (.ireturn, 1) := by decide +kernel
abbrev rm_m_J15_checkIndex_7cf53 : Room := { frames := 1, cells := 0, slots := 0, locals := 22 }
set_option maxHeartbeats 4000000 in
set_option maxRecDepth 100000 in
theorem m_J15_checkIndex_7cf53 {s0 : State} {l : Launch} {D : va_G} {cy : Nat → ClassId} (G : Gl s0 l D cy) (S : HS) (j n : Nat) (hj : j < n) (hn : n < 2 ^ 31) : Ctr s0 l D cy yJ15_checkIndex_7cf53 cJ15_checkIndex_7cf53 2 (some .int) rm_m_J15_checkIndex_7cf53 S [.int (nI j), .int (nI n)] (PU S (some (.int (nI j)))) := by
  refine pro "java/util/Objects" G rfl rfl (Nat.le_of_ble_eq_true rfl) (fun p e s m below meth c ls X w hnm hl => ?_)
  have hx := X.1
  have hb := X.2.1
  have hown := X.2.2.2.1
  have hts := X.2.2.2.2.1
  have hl : lv_has ls 2 [(0, .int (nI j)), (1, .int (nI n))] := hl
  refine lv_iload_n hx hb dJ15_checkIndex_7cf53_0 rfl (lv_at hl 0 rfl) ?_
  refine lv_iload_n hx hb dJ15_checkIndex_7cf53_1 rfl (lv_at hl 1 rfl) ?_
  refine lv_null hx hb dJ15_checkIndex_7cf53_2 ?_
  refine cS (S := S) (nA := 3) (As := [.int (nI j), .int (nI n), .null]) (rest := []) X w hl (m_J3_checkIndex_8e157 G S j n hj hn) wY_J3_checkIndex_8e157 wM_J15_105 wSt_J3_checkIndex_8e157 wI_J3 (by decide +kernel) rfl rfl dJ15_checkIndex_7cf53_3 ⟨by decide, by decide⟩ (Nat.le_of_ble_eq_true rfl) (⟨Nat.le_of_ble_eq_true rfl, Nat.le_of_ble_eq_true rfl⟩) (fun v1 S1 H locs hp w => ?_)
  obtain ⟨rfl, rfl⟩ := hp
  exact rI X w rfl dJ15_checkIndex_7cf53_6 (by decide) (by decide) (pu_i rfl)

theorem dJx4a65c_elementData_915e3_0 : decode cJx4a65c_elementData_915e3 0 = .ok (.aload_n 0, 1) := by decide +kernel
theorem dJx4a65c_elementData_915e3_1 : decode cJx4a65c_elementData_915e3 1 = .ok (.getfield 9, 3) := by decide +kernel
theorem dJx4a65c_elementData_915e3_4 : decode cJx4a65c_elementData_915e3 4 = .ok (.iload_n 1, 1) := by decide +kernel
theorem dJx4a65c_elementData_915e3_5 : decode cJx4a65c_elementData_915e3 5 = .ok (.aaload, 1) := by decide +kernel
theorem dJx4a65c_elementData_915e3_6 : decode cJx4a65c_elementData_915e3 6 = .ok (.areturn, 1) := by decide +kernel
abbrev rm_m_Jx4a65c_elementData_915e3 : Room := { frames := 0, cells := 0, slots := 0, locals := 0 }
set_option maxHeartbeats 4000000 in
set_option maxRecDepth 100000 in
theorem m_Jx4a65c_elementData_915e3 {s0 : State} {l : Launch} {D : va_G} {cy : Nat → ClassId} (G : Gl s0 l D cy) (S : HS) (k j n : Nat) (hV : vV S 17 k) (hV2 : vV S 30 k) (hr : mR S 273 k = some (gG S 30 k)) (hj : j < n) (hn : n ≤ mN S 30 k) (hn2 : mN S 30 k < 2 ^ 31) (r : Option Nat) (he : mB S 30 k j = r) : Ctr s0 l D cy yJx4a65c_elementData_915e3 cJx4a65c_elementData_915e3 2 (some (.object "java/lang/Object")) rm_m_Jx4a65c_elementData_915e3 S [.ref (gG S 17 k), .int (nI j)] (PU S (some (va_rf r))) := by
  refine pro "java/util/ArrayList" G rfl rfl (Nat.le_of_ble_eq_true rfl) (fun p e s m below meth c ls X w hnm hl => ?_)
  have hx := X.1
  have hb := X.2.1
  have hown := X.2.2.2.1
  have hts := X.2.2.2.2.1
  have hl : lv_has ls 2 [(0, .ref (gG S 17 k)), (1, .int (nI j))] := hl
  refine lv_aload_n hx hb dJx4a65c_elementData_915e3_0 rfl (lv_at hl 0 rfl) ?_
  refine g_17_1 (S := S) (x := (some (gG S 30 k))) X w hV wF_Jx4a65c_9 (hr) dJx4a65c_elementData_915e3_1 ?_
  refine lv_iload_n hx hb dJx4a65c_elementData_915e3_4 rfl (lv_at hl 1 rfl) ?_
  refine aLdR (S := S) (t := 30) (v := r) X w hV2 (by decide) rfl rfl (Or.inl ⟨_, rfl⟩) (nI_vp (Nat.lt_of_lt_of_le hj hn) hn2) (by rw [cl_nI (Nat.lt_of_lt_of_le hj hn) hn2]; exact he) dJx4a65c_elementData_915e3_5 ?_
  exact rA (v := r) X w rfl (Or.inl ⟨_, rfl⟩) dJx4a65c_elementData_915e3_6 (by decide) (by decide) (pu_a rfl)

theorem dJx4a65c_get_915e3_0 : decode cJx4a65c_get_915e3 0 = .ok (.iload_n 1, 1) := by decide +kernel
theorem dJx4a65c_get_915e3_1 : decode cJx4a65c_get_915e3 1 = .ok (.aload_n 0, 1) := by decide +kernel
theorem dJx4a65c_get_915e3_2 : decode cJx4a65c_get_915e3 2 = .ok (.getfield 48, 3) := by decide +kernel
theorem dJx4a65c_get_915e3_5 : decode cJx4a65c_get_915e3 5 = .ok (.invokestatic 118, 3) := by decide +kernel
theorem dJx4a65c_get_915e3_8 : decode cJx4a65c_get_915e3 8 = .ok (.pop, 1) := by decide +kernel
theorem dJx4a65c_get_915e3_9 : decode cJx4a65c_get_915e3 9 = .ok (.aload_n 0, 1) := by decide +kernel
theorem dJx4a65c_get_915e3_10 : decode cJx4a65c_get_915e3 10 = .ok (.iload_n 1, 1) := by decide +kernel
theorem dJx4a65c_get_915e3_11 : decode cJx4a65c_get_915e3 11 = .ok (.invokevirtual 123, 3) := by decide +kernel
theorem dJx4a65c_get_915e3_14 : decode cJx4a65c_get_915e3 14 = .ok (.areturn, 1) := by decide +kernel
abbrev rm_m_Jx4a65c_get_915e3 : Room := { frames := 2, cells := 0, slots := 0, locals := 43 }
set_option maxHeartbeats 4000000 in
set_option maxRecDepth 100000 in
theorem m_Jx4a65c_get_915e3 {s0 : State} {l : Launch} {D : va_G} {cy : Nat → ClassId} (G : Gl s0 l D cy) (S : HS) (k j n : Nat) (hV : vV S 17 k) (hV2 : vV S 30 k) (hr : mR S 273 k = some (gG S 30 k)) (hj : j < n) (hn : n ≤ mN S 30 k) (hn2 : mN S 30 k < 2 ^ 31) (r : Option Nat) (he : mB S 30 k j = r) (hs : mI S 274 k = nI n) : Ctr s0 l D cy yJx4a65c_get_915e3 cJx4a65c_get_915e3 2 (some (.object "java/lang/Object")) rm_m_Jx4a65c_get_915e3 S [.ref (gG S 17 k), .int (nI j)] (PU S (some (va_rf r))) := by
  refine pro "java/util/ArrayList" G rfl rfl (Nat.le_of_ble_eq_true rfl) (fun p e s m below meth c ls X w hnm hl => ?_)
  have hx := X.1
  have hb := X.2.1
  have hown := X.2.2.2.1
  have hts := X.2.2.2.2.1
  have hl : lv_has ls 2 [(0, .ref (gG S 17 k)), (1, .int (nI j))] := hl
  have hn31 : n < 2 ^ 31 := Nat.lt_of_le_of_lt hn hn2
  refine lv_iload_n hx hb dJx4a65c_get_915e3_0 rfl (lv_at hl 1 rfl) ?_
  refine lv_aload_n hx hb dJx4a65c_get_915e3_1 rfl (lv_at hl 0 rfl) ?_
  refine g_17_2 (S := S) (x := (nI n)) X w hV wF_Jx4a65c_48 (hs) dJx4a65c_get_915e3_2 ?_
  refine cS (S := S) (nA := 2) (As := [.int (nI j), .int (nI n)]) (rest := []) X w hl (m_J15_checkIndex_7cf53 G S j n hj hn31) wY_J15_checkIndex_7cf53 wM_Jx4a65c_118 wSt_J15_checkIndex_7cf53 wI_J15 (by decide +kernel) rfl rfl dJx4a65c_get_915e3_5 ⟨by decide, by decide⟩ (Nat.le_of_ble_eq_true rfl) (⟨Nat.le_of_ble_eq_true rfl, Nat.le_of_ble_eq_true rfl⟩) (fun v1 S1 H locs hp w => ?_)
  obtain ⟨rfl, rfl⟩ := hp
  refine lv_pop hx hb dJx4a65c_get_915e3_8 rfl ?_
  refine lv_aload_n hx hb dJx4a65c_get_915e3_9 rfl (lv_at hl 0 rfl) ?_
  refine lv_iload_n hx hb dJx4a65c_get_915e3_10 rfl (lv_at hl 1 rfl) ?_
  refine cV (S := S) (nA := 1) (As := [.int (nI j)]) (rest := []) X w hl hV (m_Jx4a65c_elementData_915e3 G S k j n hV hV2 hr hj hn hn2 r he) wY_Jx4a65c_elementData_915e3 wM_Jx4a65c_123 wIn_Jx4a65c_elementData_915e3 wSe_Jx4a65c_Jx4a65c_elementData_915e3 wI_Jx4a65c (by decide) rfl (by decide +kernel) rfl rfl dJx4a65c_get_915e3_11 ⟨by decide, by decide⟩ (Nat.le_of_ble_eq_true rfl) (⟨Nat.le_of_ble_eq_true rfl, Nat.le_of_ble_eq_true rfl⟩) (fun v2 S1 H locs hp w => ?_)
  obtain ⟨rfl, rfl⟩ := hp
  exact rA (v := r) X w rfl (Or.inl ⟨_, rfl⟩) dJx4a65c_get_915e3_14 (by decide) (by decide) (pu_a rfl)

/-- get, of a list that is in order: the element is told as it is known -/
theorem m_get {s0 : State} {l : Launch} {D : va_G} {cy : Nat → ClassId} (G : Gl s0 l D cy) (S : HS) (ea k j n : Nat) (r : Option Nat) (h : LsOk ea S k n) (hj : j < n) (he : mB S 30 k j = r) : Ctr s0 l D cy yJx4a65c_get_915e3 cJx4a65c_get_915e3 2 (some (.object "java/lang/Object")) rm_m_Jx4a65c_get_915e3 S [.ref (gG S 17 k), .int (nI j)] (PU S (some (va_rf r))) := by
  obtain ⟨h1, h2, h3, -, h5⟩ := h
  obtain ⟨a, b, c⟩ := h5 (by omega)
  have hc := capOf_ge h3
  have hl := capOf_le n
  exact m_Jx4a65c_get_915e3 G S k j n h1 a b hj (by omega) (by omega) r he h2
theorem m_size {s0 : State} {l : Launch} {D : va_G} {cy : Nat → ClassId} (G : Gl s0 l D cy) (S : HS) (ea k n : Nat) (h : LsOk ea S k n) : Ctr s0 l D cy yJx4a65c_size_8abf5 cJx4a65c_size_8abf5 1 (some .int) rm_m_Jx4a65c_size_8abf5 S [.ref (gG S 17 k)] (PU S (some (.int (nI n)))) := m_Jx4a65c_size_8abf5 G S k n h.1 h.2.1

