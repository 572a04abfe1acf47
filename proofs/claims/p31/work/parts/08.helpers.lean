theorem dX10_isOutside_0 : decode cX10_isOutside 0 = .ok (.iload_n 0, 1) := by decide +kernel
theorem dX10_isOutside_1 : decode cX10_isOutside 1 = .ok (.iload_n 1, 1) := by decide +kernel
theorem dX10_isOutside_2 : decode cX10_isOutside 2 = .ok (.if_icmp .lt 8, 3) := by decide +kernel
theorem dX10_isOutside_5 : decode cX10_isOutside 5 = .ok (.iload_n 0, 1) := by decide +kernel
theorem dX10_isOutside_6 : decode cX10_isOutside 6 = .ok (.iload_n 2, 1) := by decide +kernel
theorem dX10_isOutside_7 : decode cX10_isOutside 7 = .ok (.if_icmp .le 7, 3) := by decide +kernel
theorem dX10_isOutside_10 : decode cX10_isOutside 10 = .ok (.iconst 1, 1) := by decide +kernel
theorem dX10_isOutside_11 : decode cX10_isOutside 11 = .ok (.goto 4, 3) := by decide +kernel
theorem dX10_isOutside_14 : decode cX10_isOutside 14 = .ok (.iconst 0, 1) := by decide +kernel
theorem dX10_isOutside_15 : decode cX10_isOutside 15 = .ok (.ireturn, 1) := by decide +kernel
abbrev rm_m_X10_isOutside : Room := { frames := 0, cells := 0, slots := 0, locals := 0 }
set_option maxHeartbeats 4000000 in
set_option maxRecDepth 100000 in
theorem m_X10_isOutside {s0 : State} {l : Launch} {D : va_G} {cy : Nat → ClassId} (G : Gl s0 l D cy) (S : HS) (v lo hi : Int32) : Ctr s0 l D cy yX10_isOutside cX10_isOutside 3 (some .boolean) rm_m_X10_isOutside S [.int v, .int lo, .int hi] (PU S (some (.int (b2i (sOut v lo hi))))) := by
  refine pro "CavershamShift" G rfl rfl (Nat.le_of_ble_eq_true rfl) (fun p e s m below meth c ls X w hnm hl => ?_)
  have hx := X.1
  have hb := X.2.1
  have hown := X.2.2.2.1
  have hts := X.2.2.2.2.1
  have hl : lv_has ls 3 [(0, .int v), (1, .int lo), (2, .int hi)] := hl
  refine lv_iload_n hx hb dX10_isOutside_0 rfl (lv_at hl 0 rfl) ?_
  refine lv_iload_n hx hb dX10_isOutside_1 rfl (lv_at hl 1 rfl) ?_
  refine lv_icmp_lt (tgt := 10) hx hb dX10_isOutside_2 (by decide) (fun hc1 => ?_) (fun hc1 => ?_)
  · refine lv_iconst (v := 1) hx hb dX10_isOutside_10 (by decide) ?_
    refine lv_goto (tgt := 15) hx hb dX10_isOutside_11 (by decide) ?_
    exact rZ X w rfl dX10_isOutside_15 (by decide) (by decide) (by decide) (pu_i (by simp_all [sOut, b2i]))
  · refine lv_iload_n hx hb dX10_isOutside_5 rfl (lv_at hl 0 rfl) ?_
    refine lv_iload_n hx hb dX10_isOutside_6 rfl (lv_at hl 2 rfl) ?_
    refine lv_icmp_le (tgt := 14) hx hb dX10_isOutside_7 (by decide) (fun hc2 => ?_) (fun hc2 => ?_)
    · refine lv_iconst (v := 0) hx hb dX10_isOutside_14 (by decide) ?_
      exact rZ X w rfl dX10_isOutside_15 (by decide) (by decide) (by decide) (pu_i (by simp_all [sOut, b2i]))
    · refine lv_iconst (v := 1) hx hb dX10_isOutside_10 (by decide) ?_
      refine lv_goto (tgt := 15) hx hb dX10_isOutside_11 (by decide) ?_
      exact rZ X w rfl dX10_isOutside_15 (by decide) (by decide) (by decide) (pu_i (by simp_all [sOut, b2i]))

theorem dX10_isIn_0 : decode cX10_isIn 0 = .ok (.iload_n 0, 1) := by decide +kernel
theorem dX10_isIn_1 : decode cX10_isIn 1 = .ok (.iload_n 1, 1) := by decide +kernel
theorem dX10_isIn_2 : decode cX10_isIn 2 = .ok (.ishr, 1) := by decide +kernel
theorem dX10_isIn_3 : decode cX10_isIn 3 = .ok (.iconst 1, 1) := by decide +kernel
theorem dX10_isIn_4 : decode cX10_isIn 4 = .ok (.iand, 1) := by decide +kernel
theorem dX10_isIn_5 : decode cX10_isIn 5 = .ok (.iconst 1, 1) := by decide +kernel
theorem dX10_isIn_6 : decode cX10_isIn 6 = .ok (.if_icmp .ne 7, 3) := by decide +kernel
theorem dX10_isIn_9 : decode cX10_isIn 9 = .ok (.iconst 1, 1) := by decide +kernel
theorem dX10_isIn_10 : decode cX10_isIn 10 = .ok (.goto 4, 3) := by decide +kernel
theorem dX10_isIn_13 : decode cX10_isIn 13 = .ok (.iconst 0, 1) := by decide +kernel
theorem dX10_isIn_14 : decode cX10_isIn 14 = .ok (.ireturn, 1) := by decide +kernel
abbrev rm_m_X10_isIn : Room := { frames := 0, cells := 0, slots := 0, locals := 0 }
set_option maxHeartbeats 4000000 in
set_option maxRecDepth 100000 in
theorem m_X10_isIn {s0 : State} {l : Launch} {D : va_G} {cy : Nat → ClassId} (G : Gl s0 l D cy) (S : HS) (set k : Int32) : Ctr s0 l D cy yX10_isIn cX10_isIn 2 (some .boolean) rm_m_X10_isIn S [.int set, .int k] (PU S (some (.int (b2i (sIn set k))))) := by
  refine pro "CavershamShift" G rfl rfl (Nat.le_of_ble_eq_true rfl) (fun p e s m below meth c ls X w hnm hl => ?_)
  have hx := X.1
  have hb := X.2.1
  have hown := X.2.2.2.1
  have hts := X.2.2.2.2.1
  have hl : lv_has ls 2 [(0, .int set), (1, .int k)] := hl
  refine lv_iload_n hx hb dX10_isIn_0 rfl (lv_at hl 0 rfl) ?_
  refine lv_iload_n hx hb dX10_isIn_1 rfl (lv_at hl 1 rfl) ?_
  refine lv_ishr hx hb dX10_isIn_2 ?_
  refine lv_iconst (v := 1) hx hb dX10_isIn_3 (by decide) ?_
  refine lv_iand hx hb dX10_isIn_4 ?_
  refine lv_iconst (v := 1) hx hb dX10_isIn_5 (by decide) ?_
  refine lv_icmp_ne (tgt := 13) hx hb dX10_isIn_6 (by decide) (fun hc1 => ?_) (fun hc1 => ?_)
  · refine lv_iconst (v := 0) hx hb dX10_isIn_13 (by decide) ?_
    exact rZ X w rfl dX10_isIn_14 (by decide) (by decide) (by decide) (pu_i (by simp_all [sIn, b2i]))
  · refine lv_iconst (v := 1) hx hb dX10_isIn_9 (by decide) ?_
    refine lv_goto (tgt := 14) hx hb dX10_isIn_10 (by decide) ?_
    exact rZ X w rfl dX10_isIn_14 (by decide) (by decide) (by decide) (pu_i (by simp_all [sIn, b2i]))

theorem dX10_hold_0 : decode cX10_hold 0 = .ok (.iload_n 1, 1) := by decide +kernel
theorem dX10_hold_1 : decode cX10_hold 1 = .ok (.iload_n 2, 1) := by decide +kernel
theorem dX10_hold_2 : decode cX10_hold 2 = .ok (.iload_n 0, 1) := by decide +kernel
theorem dX10_hold_3 : decode cX10_hold 3 = .ok (.invokestatic 551, 3) := by decide +kernel
theorem dX10_hold_6 : decode cX10_hold 6 = .ok (.invokestatic 556, 3) := by decide +kernel
theorem dX10_hold_9 : decode cX10_hold 9 = .ok (.ireturn, 1) := by decide +kernel
abbrev rm_m_X10_hold : Room := { frames := 1, cells := 0, slots := 0, locals := 21 }
set_option maxHeartbeats 4000000 in
set_option maxRecDepth 100000 in
theorem m_X10_hold {s0 : State} {l : Launch} {D : va_G} {cy : Nat → ClassId} (G : Gl s0 l D cy) (S : HS) (v lo hi : Int32) : Ctr s0 l D cy yX10_hold cX10_hold 3 (some .int) rm_m_X10_hold S [.int v, .int lo, .int hi] (PU S (some (.int (sHold v lo hi)))) := by
  refine pro "CavershamShift" G rfl rfl (Nat.le_of_ble_eq_true rfl) (fun p e s m below meth c ls X w hnm hl => ?_)
  have hx := X.1
  have hb := X.2.1
  have hown := X.2.2.2.1
  have hts := X.2.2.2.2.1
  have hl : lv_has ls 3 [(0, .int v), (1, .int lo), (2, .int hi)] := hl
  refine lv_iload_n hx hb dX10_hold_0 rfl (lv_at hl 1 rfl) ?_
  refine lv_iload_n hx hb dX10_hold_1 rfl (lv_at hl 2 rfl) ?_
  refine lv_iload_n hx hb dX10_hold_2 rfl (lv_at hl 0 rfl) ?_
  refine va_mmin hx hb (X.2.2.1.trans hl.1.symm) hown (hts _ wM_X10_551) (hts _ wSt_J9_min_7cf53) (hts _ wI_J9) (hts _ wY_J9_min_7cf53) (by decide) (Nat.le_of_ble_eq_true rfl) (Nat.le_of_ble_eq_true rfl) (Nat.le_of_ble_eq_true rfl) dX10_hold_3 ?_
  refine va_mmax hx hb (X.2.2.1.trans hl.1.symm) hown (hts _ wM_X10_556) (hts _ wSt_J9_max_7cf53) (hts _ wI_J9) (hts _ wY_J9_max_7cf53) (by decide) (Nat.le_of_ble_eq_true rfl) (Nat.le_of_ble_eq_true rfl) (Nat.le_of_ble_eq_true rfl) dX10_hold_6 ?_
  exact rI X w rfl dX10_hold_9 (by decide) (by decide) (pu_i rfl)

theorem dX0_isNear_0 : decode cX0_isNear 0 = .ok (.iload_n 0, 1) := by decide +kernel
theorem dX0_isNear_1 : decode cX0_isNear 1 = .ok (.iload_n 1, 1) := by decide +kernel
theorem dX0_isNear_2 : decode cX0_isNear 2 = .ok (.isub, 1) := by decide +kernel
theorem dX0_isNear_3 : decode cX0_isNear 3 = .ok (.invokestatic 60, 3) := by decide +kernel
theorem dX0_isNear_6 : decode cX0_isNear 6 = .ok (.iconst 1, 1) := by decide +kernel
theorem dX0_isNear_7 : decode cX0_isNear 7 = .ok (.if_icmp .gt 7, 3) := by decide +kernel
theorem dX0_isNear_10 : decode cX0_isNear 10 = .ok (.iconst 1, 1) := by decide +kernel
theorem dX0_isNear_11 : decode cX0_isNear 11 = .ok (.goto 4, 3) := by decide +kernel
theorem dX0_isNear_14 : decode cX0_isNear 14 = .ok (.iconst 0, 1) := by decide +kernel
theorem dX0_isNear_15 : decode cX0_isNear 15 = .ok (.ireturn, 1) := by decide +kernel
abbrev rm_m_X0_isNear : Room := { frames := 1, cells := 0, slots := 0, locals := 21 }
set_option maxHeartbeats 4000000 in
set_option maxRecDepth 100000 in
theorem m_X0_isNear {s0 : State} {l : Launch} {D : va_G} {cy : Nat → ClassId} (G : Gl s0 l D cy) (S : HS) (a b : Int32) : Ctr s0 l D cy yX0_isNear cX0_isNear 2 (some .boolean) rm_m_X0_isNear S [.int a, .int b] (PU S (some (.int (b2i (sNear a b))))) := by
  refine pro "CavershamShift$Dial" G rfl rfl (Nat.le_of_ble_eq_true rfl) (fun p e s m below meth c ls X w hnm hl => ?_)
  have hx := X.1
  have hb := X.2.1
  have hown := X.2.2.2.1
  have hts := X.2.2.2.2.1
  have hl : lv_has ls 2 [(0, .int a), (1, .int b)] := hl
  refine lv_iload_n hx hb dX0_isNear_0 rfl (lv_at hl 0 rfl) ?_
  refine lv_iload_n hx hb dX0_isNear_1 rfl (lv_at hl 1 rfl) ?_
  refine lv_isub hx hb dX0_isNear_2 ?_
  refine va_mabs hx hb (X.2.2.1.trans hl.1.symm) hown (hts _ wM_X0_60) (hts _ wSt_J9_abs_0f7a4) (hts _ wI_J9) (hts _ wY_J9_abs_0f7a4) (by decide) (Nat.le_of_ble_eq_true rfl) (Nat.le_of_ble_eq_true rfl) (Nat.le_of_ble_eq_true rfl) dX0_isNear_3 ?_
  refine lv_iconst (v := 1) hx hb dX0_isNear_6 (by decide) ?_
  refine lv_icmp_gt (tgt := 14) hx hb dX0_isNear_7 (by decide) (fun hc1 => ?_) (fun hc1 => ?_)
  · refine lv_iconst (v := 0) hx hb dX0_isNear_14 (by decide) ?_
    exact rZ X w rfl dX0_isNear_15 (by decide) (by decide) (by decide) (pu_i (by simp_all [sNear, b2i]))
  · refine lv_iconst (v := 1) hx hb dX0_isNear_10 (by decide) ?_
    refine lv_goto (tgt := 15) hx hb dX0_isNear_11 (by decide) ?_
    exact rZ X w rfl dX0_isNear_15 (by decide) (by decide) (by decide) (pu_i (by simp_all [sNear, b2i]))

theorem dX0_isNight_0 : decode cX0_isNight 0 = .ok (.iload_n 0, 1) := by decide +kernel
theorem dX0_isNight_1 : decode cX0_isNight 1 = .ok (.bipush 18, 2) := by decide +kernel
theorem dX0_isNight_3 : decode cX0_isNight 3 = .ok (.if_icmp .ge 8, 3) := by decide +kernel
theorem dX0_isNight_6 : decode cX0_isNight 6 = .ok (.iload_n 0, 1) := by decide +kernel
theorem dX0_isNight_7 : decode cX0_isNight 7 = .ok (.iconst 5, 1) := by decide +kernel
theorem dX0_isNight_8 : decode cX0_isNight 8 = .ok (.if_icmp .gt 7, 3) := by decide +kernel
theorem dX0_isNight_11 : decode cX0_isNight 11 = .ok (.iconst 1, 1) := by decide +kernel
theorem dX0_isNight_12 : decode cX0_isNight 12 = .ok (.goto 4, 3) := by decide +kernel
theorem dX0_isNight_15 : decode cX0_isNight 15 = .ok (.iconst 0, 1) := by decide +kernel
theorem dX0_isNight_16 : decode cX0_isNight 16 = .ok (.ireturn, 1) := by decide +kernel
abbrev rm_m_X0_isNight : Room := { frames := 0, cells := 0, slots := 0, locals := 0 }
set_option maxHeartbeats 4000000 in
set_option maxRecDepth 100000 in
theorem m_X0_isNight {s0 : State} {l : Launch} {D : va_G} {cy : Nat → ClassId} (G : Gl s0 l D cy) (S : HS) (h : Int32) : Ctr s0 l D cy yX0_isNight cX0_isNight 1 (some .boolean) rm_m_X0_isNight S [.int h] (PU S (some (.int (b2i (sNight h))))) := by
  refine pro "CavershamShift$Dial" G rfl rfl (Nat.le_of_ble_eq_true rfl) (fun p e s m below meth c ls X w hnm hl => ?_)
  have hx := X.1
  have hb := X.2.1
  have hown := X.2.2.2.1
  have hts := X.2.2.2.2.1
  have hl : lv_has ls 1 [(0, .int h)] := hl
  refine lv_iload_n hx hb dX0_isNight_0 rfl (lv_at hl 0 rfl) ?_
  refine lv_bipush (v := 18) hx hb dX0_isNight_1 (by decide) ?_
  refine lv_icmp_ge (tgt := 11) hx hb dX0_isNight_3 (by decide) (fun hc1 => ?_) (fun hc1 => ?_)
  · refine lv_iconst (v := 1) hx hb dX0_isNight_11 (by decide) ?_
    refine lv_goto (tgt := 16) hx hb dX0_isNight_12 (by decide) ?_
    exact rZ X w rfl dX0_isNight_16 (by decide) (by decide) (by decide) (pu_i (by simp_all [sNight, b2i]))
  · refine lv_iload_n hx hb dX0_isNight_6 rfl (lv_at hl 0 rfl) ?_
    refine lv_iconst (v := 5) hx hb dX0_isNight_7 (by decide) ?_
    refine lv_icmp_gt (tgt := 15) hx hb dX0_isNight_8 (by decide) (fun hc2 => ?_) (fun hc2 => ?_)
    · refine lv_iconst (v := 0) hx hb dX0_isNight_15 (by decide) ?_
      exact rZ X w rfl dX0_isNight_16 (by decide) (by decide) (by decide) (pu_i (by simp_all [sNight, b2i]))
    · refine lv_iconst (v := 1) hx hb dX0_isNight_11 (by decide) ?_
      refine lv_goto (tgt := 16) hx hb dX0_isNight_12 (by decide) ?_
      exact rZ X w rfl dX0_isNight_16 (by decide) (by decide) (by decide) (pu_i (by simp_all [sNight, b2i]))

theorem dX16_in_0 : decode cX16_in 0 = .ok (.iload_n 0, 1) := by decide +kernel
theorem dX16_in_1 : decode cX16_in 1 = .ok (.iload_n 1, 1) := by decide +kernel
theorem dX16_in_2 : decode cX16_in 2 = .ok (.if_icmp .lt 12, 3) := by decide +kernel
theorem dX16_in_5 : decode cX16_in 5 = .ok (.iload_n 0, 1) := by decide +kernel
theorem dX16_in_6 : decode cX16_in 6 = .ok (.iload_n 2, 1) := by decide +kernel
theorem dX16_in_7 : decode cX16_in 7 = .ok (.if_icmp .gt 7, 3) := by decide +kernel
theorem dX16_in_10 : decode cX16_in 10 = .ok (.iconst 1, 1) := by decide +kernel
theorem dX16_in_11 : decode cX16_in 11 = .ok (.goto 4, 3) := by decide +kernel
theorem dX16_in_14 : decode cX16_in 14 = .ok (.iconst 0, 1) := by decide +kernel
theorem dX16_in_15 : decode cX16_in 15 = .ok (.ireturn, 1) := by decide +kernel
abbrev rm_m_X16_in : Room := { frames := 0, cells := 0, slots := 0, locals := 0 }
set_option maxHeartbeats 4000000 in
set_option maxRecDepth 100000 in
theorem m_X16_in {s0 : State} {l : Launch} {D : va_G} {cy : Nat → ClassId} (G : Gl s0 l D cy) (S : HS) (v lo hi : Int32) : Ctr s0 l D cy yX16_in cX16_in 3 (some .boolean) rm_m_X16_in S [.int v, .int lo, .int hi] (PU S (some (.int (b2i (!(sOut v lo hi)))))) := by
  refine pro "CavershamShiftModel" G rfl rfl (Nat.le_of_ble_eq_true rfl) (fun p e s m below meth c ls X w hnm hl => ?_)
  have hx := X.1
  have hb := X.2.1
  have hown := X.2.2.2.1
  have hts := X.2.2.2.2.1
  have hl : lv_has ls 3 [(0, .int v), (1, .int lo), (2, .int hi)] := hl
  refine lv_iload_n hx hb dX16_in_0 rfl (lv_at hl 0 rfl) ?_
  refine lv_iload_n hx hb dX16_in_1 rfl (lv_at hl 1 rfl) ?_
  refine lv_icmp_lt (tgt := 14) hx hb dX16_in_2 (by decide) (fun hc1 => ?_) (fun hc1 => ?_)
  · refine lv_iconst (v := 0) hx hb dX16_in_14 (by decide) ?_
    exact rZ X w rfl dX16_in_15 (by decide) (by decide) (by decide) (pu_i (by simp_all [sOut, b2i]))
  · refine lv_iload_n hx hb dX16_in_5 rfl (lv_at hl 0 rfl) ?_
    refine lv_iload_n hx hb dX16_in_6 rfl (lv_at hl 2 rfl) ?_
    refine lv_icmp_gt (tgt := 14) hx hb dX16_in_7 (by decide) (fun hc2 => ?_) (fun hc2 => ?_)
    · refine lv_iconst (v := 0) hx hb dX16_in_14 (by decide) ?_
      exact rZ X w rfl dX16_in_15 (by decide) (by decide) (by decide) (pu_i (by simp_all [sOut, b2i]))
    · refine lv_iconst (v := 1) hx hb dX16_in_10 (by decide) ?_
      refine lv_goto (tgt := 15) hx hb dX16_in_11 (by decide) ?_
      exact rZ X w rfl dX16_in_15 (by decide) (by decide) (by decide) (pu_i (by simp_all [sOut, b2i]))

theorem dX16_has_0 : decode cX16_has 0 = .ok (.iload_n 0, 1) := by decide +kernel
theorem dX16_has_1 : decode cX16_has 1 = .ok (.iload_n 1, 1) := by decide +kernel
theorem dX16_has_2 : decode cX16_has 2 = .ok (.ishr, 1) := by decide +kernel
theorem dX16_has_3 : decode cX16_has 3 = .ok (.iconst 1, 1) := by decide +kernel
theorem dX16_has_4 : decode cX16_has 4 = .ok (.iand, 1) := by decide +kernel
theorem dX16_has_5 : decode cX16_has 5 = .ok (.iconst 1, 1) := by decide +kernel
theorem dX16_has_6 : decode cX16_has 6 = .ok (.if_icmp .ne 7, 3) := by decide +kernel
theorem dX16_has_9 : decode cX16_has 9 = .ok (.iconst 1, 1) := by decide +kernel
theorem dX16_has_10 : decode cX16_has 10 = .ok (.goto 4, 3) := by decide +kernel
theorem dX16_has_13 : decode cX16_has 13 = .ok (.iconst 0, 1) := by decide +kernel
theorem dX16_has_14 : decode cX16_has 14 = .ok (.ireturn, 1) := by decide +kernel
abbrev rm_m_X16_has : Room := { frames := 0, cells := 0, slots := 0, locals := 0 }
set_option maxHeartbeats 4000000 in
set_option maxRecDepth 100000 in
theorem m_X16_has {s0 : State} {l : Launch} {D : va_G} {cy : Nat → ClassId} (G : Gl s0 l D cy) (S : HS) (set k : Int32) : Ctr s0 l D cy yX16_has cX16_has 2 (some .boolean) rm_m_X16_has S [.int set, .int k] (PU S (some (.int (b2i (sIn set k))))) := by
  refine pro "CavershamShiftModel" G rfl rfl (Nat.le_of_ble_eq_true rfl) (fun p e s m below meth c ls X w hnm hl => ?_)
  have hx := X.1
  have hb := X.2.1
  have hown := X.2.2.2.1
  have hts := X.2.2.2.2.1
  have hl : lv_has ls 2 [(0, .int set), (1, .int k)] := hl
  refine lv_iload_n hx hb dX16_has_0 rfl (lv_at hl 0 rfl) ?_
  refine lv_iload_n hx hb dX16_has_1 rfl (lv_at hl 1 rfl) ?_
  refine lv_ishr hx hb dX16_has_2 ?_
  refine lv_iconst (v := 1) hx hb dX16_has_3 (by decide) ?_
  refine lv_iand hx hb dX16_has_4 ?_
  refine lv_iconst (v := 1) hx hb dX16_has_5 (by decide) ?_
  refine lv_icmp_ne (tgt := 13) hx hb dX16_has_6 (by decide) (fun hc1 => ?_) (fun hc1 => ?_)
  · refine lv_iconst (v := 0) hx hb dX16_has_13 (by decide) ?_
    exact rZ X w rfl dX16_has_14 (by decide) (by decide) (by decide) (pu_i (by simp_all [sIn, b2i]))
  · refine lv_iconst (v := 1) hx hb dX16_has_9 (by decide) ?_
    refine lv_goto (tgt := 14) hx hb dX16_has_10 (by decide) ?_
    exact rZ X w rfl dX16_has_14 (by decide) (by decide) (by decide) (pu_i (by simp_all [sIn, b2i]))

theorem dX16_hold_0 : decode cX16_hold 0 = .ok (.iload_n 0, 1) := by decide +kernel
theorem dX16_hold_1 : decode cX16_hold 1 = .ok (.iload_n 1, 1) := by decide +kernel
theorem dX16_hold_2 : decode cX16_hold 2 = .ok (.if_icmp .ge 7, 3) := by decide +kernel
theorem dX16_hold_5 : decode cX16_hold 5 = .ok (.iload_n 1, 1) := by decide +kernel
theorem dX16_hold_6 : decode cX16_hold 6 = .ok (.goto 13, 3) := by decide +kernel
theorem dX16_hold_9 : decode cX16_hold 9 = .ok (.iload_n 0, 1) := by decide +kernel
theorem dX16_hold_10 : decode cX16_hold 10 = .ok (.iload_n 2, 1) := by decide +kernel
theorem dX16_hold_11 : decode cX16_hold 11 = .ok (.if_icmp .le 7, 3) := by decide +kernel
theorem dX16_hold_14 : decode cX16_hold 14 = .ok (.iload_n 2, 1) := by decide +kernel
theorem dX16_hold_15 : decode cX16_hold 15 = .ok (.goto 4, 3) := by decide +kernel
theorem dX16_hold_18 : decode cX16_hold 18 = .ok (.iload_n 0, 1) := by decide +kernel
theorem dX16_hold_19 : decode cX16_hold 19 = .ok (.ireturn, 1) := by decide +kernel
abbrev rm_m_X16_hold : Room := { frames := 0, cells := 0, slots := 0, locals := 0 }
set_option maxHeartbeats 4000000 in
set_option maxRecDepth 100000 in
theorem m_X16_hold {s0 : State} {l : Launch} {D : va_G} {cy : Nat → ClassId} (G : Gl s0 l D cy) (S : HS) (v lo hi : Int32) : Ctr s0 l D cy yX16_hold cX16_hold 3 (some .int) rm_m_X16_hold S [.int v, .int lo, .int hi] (PU S (some (.int (if v < lo then lo else if hi < v then hi else v)))) := by
  refine pro "CavershamShiftModel" G rfl rfl (Nat.le_of_ble_eq_true rfl) (fun p e s m below meth c ls X w hnm hl => ?_)
  have hx := X.1
  have hb := X.2.1
  have hown := X.2.2.2.1
  have hts := X.2.2.2.2.1
  have hl : lv_has ls 3 [(0, .int v), (1, .int lo), (2, .int hi)] := hl
  refine lv_iload_n hx hb dX16_hold_0 rfl (lv_at hl 0 rfl) ?_
  refine lv_iload_n hx hb dX16_hold_1 rfl (lv_at hl 1 rfl) ?_
  refine lv_icmp_ge (tgt := 9) hx hb dX16_hold_2 (by decide) (fun hc1 => ?_) (fun hc1 => ?_)
  · refine lv_iload_n hx hb dX16_hold_9 rfl (lv_at hl 0 rfl) ?_
    refine lv_iload_n hx hb dX16_hold_10 rfl (lv_at hl 2 rfl) ?_
    refine lv_icmp_le (tgt := 18) hx hb dX16_hold_11 (by decide) (fun hc2 => ?_) (fun hc2 => ?_)
    · refine lv_iload_n hx hb dX16_hold_18 rfl (lv_at hl 0 rfl) ?_
      exact rI X w rfl dX16_hold_19 (by decide) (by decide) (pu_i (by simp_all [← Int32.not_lt]))
    · refine lv_iload_n hx hb dX16_hold_14 rfl (lv_at hl 2 rfl) ?_
      refine lv_goto (tgt := 19) hx hb dX16_hold_15 (by decide) ?_
      exact rI X w rfl dX16_hold_19 (by decide) (by decide) (pu_i (by simp_all [← Int32.not_lt]))
  · refine lv_iload_n hx hb dX16_hold_5 rfl (lv_at hl 1 rfl) ?_
    refine lv_goto (tgt := 19) hx hb dX16_hold_6 (by decide) ?_
    exact rI X w rfl dX16_hold_19 (by decide) (by decide) (pu_i (by simp_all [← Int32.not_lt]))

