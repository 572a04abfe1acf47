abbrev rm_a_X9_isOnDays : Room := { frames := 1, cells := 0, slots := 0, locals := 22 }
set_option maxHeartbeats 4000000 in
set_option maxRecDepth 100000 in
theorem a_X9_isOnDays {s0 : State} {l : Launch} {D : va_G} {cy : Nat → ClassId} (G : Gl s0 l D cy) (S : HS) (ea ns nj nm nt nr nc : Nat) (h : CI ea S ns nj nm nt nr nc) (A : HS) (hA : RK S A ns nj nm nt nr nc) (j : Nat) (hj : j < nt) (a b : Int32) : Ctr s0 l D cy yX9_isOnDays cX9_isOnDays 3 (some .boolean) rm_a_X9_isOnDays S [.ref (gG S 9 j), .int a, .int b] (PU S (some (.int (b2i (!(sOut (mI A 241 j / 24) a b)))))) := by
  refine pro "CavershamShift$Talk" G rfl rfl (Nat.le_of_ble_eq_true rfl) (fun p e s m below meth c ls X w hnm hl => ?_)
  have hx := X.1
  have hb := X.2.1
  have hown := X.2.2.2.1
  have hts := X.2.2.2.2.1
  have hl : lv_has ls 3 [(0, .ref (gG S 9 j)), (1, .int a), (2, .int b)] := hl
  refine lv_aload_n hx hb dX9_isOnDays_0 rfl (lv_at hl 0 rfl) ?_
  refine g_9_2 (S := S) (x := (mI A 241 j)) X w (h.e_ta j hj).2 wF_X9_22 ((hA.rc.2.2.2.1 j hj).2.1) dX9_isOnDays_1 ?_
  refine lv_bipush (v := 24) hx hb dX9_isOnDays_4 (by decide) ?_
  refine lv_idiv hx hb dX9_isOnDays_6 (by decide) ?_
  refine lv_iload_n hx hb dX9_isOnDays_7 rfl (lv_at hl 1 rfl) ?_
  refine lv_iload_n hx hb dX9_isOnDays_8 rfl (lv_at hl 2 rfl) ?_
  refine cSN (S := S) (nA := 3) (As := [.int ((mI A 241 j) / 24), .int a, .int b]) (rest := []) X w hl (m_X10_isOutside G S ((mI A 241 j) / 24) a b) wY_X10_isOutside wMN_X9_37 wSt_X10_isOutside wI_X10 (by decide +kernel) rfl rfl dX9_isOnDays_9 ⟨by decide, by decide⟩ (Nat.le_of_ble_eq_true rfl) (⟨Nat.le_of_ble_eq_true rfl, Nat.le_of_ble_eq_true rfl⟩) (fun v1 S1 H locs hp w => ?_)
  obtain ⟨rfl, rfl⟩ := hp
  refine lv_if_ne (tgt := 19) hx hb dX9_isOnDays_12 (by decide) (fun hc2 => ?_) (fun hc2 => ?_)
  · refine lv_iconst (v := 0) hx hb dX9_isOnDays_19 (by decide) ?_
    exact rZ X w rfl dX9_isOnDays_20 (by decide) (by decide) (by decide) (pu_i (by simp_all [b2i]))
  · refine lv_iconst (v := 1) hx hb dX9_isOnDays_15 (by decide) ?_
    refine lv_goto (tgt := 20) hx hb dX9_isOnDays_16 (by decide) ?_
    exact rZ X w rfl dX9_isOnDays_20 (by decide) (by decide) (by decide) (pu_i (by simp_all [b2i]))

abbrev rm_a_X9_hasReportThatStands : Room := { frames := 0, cells := 0, slots := 0, locals := 0 }
set_option maxHeartbeats 4000000 in
set_option maxRecDepth 100000 in
theorem a_X9_hasReportThatStands {s0 : State} {l : Launch} {D : va_G} {cy : Nat → ClassId} (G : Gl s0 l D cy) (S : HS) (ea ns nj nm nt nr nc : Nat) (h : CI ea S ns nj nm nt nr nc) (A : HS) (hA : RK S A ns nj nm nt nr nc) (j : Nat) (hj : j < nt) (a : Int32) (ha : ¬ a = -1) : Ctr s0 l D cy yX9_hasReportThatStands cX9_hasReportThatStands 2 (some .boolean) rm_a_X9_hasReportThatStands S [.ref (gG S 9 j), .int a] (PU S (some (.int (b2i (decide (mI A 247 j = a)))))) := by
  refine pro "CavershamShift$Talk" G rfl rfl (Nat.le_of_ble_eq_true rfl) (fun p e s m below meth c ls X w hnm hl => ?_)
  have hx := X.1
  have hb := X.2.1
  have hown := X.2.2.2.1
  have hts := X.2.2.2.2.1
  have hl : lv_has ls 2 [(0, .ref (gG S 9 j)), (1, .int a)] := hl
  have ha2 : ¬ (-1 : Int32) = a := fun z => ha z.symm
  refine lv_aload_n hx hb dX9_hasReportThatStands_0 rfl (lv_at hl 0 rfl) ?_
  rcases hA.rp j hj with ⟨her1, hur1, hzr1, hwr1, hsr1⟩ | ⟨her1, hvr1, hur1, hwr1⟩
  · refine g_9_8 (S := S) (x := none) X w (h.e_ta j hj).2 wF_X9_41 (her1) dX9_hasReportThatStands_1 ?_
    refine lv_ifnullN (tgt := 22) hx hb dX9_hasReportThatStands_4 (by decide) ?_
    refine lv_iconst (v := 0) hx hb dX9_hasReportThatStands_22 (by decide) ?_
    exact rZ X w rfl dX9_hasReportThatStands_23 (by decide) (by decide) (by decide) (pu_i (by simp_all [b2i]))
  · refine g_9_8 (S := S) (x := (some (gG S 6 j))) X w (h.e_ta j hj).2 wF_X9_41 (her1) dX9_hasReportThatStands_1 ?_
    refine lv_ifnull hx hb dX9_hasReportThatStands_4 ?_
    refine lv_aload_n hx hb dX9_hasReportThatStands_7 rfl (lv_at hl 0 rfl) ?_
    refine g_9_8 (S := S) (x := (some (gG S 6 j))) X w (h.e_ta j hj).2 wF_X9_41 (her1) dX9_hasReportThatStands_8 ?_
    refine g_6_8 (S := S) (x := (mI A 247 j)) X w hvr1 wF_X9_45 ((hwr1).2.2.2.2.2.2.2.2.1) dX9_hasReportThatStands_11 ?_
    refine lv_iload_n hx hb dX9_hasReportThatStands_14 rfl (lv_at hl 1 rfl) ?_
    refine lv_icmp_ne (tgt := 22) hx hb dX9_hasReportThatStands_15 (by decide) (fun hc2 => ?_) (fun hc2 => ?_)
    · refine lv_iconst (v := 0) hx hb dX9_hasReportThatStands_22 (by decide) ?_
      exact rZ X w rfl dX9_hasReportThatStands_23 (by decide) (by decide) (by decide) (pu_i (by simp_all [b2i]))
    · refine lv_iconst (v := 1) hx hb dX9_hasReportThatStands_18 (by decide) ?_
      refine lv_goto (tgt := 23) hx hb dX9_hasReportThatStands_19 (by decide) ?_
      exact rZ X w rfl dX9_hasReportThatStands_23 (by decide) (by decide) (by decide) (pu_i (by simp_all [b2i]))

abbrev rm_a_X6_formulas : Room := { frames := 0, cells := 0, slots := 0, locals := 0 }
set_option maxHeartbeats 4000000 in
set_option maxRecDepth 100000 in
theorem a_X6_formulas {s0 : State} {l : Launch} {D : va_G} {cy : Nat → ClassId} (G : Gl s0 l D cy) (S : HS) (ea ns nj nm nt nr nc : Nat) (h : CI ea S ns nj nm nt nr nc) (A : HS) (hA : RK S A ns nj nm nt nr nc) (j : Nat) (hv : vV S 6 j) (hf : RCf S A nr j) : Ctr s0 l D cy yX6_formulas cX6_formulas 1 (some .int) rm_a_X6_formulas S [.ref (gG S 6 j)] (PU S (some (.int (rAll (mI A 245 j) (mI A 248 j))))) := by
  refine pro "CavershamShift$Report" G rfl rfl (Nat.le_of_ble_eq_true rfl) (fun p e s m below meth c ls X w hnm hl => ?_)
  have hx := X.1
  have hb := X.2.1
  have hown := X.2.2.2.1
  have hts := X.2.2.2.2.1
  have hl : lv_has ls 1 [(0, .ref (gG S 6 j))] := hl
  refine lv_aload_n hx hb dX6_formulas_0 rfl (lv_at hl 0 rfl) ?_
  refine g_6_4 (S := S) (x := (rGuess (mI A 245 j) (mI A 248 j))) X w hv wF_X6_65 ((hf).2.2.2.2.1) dX6_formulas_1 ?_
  refine lv_iconst (v := (-1)) hx hb dX6_formulas_4 (by decide) ?_
  refine lv_icmp_ne (tgt := 15) hx hb dX6_formulas_5 (by decide) (fun hg5 => ?_) (fun hg5 => ?_)
  · refine lv_aload_n hx hb dX6_formulas_15 rfl (lv_at hl 0 rfl) ?_
    refine g_6_3 (S := S) (x := (rHeard (mI A 245 j) (mI A 248 j))) X w hv wF_X6_58 ((hf).2.2.2.1) dX6_formulas_16 ?_
    refine lv_iconst (v := 1) hx hb dX6_formulas_19 (by decide) ?_
    refine lv_aload_n hx hb dX6_formulas_20 rfl (lv_at hl 0 rfl) ?_
    refine g_6_4 (S := S) (x := (rGuess (mI A 245 j) (mI A 248 j))) X w hv wF_X6_65 ((hf).2.2.2.2.1) dX6_formulas_21 ?_
    refine lv_ishl hx hb dX6_formulas_24 ?_
    refine lv_ior hx hb dX6_formulas_25 ?_
    exact rI X w rfl dX6_formulas_26 (by decide) (by decide) (pu_i (by unfold rAll; first | (rw [if_neg hg5]; done) | (rw [if_pos hg5]; simp)))
  · refine lv_aload_n hx hb dX6_formulas_8 rfl (lv_at hl 0 rfl) ?_
    refine g_6_3 (S := S) (x := (rHeard (mI A 245 j) (mI A 248 j))) X w hv wF_X6_58 ((hf).2.2.2.1) dX6_formulas_9 ?_
    refine lv_goto (tgt := 26) hx hb dX6_formulas_12 (by decide) ?_
    exact rI X w rfl dX6_formulas_26 (by decide) (by decide) (pu_i (by unfold rAll; first | (rw [if_neg hg5]; done) | (rw [if_pos hg5]; simp)))

abbrev rm_a_X9_isInError : Room := { frames := 1, cells := 0, slots := 0, locals := 21 }
set_option maxHeartbeats 4000000 in
set_option maxRecDepth 100000 in
theorem a_X9_isInError {s0 : State} {l : Launch} {D : va_G} {cy : Nat → ClassId} (G : Gl s0 l D cy) (S : HS) (ea ns nj nm nt nr nc : Nat) (h : CI ea S ns nj nm nt nr nc) (A : HS) (hA : RK S A ns nj nm nt nr nc) (j : Nat) (hj : j < nt) : Ctr s0 l D cy yX9_isInError cX9_isInError 2 (some .boolean) rm_a_X9_isInError S [.ref (gG S 9 j)] (PU S (some (.int (b2i (rWrong (mI A 247 j) (mI A 246 j) (mI A 245 j) (mI A 248 j)))))) := by
  refine pro "CavershamShift$Talk" G rfl rfl (Nat.le_of_ble_eq_true rfl) (fun p e s m below meth c ls X w hnm hl => ?_)
  have hx := X.1
  have hb := X.2.1
  have hown := X.2.2.2.1
  have hts := X.2.2.2.2.1
  have hl : lv_has ls 2 [(0, .ref (gG S 9 j))] := hl
  have hm1 : ¬ (-1 : Int32) = 1 := by decide
  refine lv_aload_n hx hb dX9_isInError_0 rfl (lv_at hl 0 rfl) ?_
  rcases hA.rp j hj with ⟨her1, hur1, hzr1, hwr1, hsr1⟩ | ⟨her1, hvr1, hur1, hwr1⟩
  · refine g_9_8 (S := S) (x := none) X w (h.e_ta j hj).2 wF_X9_41 (her1) dX9_isInError_1 ?_
    refine lv_ifnullN (tgt := 26) hx hb dX9_isInError_4 (by decide) ?_
    refine lv_iconst (v := 0) hx hb dX9_isInError_26 (by decide) ?_
    exact rZ X w rfl dX9_isInError_27 (by decide) (by decide) (by decide) (pu_i (by simp_all [rWrong, b2i]))
  · refine g_9_8 (S := S) (x := (some (gG S 6 j))) X w (h.e_ta j hj).2 wF_X9_41 (her1) dX9_isInError_1 ?_
    refine lv_ifnull hx hb dX9_isInError_4 ?_
    refine lv_aload_n hx hb dX9_isInError_7 rfl (lv_at hl 0 rfl) ?_
    refine g_9_8 (S := S) (x := (some (gG S 6 j))) X w (h.e_ta j hj).2 wF_X9_41 (her1) dX9_isInError_8 ?_
    refine g_6_8 (S := S) (x := (mI A 247 j)) X w hvr1 wF_X9_45 ((hwr1).2.2.2.2.2.2.2.2.1) dX9_isInError_11 ?_
    refine lv_iconst (v := 1) hx hb dX9_isInError_14 (by decide) ?_
    refine lv_icmp_ne (tgt := 26) hx hb dX9_isInError_15 (by decide) (fun hc2 => ?_) (fun hc2 => ?_)
    · refine lv_iconst (v := 0) hx hb dX9_isInError_26 (by decide) ?_
      exact rZ X w rfl dX9_isInError_27 (by decide) (by decide) (by decide) (pu_i (by simp_all [rWrong, b2i]))
    · refine lv_aload_n hx hb dX9_isInError_18 rfl (lv_at hl 0 rfl) ?_
      refine g_9_7 (S := S) (x := (mI A 246 j)) X w (h.e_ta j hj).2 wF_X9_9 (hA.pr j hj) dX9_isInError_19 ?_
      refine lv_iconst (v := (-1)) hx hb dX9_isInError_22 (by decide) ?_
      refine lv_icmp_ne (tgt := 28) hx hb dX9_isInError_23 (by decide) (fun hc3 => ?_) (fun hc3 => ?_)
      · refine lv_aload_n hx hb dX9_isInError_28 rfl (lv_at hl 0 rfl) ?_
        refine g_9_8 (S := S) (x := (some (gG S 6 j))) X w (h.e_ta j hj).2 wF_X9_41 (her1) dX9_isInError_29 ?_
        refine g_6_4 (S := S) (x := (rGuess (mI A 245 j) (mI A 248 j))) X w hvr1 wF_X9_50 ((hwr1).2.2.2.2.1) dX9_isInError_32 ?_
        refine lv_iconst (v := (-1)) hx hb dX9_isInError_35 (by decide) ?_
        refine lv_icmp_eq (tgt := 60) hx hb dX9_isInError_36 (by decide) (fun hc4 => ?_) (fun hc4 => ?_)
        · refine lv_iconst (v := 0) hx hb dX9_isInError_60 (by decide) ?_
          refine lv_istore_n (lv' := [(1, .int 0), (0, .ref (gG S 9 j))]) hx hb dX9_isInError_61 rfl hl (by decide) rfl (fun ls hl => ?_)
          refine lv_iload_n hx hb dX9_isInError_62 rfl (lv_at hl 0 rfl) ?_
          refine lv_if_ne (tgt := 83) hx hb dX9_isInError_63 (by decide) (fun hc5 => ?_) (fun hc5 => ?_)
          · exact absurd hc5 (by decide)
          · refine lv_aload_n hx hb dX9_isInError_66 rfl (lv_at hl 1 rfl) ?_
            refine g_9_7 (S := S) (x := (mI A 246 j)) X w (h.e_ta j hj).2 wF_X9_9 (hA.pr j hj) dX9_isInError_67 ?_
            refine lv_aload_n hx hb dX9_isInError_70 rfl (lv_at hl 1 rfl) ?_
            refine g_9_8 (S := S) (x := (some (gG S 6 j))) X w (h.e_ta j hj).2 wF_X9_41 (her1) dX9_isInError_71 ?_
            refine cV (S := S) (nA := 0) (As := []) (rest := [.int (mI A 246 j)]) X w hl hvr1 (a_X6_formulas G S ea ns nj nm nt nr nc h A hA j (by assumption) (by assumption)) wY_X6_formulas wM_X9_57 wIn_X6_formulas wSe_X6_X6_formulas wI_X6 (by decide) rfl (by decide +kernel) rfl rfl dX9_isInError_74 ⟨by decide, by decide⟩ (Nat.le_of_ble_eq_true rfl) (⟨Nat.le_of_ble_eq_true rfl, Nat.le_of_ble_eq_true rfl⟩) (fun v6 S1 H locs hp w => ?_)
            obtain ⟨rfl, rfl⟩ := hp
            refine lv_iconst (v := (-1)) hx hb dX9_isInError_77 (by decide) ?_
            refine lv_ixor hx hb dX9_isInError_78 ?_
            refine lv_iand hx hb dX9_isInError_79 ?_
            refine lv_if_eq (tgt := 87) hx hb dX9_isInError_80 (by decide) (fun hc7 => ?_) (fun hc7 => ?_)
            · refine lv_iconst (v := 0) hx hb dX9_isInError_87 (by decide) ?_
              exact rZ X w rfl dX9_isInError_88 (by decide) (by decide) (by decide) (pu_i (by simp_all [rWrong, b2i]))
            · refine lv_iconst (v := 1) hx hb dX9_isInError_83 (by decide) ?_
              refine lv_goto (tgt := 88) hx hb dX9_isInError_84 (by decide) ?_
              exact rZ X w rfl dX9_isInError_88 (by decide) (by decide) (by decide) (pu_i (by simp_all [rWrong, b2i]))
        · refine lv_aload_n hx hb dX9_isInError_39 rfl (lv_at hl 0 rfl) ?_
          refine g_9_7 (S := S) (x := (mI A 246 j)) X w (h.e_ta j hj).2 wF_X9_9 (hA.pr j hj) dX9_isInError_40 ?_
          refine lv_aload_n hx hb dX9_isInError_43 rfl (lv_at hl 0 rfl) ?_
          refine g_9_8 (S := S) (x := (some (gG S 6 j))) X w (h.e_ta j hj).2 wF_X9_41 (her1) dX9_isInError_44 ?_
          refine g_6_4 (S := S) (x := (rGuess (mI A 245 j) (mI A 248 j))) X w hvr1 wF_X9_50 ((hwr1).2.2.2.2.1) dX9_isInError_47 ?_
          refine cSN (S := S) (nA := 2) (As := [.int (mI A 246 j), .int (rGuess (mI A 245 j) (mI A 248 j))]) (rest := []) X w hl (m_X10_isIn G S (mI A 246 j) (rGuess (mI A 245 j) (mI A 248 j))) wY_X10_isIn wMN_X9_53 wSt_X10_isIn wI_X10 (by decide +kernel) rfl rfl dX9_isInError_50 ⟨by decide, by decide⟩ (Nat.le_of_ble_eq_true rfl) (⟨Nat.le_of_ble_eq_true rfl, Nat.le_of_ble_eq_true rfl⟩) (fun v8 S1 H locs hp w => ?_)
          obtain ⟨rfl, rfl⟩ := hp
          refine lv_if_ne (tgt := 60) hx hb dX9_isInError_53 (by decide) (fun hc9 => ?_) (fun hc9 => ?_)
          · refine lv_iconst (v := 0) hx hb dX9_isInError_60 (by decide) ?_
            refine lv_istore_n (lv' := [(1, .int 0), (0, .ref (gG S 9 j))]) hx hb dX9_isInError_61 rfl hl (by decide) rfl (fun ls hl => ?_)
            refine lv_iload_n hx hb dX9_isInError_62 rfl (lv_at hl 0 rfl) ?_
            refine lv_if_ne (tgt := 83) hx hb dX9_isInError_63 (by decide) (fun hc10 => ?_) (fun hc10 => ?_)
            · exact absurd hc10 (by decide)
            · refine lv_aload_n hx hb dX9_isInError_66 rfl (lv_at hl 1 rfl) ?_
              refine g_9_7 (S := S) (x := (mI A 246 j)) X w (h.e_ta j hj).2 wF_X9_9 (hA.pr j hj) dX9_isInError_67 ?_
              refine lv_aload_n hx hb dX9_isInError_70 rfl (lv_at hl 1 rfl) ?_
              refine g_9_8 (S := S) (x := (some (gG S 6 j))) X w (h.e_ta j hj).2 wF_X9_41 (her1) dX9_isInError_71 ?_
              refine cV (S := S) (nA := 0) (As := []) (rest := [.int (mI A 246 j)]) X w hl hvr1 (a_X6_formulas G S ea ns nj nm nt nr nc h A hA j (by assumption) (by assumption)) wY_X6_formulas wM_X9_57 wIn_X6_formulas wSe_X6_X6_formulas wI_X6 (by decide) rfl (by decide +kernel) rfl rfl dX9_isInError_74 ⟨by decide, by decide⟩ (Nat.le_of_ble_eq_true rfl) (⟨Nat.le_of_ble_eq_true rfl, Nat.le_of_ble_eq_true rfl⟩) (fun v11 S1 H locs hp w => ?_)
              obtain ⟨rfl, rfl⟩ := hp
              refine lv_iconst (v := (-1)) hx hb dX9_isInError_77 (by decide) ?_
              refine lv_ixor hx hb dX9_isInError_78 ?_
              refine lv_iand hx hb dX9_isInError_79 ?_
              refine lv_if_eq (tgt := 87) hx hb dX9_isInError_80 (by decide) (fun hc12 => ?_) (fun hc12 => ?_)
              · refine lv_iconst (v := 0) hx hb dX9_isInError_87 (by decide) ?_
                exact rZ X w rfl dX9_isInError_88 (by decide) (by decide) (by decide) (pu_i (by simp_all [rWrong, b2i]))
              · refine lv_iconst (v := 1) hx hb dX9_isInError_83 (by decide) ?_
                refine lv_goto (tgt := 88) hx hb dX9_isInError_84 (by decide) ?_
                exact rZ X w rfl dX9_isInError_88 (by decide) (by decide) (by decide) (pu_i (by simp_all [rWrong, b2i]))
          · refine lv_iconst (v := 1) hx hb dX9_isInError_56 (by decide) ?_
            refine lv_goto (tgt := 61) hx hb dX9_isInError_57 (by decide) ?_
            refine lv_istore_n (lv' := [(1, .int 1), (0, .ref (gG S 9 j))]) hx hb dX9_isInError_61 rfl hl (by decide) rfl (fun ls hl => ?_)
            refine lv_iload_n hx hb dX9_isInError_62 rfl (lv_at hl 0 rfl) ?_
            refine lv_if_ne (tgt := 83) hx hb dX9_isInError_63 (by decide) (fun hc13 => ?_) (fun hc13 => ?_)
            · refine lv_iconst (v := 1) hx hb dX9_isInError_83 (by decide) ?_
              refine lv_goto (tgt := 88) hx hb dX9_isInError_84 (by decide) ?_
              exact rZ X w rfl dX9_isInError_88 (by decide) (by decide) (by decide) (pu_i (by simp_all [rWrong, b2i]))
            · exact absurd hc13 (by decide)
      · refine lv_iconst (v := 0) hx hb dX9_isInError_26 (by decide) ?_
        exact rZ X w rfl dX9_isInError_27 (by decide) (by decide) (by decide) (pu_i (by simp_all [rWrong, b2i]))

abbrev rm_a_X9_isFor : Room := { frames := 1, cells := 0, slots := 0, locals := 21 }
set_option maxHeartbeats 4000000 in
set_option maxRecDepth 100000 in
theorem a_X9_isFor {s0 : State} {l : Launch} {D : va_G} {cy : Nat → ClassId} (G : Gl s0 l D cy) (S : HS) (ea ns nj nm nt nr nc : Nat) (h : CI ea S ns nj nm nt nr nc) (A : HS) (hA : RK S A ns nj nm nt nr nc) (j : Nat) (hj : j < nt) (r : Nat) (hr : r < nr) : Ctr s0 l D cy yX9_isFor cX9_isFor 2 (some .boolean) rm_a_X9_isFor S [.ref (gG S 9 j), .ref (gG S 5 r)] (PU S (some (.int (b2i (sIn (mI A 208 r) (mI A 226 (tS A j)) && sIn (mI A 209 r) (mI A 242 j)))))) := by
  refine pro "CavershamShift$Talk" G rfl rfl (Nat.le_of_ble_eq_true rfl) (fun p e s m below meth c ls X w hnm hl => ?_)
  have hx := X.1
  have hb := X.2.1
  have hown := X.2.2.2.1
  have hts := X.2.2.2.2.1
  have hl : lv_has ls 2 [(0, .ref (gG S 9 j)), (1, .ref (gG S 5 r))] := hl
  refine lv_aload_n hx hb dX9_isFor_0 rfl (lv_at hl 1 rfl) ?_
  refine g_5_1 (S := S) (x := (mI A 208 r)) X w (h.e_re r hr).2 wF_X9_60 ((hA.re r hr).1) dX9_isFor_1 ?_
  refine lv_aload_n hx hb dX9_isFor_4 rfl (lv_at hl 0 rfl) ?_
  refine g_9_1 (S := S) (x := (some (gG S 8 (tS A j)))) X w (h.e_ta j hj).2 wF_X9_18 ((hA.rc.tSx h.b_st hj).2.2) dX9_isFor_5 ?_
  refine g_8_4 (S := S) (x := (mI A 226 (tS A j))) X w (h.e_st (tS A j) (hA.rc.tSx h.b_st hj).1).2 wF_X9_65 ((hA.rc.1 (tS A j) (hA.rc.tSx h.b_st hj).1).2.2.2.1) dX9_isFor_8 ?_
  refine cSN (S := S) (nA := 2) (As := [.int (mI A 208 r), .int (mI A 226 (tS A j))]) (rest := []) X w hl (m_X10_isIn G S (mI A 208 r) (mI A 226 (tS A j))) wY_X10_isIn wMN_X9_53 wSt_X10_isIn wI_X10 (by decide +kernel) rfl rfl dX9_isFor_11 ⟨by decide, by decide⟩ (Nat.le_of_ble_eq_true rfl) (⟨Nat.le_of_ble_eq_true rfl, Nat.le_of_ble_eq_true rfl⟩) (fun v1 S1 H locs hp w => ?_)
  obtain ⟨rfl, rfl⟩ := hp
  refine lv_if_eq (tgt := 35) hx hb dX9_isFor_14 (by decide) (fun hc2 => ?_) (fun hc2 => ?_)
  · refine lv_iconst (v := 0) hx hb dX9_isFor_35 (by decide) ?_
    exact rZ X w rfl dX9_isFor_36 (by decide) (by decide) (by decide) (pu_i (by simp_all [b2i]))
  · refine lv_aload_n hx hb dX9_isFor_17 rfl (lv_at hl 1 rfl) ?_
    refine g_5_2 (S := S) (x := (mI A 209 r)) X w (h.e_re r hr).2 wF_X9_70 ((hA.re r hr).2) dX9_isFor_18 ?_
    refine lv_aload_n hx hb dX9_isFor_21 rfl (lv_at hl 0 rfl) ?_
    refine g_9_3 (S := S) (x := (mI A 242 j)) X w (h.e_ta j hj).2 wF_X9_25 ((hA.rc.2.2.2.1 j hj).2.2.1) dX9_isFor_22 ?_
    refine cSN (S := S) (nA := 2) (As := [.int (mI A 209 r), .int (mI A 242 j)]) (rest := []) X w hl (m_X10_isIn G S (mI A 209 r) (mI A 242 j)) wY_X10_isIn wMN_X9_53 wSt_X10_isIn wI_X10 (by decide +kernel) rfl rfl dX9_isFor_25 ⟨by decide, by decide⟩ (Nat.le_of_ble_eq_true rfl) (⟨Nat.le_of_ble_eq_true rfl, Nat.le_of_ble_eq_true rfl⟩) (fun v3 S1 H locs hp w => ?_)
    obtain ⟨rfl, rfl⟩ := hp
    refine lv_if_eq (tgt := 35) hx hb dX9_isFor_28 (by decide) (fun hc4 => ?_) (fun hc4 => ?_)
    · refine lv_iconst (v := 0) hx hb dX9_isFor_35 (by decide) ?_
      exact rZ X w rfl dX9_isFor_36 (by decide) (by decide) (by decide) (pu_i (by simp_all [b2i]))
    · refine lv_iconst (v := 1) hx hb dX9_isFor_31 (by decide) ?_
      refine lv_goto (tgt := 36) hx hb dX9_isFor_32 (by decide) ?_
      exact rZ X w rfl dX9_isFor_36 (by decide) (by decide) (by decide) (pu_i (by simp_all [b2i]))

abbrev rm_a_X9_reached : Room := { frames := 1, cells := 0, slots := 0, locals := 21 }
set_option maxHeartbeats 4000000 in
set_option maxRecDepth 100000 in
theorem a_X9_reached {s0 : State} {l : Launch} {D : va_G} {cy : Nat → ClassId} (G : Gl s0 l D cy) (S : HS) (ea ns nj nm nt nr nc : Nat) (h : CI ea S ns nj nm nt nr nc) (A : HS) (hA : RK S A ns nj nm nt nr nc) (j : Nat) (hj : j < nt) (r : Nat) (hr : r < nr) : Ctr s0 l D cy yX9_reached cX9_reached 2 (some .int) rm_a_X9_reached S [.ref (gG S 9 j), .ref (gG S 5 r)] (PU S (some (.int (mA A 35 r j)))) := by
  refine pro "CavershamShift$Talk" G rfl rfl (Nat.le_of_ble_eq_true rfl) (fun p e s m below meth c ls X w hnm hl => ?_)
  have hx := X.1
  have hb := X.2.1
  have hown := X.2.2.2.1
  have hts := X.2.2.2.2.1
  have hl : lv_has ls 2 [(0, .ref (gG S 9 j)), (1, .ref (gG S 5 r))] := hl
  refine lv_aload_n hx hb dX9_reached_0 rfl (lv_at hl 0 rfl) ?_
  rcases hA.rp j hj with ⟨her1, hur1, hzr1, hwr1, hsr1⟩ | ⟨her1, hvr1, hur1, hwr1⟩
  · refine g_9_8 (S := S) (x := none) X w (h.e_ta j hj).2 wF_X9_41 (her1) dX9_reached_1 ?_
    refine lv_ifnullN (tgt := 24) hx hb dX9_reached_4 (by decide) ?_
    refine lv_iconst (v := 0) hx hb dX9_reached_24 (by decide) ?_
    exact rI X w rfl dX9_reached_25 (by decide) (by decide) (by first | exact pu_i ((by assumption : ∀ r, r < nr → mA A 35 r j = 0) r hr) | exact pu_i (((by assumption : RCf S A nr j).2.2.2.2.2.2.2.2.2.2.2.2.1 r hr).trans (if_neg (by rw [b2i_f hq21]; decide))))
  · refine g_9_8 (S := S) (x := (some (gG S 6 j))) X w (h.e_ta j hj).2 wF_X9_41 (her1) dX9_reached_1 ?_
    refine lv_ifnull hx hb dX9_reached_4 ?_
    refine lv_aload_n hx hb dX9_reached_7 rfl (lv_at hl 0 rfl) ?_
    refine g_9_8 (S := S) (x := (some (gG S 6 j))) X w (h.e_ta j hj).2 wF_X9_41 (her1) dX9_reached_8 ?_
    refine g_6_12 (S := S) (x := (mI S 108 j)) X w hvr1 wF_X9_73 (rfl) dX9_reached_11 ?_
    refine lv_aload_n hx hb dX9_reached_14 rfl (lv_at hl 1 rfl) ?_
    refine g_5_0 (S := S) (x := (nI r)) X w (h.e_re r hr).2 wF_X9_76 (h.n_re r hr) dX9_reached_15 ?_
    refine cSN (S := S) (nA := 2) (As := [.int (mI S 108 j), .int (nI r)]) (rest := []) X w hl (m_X10_isIn G S (mI S 108 j) (nI r)) wY_X10_isIn wMN_X9_53 wSt_X10_isIn wI_X10 (by decide +kernel) rfl rfl dX9_reached_18 ⟨by decide, by decide⟩ (Nat.le_of_ble_eq_true rfl) (⟨Nat.le_of_ble_eq_true rfl, Nat.le_of_ble_eq_true rfl⟩) (fun v2 S1 H locs hp w => ?_)
    obtain ⟨rfl, rfl⟩ := hp
    refine lv_if_ne (tgt := 26) hx hb dX9_reached_21 (by decide) (fun hq21 => ?_) (fun hq21 => ?_)
    · refine lv_aload_n hx hb dX9_reached_26 rfl (lv_at hl 0 rfl) ?_
      refine g_9_8 (S := S) (x := (some (gG S 6 j))) X w (h.e_ta j hj).2 wF_X9_41 (her1) dX9_reached_27 ?_
      refine g_6_11 (S := S) (x := (mI A 253 j)) X w hvr1 wF_X9_77 ((hwr1).2.2.2.2.2.2.2.2.2.2.2.1) dX9_reached_30 ?_
      refine lv_iconst (v := 2) hx hb dX9_reached_33 (by decide) ?_
      refine lv_icmp_ne (tgt := 41) hx hb dX9_reached_34 (by decide) (fun hq34 => ?_) (fun hq34 => ?_)
      · refine lv_iconst (v := 1) hx hb dX9_reached_41 (by decide) ?_
        exact rI X w rfl dX9_reached_42 (by decide) (by decide) (pu_i (((by assumption : RCf S A nr j).2.2.2.2.2.2.2.2.2.2.2.2.1 r hr).trans (by rw [if_pos (b2i_t hq21)]; first | exact if_pos hq34 | exact if_neg hq34)))
      · refine lv_iconst (v := 2) hx hb dX9_reached_37 (by decide) ?_
        refine lv_goto (tgt := 42) hx hb dX9_reached_38 (by decide) ?_
        exact rI X w rfl dX9_reached_42 (by decide) (by decide) (pu_i (((by assumption : RCf S A nr j).2.2.2.2.2.2.2.2.2.2.2.2.1 r hr).trans (by rw [if_pos (b2i_t hq21)]; first | exact if_pos hq34 | exact if_neg hq34)))
    · refine lv_iconst (v := 0) hx hb dX9_reached_24 (by decide) ?_
      exact rI X w rfl dX9_reached_25 (by decide) (by decide) (by first | exact pu_i ((by assumption : ∀ r, r < nr → mA A 35 r j = 0) r hr) | exact pu_i (((by assumption : RCf S A nr j).2.2.2.2.2.2.2.2.2.2.2.2.1 r hr).trans (if_neg (by rw [b2i_f hq21]; decide))))

theorem old_eq {t g : Nat} (ht : t < 720) (hg : g ≤ 720) : (nI t + 24 ≤ nI g) ↔ (24 ≤ nI g - nI t) := by
  have e2 : (nI g - nI t).toInt = (g : Int) - t := by
    rw [Int32.toInt_sub, nI_toInt (by omega), nI_toInt (by omega)]
    exact Jvm.Kit.bmod32 (by omega) (by omega)
  have e3 : (24 : Int32).toInt = 24 := by decide
  rw [show (nI t + 24 : Int32) = nI (t + 24) from nI_add t 24, nI_leI (by omega) (by omega), Int32.le_iff_toInt_le, e2, e3]
  omega

abbrev rm_a_X4_isTooOld : Room := { frames := 0, cells := 0, slots := 0, locals := 0 }
set_option maxHeartbeats 4000000 in
set_option maxRecDepth 100000 in
theorem a_X4_isTooOld {s0 : State} {l : Launch} {D : va_G} {cy : Nat → ClassId} (G : Gl s0 l D cy) (S : HS) (ea ns nj nm nt nr nc : Nat) (h : CI ea S ns nj nm nt nr nc) (A : HS) (hA : RK S A ns nj nm nt nr nc) (j : Nat) (hj : j < nt) (g0 : Nat) (hg0 : g0 ≤ 720) : Ctr s0 l D cy yX4_isTooOld cX4_isTooOld 2 (some .boolean) rm_a_X4_isTooOld S [.ref (gG S 9 j), .int (nI g0)] (PU S (some (.int (b2i (decide (24 ≤ nI g0 - mI A 241 j)))))) := by
  refine pro "CavershamShift$Newsroom" G rfl rfl (Nat.le_of_ble_eq_true rfl) (fun p e s m below meth c ls X w hnm hl => ?_)
  have hx := X.1
  have hb := X.2.1
  have hown := X.2.2.2.1
  have hts := X.2.2.2.2.1
  have hl : lv_has ls 2 [(0, .ref (gG S 9 j)), (1, .int (nI g0))] := hl
  obtain ⟨t9, ht9, et9⟩ := (hA.ok.2.2.1 j hj).1
  have eo9 : (mI A 241 j + 24 ≤ nI g0) ↔ (24 ≤ nI g0 - mI A 241 j) := by rw [et9]; exact old_eq ht9 hg0
  refine lv_aload_n hx hb dX4_isTooOld_0 rfl (lv_at hl 0 rfl) ?_
  refine g_9_2 (S := S) (x := (mI A 241 j)) X w (h.e_ta j hj).2 wF_X4_48 ((hA.rc.2.2.2.1 j hj).2.1) dX4_isTooOld_1 ?_
  refine lv_bipush (v := 24) hx hb dX4_isTooOld_4 (by decide) ?_
  refine lv_iadd hx hb dX4_isTooOld_6 ?_
  refine lv_iload_n hx hb dX4_isTooOld_7 rfl (lv_at hl 1 rfl) ?_
  refine lv_icmp_gt (tgt := 15) hx hb dX4_isTooOld_8 (by decide) (fun hq8 => ?_) (fun hq8 => ?_)
  · refine lv_iconst (v := 0) hx hb dX4_isTooOld_15 (by decide) ?_
    exact rZ X w rfl dX4_isTooOld_16 (by decide) (by decide) (by decide) (pu_i (by first | (rw [decide_eq_true (eo9.mp (Int32.not_lt.mp hq8))]; rfl) | (rw [decide_eq_false (fun z => absurd (eo9.mpr z) (Int32.not_le.mpr hq8))]; rfl)))
  · refine lv_iconst (v := 1) hx hb dX4_isTooOld_11 (by decide) ?_
    refine lv_goto (tgt := 16) hx hb dX4_isTooOld_12 (by decide) ?_
    exact rZ X w rfl dX4_isTooOld_16 (by decide) (by decide) (by decide) (pu_i (by first | (rw [decide_eq_true (eo9.mp (Int32.not_lt.mp hq8))]; rfl) | (rw [decide_eq_false (fun z => absurd (eo9.mpr z) (Int32.not_le.mpr hq8))]; rfl)))

theorem cntB_c {p q : Nat → Bool} : ∀ n, (∀ k, k < n → p k = q k) → cntB p n = cntB q n
  | 0, _ => rfl
  | n + 1, h => by
    show cntB p n + (if p n = true then 1 else 0) = cntB q n + (if q n = true then 1 else 0)
    rw [cntB_c n (fun k hk => h k (Nat.lt_succ_of_lt hk)), h n (Nat.lt_succ_self n)]
theorem cntB_up {p p' : Nat → Bool} {j : Nat} (h1 : p j = false) (h2 : p' j = true) : ∀ n, j < n → (∀ k, k < n → ¬ k = j → p' k = p k) → cntB p' n = cntB p n + 1
  | 0, hj, _ => absurd hj (Nat.not_lt_zero j)
  | n + 1, hj, h => by
    show cntB p' n + (if p' n = true then 1 else 0) = cntB p n + (if p n = true then 1 else 0) + 1
    by_cases e : n = j
    · subst e
      rw [h1, h2, cntB_c n (fun k hk => h k (Nat.lt_succ_of_lt hk) (Nat.ne_of_lt hk)), if_pos rfl, if_neg (by decide)]
    · rw [cntB_up h1 h2 n (by omega) (fun k hk => h k (Nat.lt_succ_of_lt hk)), h n (Nat.lt_succ_self n) e]; omega
theorem cnt_y0 (p : Nat → Bool) {k : Nat} {x : Int32} (h : x = rCnt p k) (e : p k = false) : x = rCnt p (k + 1) := by rw [show rCnt p (k + 1) = rCnt p k + (if p k = true then 1 else 0) from rfl, e, if_neg (by decide), add0]; exact h
theorem rCnt_c {p q : Nat → Bool} : ∀ n, (∀ k, k < n → p k = q k) → rCnt p n = rCnt q n
  | 0, _ => rfl
  | n + 1, h => by
    show rCnt p n + (if p n = true then 1 else 0) = rCnt q n + (if q n = true then 1 else 0)
    rw [rCnt_c n (fun k hk => h k (Nat.lt_succ_of_lt hk)), h n (Nat.lt_succ_self n)]
theorem rTold_c {A : HS} {i : Nat} : ∀ n, rCnt (fun k => decide (mI A 240 k = nI i)) n = rTold A i n
  | 0 => rfl
  | n + 1 => by
    show rCnt (fun k => decide (mI A 240 k = nI i)) n + (if decide (mI A 240 n = nI i) = true then 1 else 0) = (if mI A 240 n = nI i then rTold A i n + 1 else rTold A i n)
    rw [rTold_c n]
    by_cases c : mI A 240 n = nI i
    · rw [if_pos (decide_eq_true c), if_pos c]
    · rw [if_neg (by rw [decide_eq_false c]; decide), if_neg c, add0]
theorem rRepd_c {A : HS} {i : Nat} : ∀ n, rCnt (fun k => decide (¬ mI A 247 k = -1) && decide (mI A 240 k = nI i)) n = rRepd A i n
  | 0 => rfl
  | n + 1 => by
    show rCnt _ n + (if (decide (¬ mI A 247 n = -1) && decide (mI A 240 n = nI i)) = true then 1 else 0) = (if mI A 240 n = nI i then rRepd A i n + (if mI A 247 n ≠ -1 then 1 else 0) else rRepd A i n)
    rw [rRepd_c n]
    by_cases c : mI A 240 n = nI i
    · by_cases c2 : mI A 247 n = -1
      · have e : decide (¬ mI A 247 n = -1) = false := decide_eq_false (fun z => z c2)
        rw [e, Bool.false_and, if_neg (by decide), if_pos c, if_neg (fun z => z c2)]
      · have e : decide (¬ mI A 247 n = -1) = true := decide_eq_true c2
        rw [e, decide_eq_true c, if_pos c, if_pos c2]; rfl
    · rw [if_neg c, decide_eq_false c, Bool.and_false, if_neg (by decide), add0]

abbrev rm_a_X4_countWaitingFor : Room := { frames := 3, cells := 0, slots := 0, locals := 64 }
set_option maxHeartbeats 4000000 in
set_option maxRecDepth 100000 in
theorem a_X4_countWaitingFor {s0 : State} {l : Launch} {D : va_G} {cy : Nat → ClassId} (G : Gl s0 l D cy) (S : HS) (ea ns nj nm nt nr nc : Nat) (h : CI ea S ns nj nm nt nr nc) (A : HS) (hA : RK S A ns nj nm nt nr nc) (r : Nat) (hr : r < nr) : Ctr s0 l D cy yX4_countWaitingFor cX4_countWaitingFor 5 (some .int) rm_a_X4_countWaitingFor S [.ref (gG S 4 0), .ref (gG S 5 r)] (PU S (some (.int (rCnt (fun k => decide (mI A 247 k = 0) && ((sIn (mI A 208 r) (mI A 226 (tS A k)) && sIn (mI A 209 r) (mI A 242 k)))) nt)))) := by
  refine pro "CavershamShift$Newsroom" G rfl rfl (Nat.le_of_ble_eq_true rfl) (fun p e s m below meth c ls X w hnm hl => ?_)
  have hx := X.1
  have hb := X.2.1
  have hown := X.2.2.2.1
  have hts := X.2.2.2.2.1
  have hl : lv_has ls 5 [(0, .ref (gG S 4 0)), (1, .ref (gG S 5 r))] := hl
  refine lv_iconst (v := 0) hx hb dX4_countWaitingFor_0 (by decide) ?_
  refine lv_istore_n (lv' := [(2, .int 0), (0, .ref (gG S 4 0)), (1, .ref (gG S 5 r))]) hx hb dX4_countWaitingFor_1 rfl hl (by decide) rfl (fun ls hl => ?_)
  refine lv_iconst (v := 0) hx hb dX4_countWaitingFor_2 (by decide) ?_
  refine lv_istore_n (lv' := [(3, .int 0), (2, .int 0), (0, .ref (gG S 4 0)), (1, .ref (gG S 5 r))]) hx hb dX4_countWaitingFor_3 rfl hl (by decide) rfl (fun ls hl => ?_)
  have L4 : ∀ (N : Nat) (k : Nat) (y : Int32) (H : Heap) (locs : List Loc) (ls : Array Slot), nt - k < N → (k ≤ nt) → (y = rCnt (fun k => decide (mI A 247 k = 0) && ((sIn (mI A 208 r) (mI A 226 (tS A k)) && sIn (mI A 209 r) (mI A 242 k)))) k) → Wd s0 D cy S s.heap H locs → lv_has ls 5 [(0, .ref (gG S 4 0)), (1, .ref (gG S 5 r)), (2, .int y), (3, .int (nI k))] → W p l e rm_a_X4_countWaitingFor s m ([.ref (gG S 4 0), .ref (gG S 5 r)] : List Value).toArray below meth c H locs 0 0 (MQ below (GQ s0 D cy (PU S (some (.int (rCnt (fun k => decide (mI A 247 k = 0) && ((sIn (mI A 208 r) (mI A 226 (tS A k)) && sIn (mI A 209 r) (mI A 242 k)))) nt))))) ([.ref (gG S 4 0), .ref (gG S 5 r)] : List Value).toArray s rm_a_X4_countWaitingFor.cells rm_a_X4_countWaitingFor.slots (A0 s0)) (F0 m 4 ls []) := by
    intro N
    induction N with
    | zero => intros; omega
    | succ N ih4 =>
      intro k y H locs ls hmu hk hy w hl
      refine lv_iload_n hx hb dX4_countWaitingFor_4 rfl (lv_at hl 3 rfl) ?_
      refine lv_aload_n hx hb dX4_countWaitingFor_5 rfl (lv_at hl 0 rfl) ?_
      refine g_4_0 (S := S) (x := (some (gG S 17 3))) X w h.v4 wF_X4_12 (h.f64) dX4_countWaitingFor_6 ?_
      refine cV (S := S) (nA := 0) (As := []) (rest := [.int (nI k)]) X w hl h.l_ta.1 (m_size G S ea 3 nt h.l_ta) wY_Jx4a65c_size_8abf5 wM_X4_28 wIn_Jx4a65c_size_8abf5 wSe_Jx4a65c_Jx4a65c_size_8abf5 wI_Jx4a65c (by decide) rfl (by decide +kernel) rfl rfl dX4_countWaitingFor_9 ⟨by decide, by decide⟩ (Nat.le_of_ble_eq_true rfl) (⟨Nat.le_of_ble_eq_true rfl, Nat.le_of_ble_eq_true rfl⟩) (fun v1 S1 H locs hp w => ?_)
      obtain ⟨rfl, rfl⟩ := hp
      refine lv_icmp_ge (tgt := 60) hx hb dX4_countWaitingFor_12 (by decide) (fun hsz => ?_) (fun hsz => ?_)
      · have hge : nt ≤ k := by
          have hb1 := h.b_ta
          exact (nI_leI (by omega) (by omega)).mp hsz
        refine lv_iload_n hx hb dX4_countWaitingFor_60 rfl (lv_at hl 2 rfl) ?_
        exact rI X w rfl dX4_countWaitingFor_61 (by decide) (by decide) (pu_i (by rw [hy, show k = nt by omega]))
      · have hlt : k < nt := by
          have hb1 := h.b_ta
          exact Nat.lt_of_not_le (fun z => hsz ((nI_leI (by omega) (by omega)).mpr z))
        refine lv_aload_n hx hb dX4_countWaitingFor_15 rfl (lv_at hl 0 rfl) ?_
        refine g_4_0 (S := S) (x := (some (gG S 17 3))) X w h.v4 wF_X4_12 (h.f64) dX4_countWaitingFor_16 ?_
        refine lv_iload_n hx hb dX4_countWaitingFor_19 rfl (lv_at hl 3 rfl) ?_
        refine cV (S := S) (nA := 1) (As := [.int (nI k)]) (rest := []) X w hl h.l_ta.1 (m_get G S ea 3 k nt (some (gG S 9 k)) h.l_ta hlt (h.e_ta k hlt).1) wY_Jx4a65c_get_915e3 wM_X4_36 wIn_Jx4a65c_get_915e3 wSe_Jx4a65c_Jx4a65c_get_915e3 wI_Jx4a65c (by decide) rfl (by decide +kernel) rfl rfl dX4_countWaitingFor_20 ⟨by decide, by decide⟩ (Nat.le_of_ble_eq_true rfl) (⟨Nat.le_of_ble_eq_true rfl, Nat.le_of_ble_eq_true rfl⟩) (fun v2 S1 H locs hp w => ?_)
        obtain ⟨rfl, rfl⟩ := hp
        refine ckC (S := S) (t := 9) X w (h.e_ta k hlt).2 (by decide) rfl wC_X4_40 dX4_countWaitingFor_23 ?_
        refine lv_astore (lv' := [(4, .ref (gG S 9 k)), (0, .ref (gG S 4 0)), (1, .ref (gG S 5 r)), (2, .int y), (3, .int (nI k))]) hx hb dX4_countWaitingFor_26 hl (by decide) rfl (fun ls hl => ?_)
        refine lv_iload_n hx hb dX4_countWaitingFor_28 rfl (lv_at hl 3 rfl) ?_
        refine lv_aload hx hb dX4_countWaitingFor_29 (lv_at hl 0 rfl) ?_
        refine lv_iconst (v := 0) hx hb dX4_countWaitingFor_31 (by decide) ?_
        refine cV (S := S) (nA := 1) (As := [.int 0]) (rest := [.int y]) X w hl (h.e_ta k hlt).2 (a_X9_hasReportThatStands G S ea ns nj nm nt nr nc h A hA k hlt 0 (by decide)) wY_X9_hasReportThatStands wM_X4_92 wIn_X9_hasReportThatStands wSe_X9_X9_hasReportThatStands wI_X9 (by decide) rfl (by decide +kernel) rfl rfl dX4_countWaitingFor_32 ⟨by decide, by decide⟩ (Nat.le_of_ble_eq_true rfl) (⟨Nat.le_of_ble_eq_true rfl, Nat.le_of_ble_eq_true rfl⟩) (fun v3 S1 H locs hp w => ?_)
        obtain ⟨rfl, rfl⟩ := hp
        refine lv_if_eq (tgt := 51) hx hb dX4_countWaitingFor_35 (by decide) (fun hv1 => ?_) (fun hv1 => ?_)
        · have t1 : decide (mI A 247 k = 0) = false := b2i_f hv1
          have hp : (fun k => decide (mI A 247 k = 0) && ((sIn (mI A 208 r) (mI A 226 (tS A k)) && sIn (mI A 209 r) (mI A 242 k)))) k = false := by show (decide (mI A 247 k = 0) && ((sIn (mI A 208 r) (mI A 226 (tS A k)) && sIn (mI A 209 r) (mI A 242 k)))) = false; rw [t1]; first | done | rfl
          have hs : y + 0 = rCnt (fun k => decide (mI A 247 k = 0) && ((sIn (mI A 208 r) (mI A 226 (tS A k)) && sIn (mI A 209 r) (mI A 242 k)))) (k + 1) := cnt_s0 (fun k => decide (mI A 247 k = 0) && ((sIn (mI A 208 r) (mI A 226 (tS A k)) && sIn (mI A 209 r) (mI A 242 k)))) hy hp
          refine lv_iconst (v := 0) hx hb dX4_countWaitingFor_51 (by decide) ?_
          refine lv_iadd hx hb dX4_countWaitingFor_52 ?_
          refine lv_istore_n (lv' := [(2, .int (y + 0)), (4, .ref (gG S 9 k)), (0, .ref (gG S 4 0)), (1, .ref (gG S 5 r)), (3, .int (nI k))]) hx hb dX4_countWaitingFor_53 rfl hl (by decide) rfl (fun ls hl => ?_)
          refine lv_iinc (v := nI (k + 1)) (lv' := [(3, .int (nI (k + 1))), (2, .int (y + 0)), (4, .ref (gG S 9 k)), (0, .ref (gG S 4 0)), (1, .ref (gG S 5 r))]) hx hb dX4_countWaitingFor_54 hl (k := 4) rfl (nI_1 _) (by decide) rfl (fun ls hl => ?_)
          refine lv_goto (tgt := 4) hx hb dX4_countWaitingFor_57 (by decide) ?_
          exact ih4 (k + 1) (y + 0) _ _ _ (by omega) (by omega) (hs) w (lv_sub hl [3, 4, 1, 0] rfl)
        · have t1 : decide (mI A 247 k = 0) = true := b2i_t hv1
          refine lv_aload hx hb dX4_countWaitingFor_38 (lv_at hl 0 rfl) ?_
          refine lv_aload_n hx hb dX4_countWaitingFor_40 rfl (lv_at hl 2 rfl) ?_
          refine cV (S := S) (nA := 1) (As := [.ref (gG S 5 r)]) (rest := [.int y]) X w hl (h.e_ta k hlt).2 (a_X9_isFor G S ea ns nj nm nt nr nc h A hA k hlt r hr) wY_X9_isFor wM_X4_112 wIn_X9_isFor wSe_X9_X9_isFor wI_X9 (by decide) rfl (by decide +kernel) rfl rfl dX4_countWaitingFor_41 ⟨by decide, by decide⟩ (Nat.le_of_ble_eq_true rfl) (⟨Nat.le_of_ble_eq_true rfl, Nat.le_of_ble_eq_true rfl⟩) (fun v4 S1 H locs hp w => ?_)
          obtain ⟨rfl, rfl⟩ := hp
          refine lv_if_eq (tgt := 51) hx hb dX4_countWaitingFor_44 (by decide) (fun hv2 => ?_) (fun hv2 => ?_)
          · have t2 : (sIn (mI A 208 r) (mI A 226 (tS A k)) && sIn (mI A 209 r) (mI A 242 k)) = false := b2i_f hv2
            have hp : (fun k => decide (mI A 247 k = 0) && ((sIn (mI A 208 r) (mI A 226 (tS A k)) && sIn (mI A 209 r) (mI A 242 k)))) k = false := by show (decide (mI A 247 k = 0) && ((sIn (mI A 208 r) (mI A 226 (tS A k)) && sIn (mI A 209 r) (mI A 242 k)))) = false; rw [t1, t2]; first | done | rfl
            have hs : y + 0 = rCnt (fun k => decide (mI A 247 k = 0) && ((sIn (mI A 208 r) (mI A 226 (tS A k)) && sIn (mI A 209 r) (mI A 242 k)))) (k + 1) := cnt_s0 (fun k => decide (mI A 247 k = 0) && ((sIn (mI A 208 r) (mI A 226 (tS A k)) && sIn (mI A 209 r) (mI A 242 k)))) hy hp
            refine lv_iconst (v := 0) hx hb dX4_countWaitingFor_51 (by decide) ?_
            refine lv_iadd hx hb dX4_countWaitingFor_52 ?_
            refine lv_istore_n (lv' := [(2, .int (y + 0)), (4, .ref (gG S 9 k)), (0, .ref (gG S 4 0)), (1, .ref (gG S 5 r)), (3, .int (nI k))]) hx hb dX4_countWaitingFor_53 rfl hl (by decide) rfl (fun ls hl => ?_)
            refine lv_iinc (v := nI (k + 1)) (lv' := [(3, .int (nI (k + 1))), (2, .int (y + 0)), (4, .ref (gG S 9 k)), (0, .ref (gG S 4 0)), (1, .ref (gG S 5 r))]) hx hb dX4_countWaitingFor_54 hl (k := 4) rfl (nI_1 _) (by decide) rfl (fun ls hl => ?_)
            refine lv_goto (tgt := 4) hx hb dX4_countWaitingFor_57 (by decide) ?_
            exact ih4 (k + 1) (y + 0) _ _ _ (by omega) (by omega) (hs) w (lv_sub hl [3, 4, 1, 0] rfl)
          · have t2 : (sIn (mI A 208 r) (mI A 226 (tS A k)) && sIn (mI A 209 r) (mI A 242 k)) = true := b2i_t hv2
            have hp : (fun k => decide (mI A 247 k = 0) && ((sIn (mI A 208 r) (mI A 226 (tS A k)) && sIn (mI A 209 r) (mI A 242 k)))) k = true := by show (decide (mI A 247 k = 0) && ((sIn (mI A 208 r) (mI A 226 (tS A k)) && sIn (mI A 209 r) (mI A 242 k)))) = true; rw [t1, t2]; first | done | rfl
            have hs : y + 1 = rCnt (fun k => decide (mI A 247 k = 0) && ((sIn (mI A 208 r) (mI A 226 (tS A k)) && sIn (mI A 209 r) (mI A 242 k)))) (k + 1) := cnt_s1 (fun k => decide (mI A 247 k = 0) && ((sIn (mI A 208 r) (mI A 226 (tS A k)) && sIn (mI A 209 r) (mI A 242 k)))) hy hp
            refine lv_iconst (v := 1) hx hb dX4_countWaitingFor_47 (by decide) ?_
            refine lv_goto (tgt := 52) hx hb dX4_countWaitingFor_48 (by decide) ?_
            refine lv_iadd hx hb dX4_countWaitingFor_52 ?_
            refine lv_istore_n (lv' := [(2, .int (y + 1)), (4, .ref (gG S 9 k)), (0, .ref (gG S 4 0)), (1, .ref (gG S 5 r)), (3, .int (nI k))]) hx hb dX4_countWaitingFor_53 rfl hl (by decide) rfl (fun ls hl => ?_)
            refine lv_iinc (v := nI (k + 1)) (lv' := [(3, .int (nI (k + 1))), (2, .int (y + 1)), (4, .ref (gG S 9 k)), (0, .ref (gG S 4 0)), (1, .ref (gG S 5 r))]) hx hb dX4_countWaitingFor_54 hl (k := 4) rfl (nI_1 _) (by decide) rfl (fun ls hl => ?_)
            refine lv_goto (tgt := 4) hx hb dX4_countWaitingFor_57 (by decide) ?_
            exact ih4 (k + 1) (y + 1) _ _ _ (by omega) (by omega) (hs) w (lv_sub hl [3, 4, 1, 0] rfl)
  exact L4 _ 0 0 _ _ _ (Nat.lt_succ_self _) (by omega) (rfl) w (lv_sub hl [2, 3, 1, 0] rfl)

abbrev rm_a_X4_countTalksOf : Room := { frames := 3, cells := 0, slots := 0, locals := 64 }
set_option maxHeartbeats 4000000 in
set_option maxRecDepth 100000 in
theorem a_X4_countTalksOf {s0 : State} {l : Launch} {D : va_G} {cy : Nat → ClassId} (G : Gl s0 l D cy) (S : HS) (ea ns nj nm nt nr nc : Nat) (h : CI ea S ns nj nm nt nr nc) (A : HS) (hA : RK S A ns nj nm nt nr nc) (i : Nat) (hi : i < ns) : Ctr s0 l D cy yX4_countTalksOf cX4_countTalksOf 4 (some .int) rm_a_X4_countTalksOf S [.ref (gG S 4 0), .ref (gG S 8 i)] (PU S (some (.int (rTold A i nt)))) := by
  refine pro "CavershamShift$Newsroom" G rfl rfl (Nat.le_of_ble_eq_true rfl) (fun p e s m below meth c ls X w hnm hl => ?_)
  have hx := X.1
  have hb := X.2.1
  have hown := X.2.2.2.1
  have hts := X.2.2.2.2.1
  have hl : lv_has ls 4 [(0, .ref (gG S 4 0)), (1, .ref (gG S 8 i))] := hl
  refine lv_iconst (v := 0) hx hb dX4_countTalksOf_0 (by decide) ?_
  refine lv_istore_n (lv' := [(2, .int 0), (0, .ref (gG S 4 0)), (1, .ref (gG S 8 i))]) hx hb dX4_countTalksOf_1 rfl hl (by decide) rfl (fun ls hl => ?_)
  refine lv_iconst (v := 0) hx hb dX4_countTalksOf_2 (by decide) ?_
  refine lv_istore_n (lv' := [(3, .int 0), (2, .int 0), (0, .ref (gG S 4 0)), (1, .ref (gG S 8 i))]) hx hb dX4_countTalksOf_3 rfl hl (by decide) rfl (fun ls hl => ?_)
  have L4 : ∀ (N : Nat) (k : Nat) (y : Int32) (H : Heap) (locs : List Loc) (ls : Array Slot), nt - k < N → (k ≤ nt) → (y = rCnt (fun k => decide (mI A 240 k = nI i)) k) → Wd s0 D cy S s.heap H locs → lv_has ls 4 [(0, .ref (gG S 4 0)), (1, .ref (gG S 8 i)), (2, .int y), (3, .int (nI k))] → W p l e rm_a_X4_countTalksOf s m ([.ref (gG S 4 0), .ref (gG S 8 i)] : List Value).toArray below meth c H locs 0 0 (MQ below (GQ s0 D cy (PU S (some (.int (rTold A i nt))))) ([.ref (gG S 4 0), .ref (gG S 8 i)] : List Value).toArray s rm_a_X4_countTalksOf.cells rm_a_X4_countTalksOf.slots (A0 s0)) (F0 m 4 ls []) := by
    intro N
    induction N with
    | zero => intros; omega
    | succ N ih4 =>
      intro k y H locs ls hmu hk hy w hl
      refine lv_iload_n hx hb dX4_countTalksOf_4 rfl (lv_at hl 3 rfl) ?_
      refine lv_aload_n hx hb dX4_countTalksOf_5 rfl (lv_at hl 0 rfl) ?_
      refine g_4_0 (S := S) (x := (some (gG S 17 3))) X w h.v4 wF_X4_12 (h.f64) dX4_countTalksOf_6 ?_
      refine cV (S := S) (nA := 0) (As := []) (rest := [.int (nI k)]) X w hl h.l_ta.1 (m_size G S ea 3 nt h.l_ta) wY_Jx4a65c_size_8abf5 wM_X4_28 wIn_Jx4a65c_size_8abf5 wSe_Jx4a65c_Jx4a65c_size_8abf5 wI_Jx4a65c (by decide) rfl (by decide +kernel) rfl rfl dX4_countTalksOf_9 ⟨by decide, by decide⟩ (Nat.le_of_ble_eq_true rfl) (⟨Nat.le_of_ble_eq_true rfl, Nat.le_of_ble_eq_true rfl⟩) (fun v1 S1 H locs hp w => ?_)
      obtain ⟨rfl, rfl⟩ := hp
      refine lv_icmp_ge (tgt := 47) hx hb dX4_countTalksOf_12 (by decide) (fun hsz => ?_) (fun hsz => ?_)
      · have hge : nt ≤ k := by
          have hb1 := h.b_ta
          exact (nI_leI (by omega) (by omega)).mp hsz
        refine lv_iload_n hx hb dX4_countTalksOf_47 rfl (lv_at hl 2 rfl) ?_
        exact rI X w rfl dX4_countTalksOf_48 (by decide) (by decide) (pu_i (by rw [hy, show k = nt by omega, rTold_c]))
      · have hlt : k < nt := by
          have hb1 := h.b_ta
          exact Nat.lt_of_not_le (fun z => hsz ((nI_leI (by omega) (by omega)).mpr z))
        refine lv_iload_n hx hb dX4_countTalksOf_15 rfl (lv_at hl 2 rfl) ?_
        refine lv_aload_n hx hb dX4_countTalksOf_16 rfl (lv_at hl 0 rfl) ?_
        refine g_4_0 (S := S) (x := (some (gG S 17 3))) X w h.v4 wF_X4_12 (h.f64) dX4_countTalksOf_17 ?_
        refine lv_iload_n hx hb dX4_countTalksOf_20 rfl (lv_at hl 3 rfl) ?_
        refine cV (S := S) (nA := 1) (As := [.int (nI k)]) (rest := [.int y]) X w hl h.l_ta.1 (m_get G S ea 3 k nt (some (gG S 9 k)) h.l_ta hlt (h.e_ta k hlt).1) wY_Jx4a65c_get_915e3 wM_X4_36 wIn_Jx4a65c_get_915e3 wSe_Jx4a65c_Jx4a65c_get_915e3 wI_Jx4a65c (by decide) rfl (by decide +kernel) rfl rfl dX4_countTalksOf_21 ⟨by decide, by decide⟩ (Nat.le_of_ble_eq_true rfl) (⟨Nat.le_of_ble_eq_true rfl, Nat.le_of_ble_eq_true rfl⟩) (fun v2 S1 H locs hp w => ?_)
        obtain ⟨rfl, rfl⟩ := hp
        refine ckC (S := S) (t := 9) X w (h.e_ta k hlt).2 (by decide) rfl wC_X4_40 dX4_countTalksOf_24 ?_
        refine g_9_1 (S := S) (x := (some (gG S 8 (tS A k)))) X w (h.e_ta k hlt).2 wF_X4_44 ((hA.rc.tSx h.b_st hlt).2.2) dX4_countTalksOf_27 ?_
        refine lv_aload_n hx hb dX4_countTalksOf_30 rfl (lv_at hl 1 rfl) ?_
        refine lv_acmp_ne (rx := (some (gG S 8 (tS A k)))) (ry := (some (gG S 8 i))) (tgt := 38) hx hb dX4_countTalksOf_31 (by decide) (fun hv1 => ?_) (fun hv1 => ?_)
        · skip
          have hts : tS A k < ns := (hA.rc.tSx h.b_st hlt).1
          have e240 : mI A 240 k = nI (tS A k) := (hA.rc.tSx h.b_st hlt).2.1
          have t1 : decide (mI A 240 k = nI i) = false := decide_eq_false (fun z => hv1 (by rw [show tS A k = i from (nI_eq (by have := h.b_st; omega) (by have := h.b_st; omega)).mp (e240.symm.trans z)]))
          have hp : (fun k => decide (mI A 240 k = nI i)) k = false := by show (decide (mI A 240 k = nI i)) = false; rw [t1]; first | done | rfl
          have hs : y + 0 = rCnt (fun k => decide (mI A 240 k = nI i)) (k + 1) := cnt_s0 (fun k => decide (mI A 240 k = nI i)) hy hp
          refine lv_iconst (v := 0) hx hb dX4_countTalksOf_38 (by decide) ?_
          refine lv_iadd hx hb dX4_countTalksOf_39 ?_
          refine lv_istore_n (lv' := [(2, .int (y + 0)), (0, .ref (gG S 4 0)), (1, .ref (gG S 8 i)), (3, .int (nI k))]) hx hb dX4_countTalksOf_40 rfl hl (by decide) rfl (fun ls hl => ?_)
          refine lv_iinc (v := nI (k + 1)) (lv' := [(3, .int (nI (k + 1))), (2, .int (y + 0)), (0, .ref (gG S 4 0)), (1, .ref (gG S 8 i))]) hx hb dX4_countTalksOf_41 hl (k := 3) rfl (nI_1 _) (by decide) rfl (fun ls hl => ?_)
          refine lv_goto (tgt := 4) hx hb dX4_countTalksOf_44 (by decide) ?_
          exact ih4 (k + 1) (y + 0) _ _ _ (by omega) (by omega) (hs) w (lv_sub hl [2, 3, 1, 0] rfl)
        · skip
          have hts : tS A k < ns := (hA.rc.tSx h.b_st hlt).1
          have e240 : mI A 240 k = nI (tS A k) := (hA.rc.tSx h.b_st hlt).2.1
          have t1 : decide (mI A 240 k = nI i) = true := decide_eq_true (by rw [e240, (w.1.2 8 (tS A k) 8 i (h.e_st _ hts).2 (h.e_st i hi).2 (Option.some.inj hv1)).2])
          have hp : (fun k => decide (mI A 240 k = nI i)) k = true := by show (decide (mI A 240 k = nI i)) = true; rw [t1]; first | done | rfl
          have hs : y + 1 = rCnt (fun k => decide (mI A 240 k = nI i)) (k + 1) := cnt_s1 (fun k => decide (mI A 240 k = nI i)) hy hp
          refine lv_iconst (v := 1) hx hb dX4_countTalksOf_34 (by decide) ?_
          refine lv_goto (tgt := 39) hx hb dX4_countTalksOf_35 (by decide) ?_
          refine lv_iadd hx hb dX4_countTalksOf_39 ?_
          refine lv_istore_n (lv' := [(2, .int (y + 1)), (0, .ref (gG S 4 0)), (1, .ref (gG S 8 i)), (3, .int (nI k))]) hx hb dX4_countTalksOf_40 rfl hl (by decide) rfl (fun ls hl => ?_)
          refine lv_iinc (v := nI (k + 1)) (lv' := [(3, .int (nI (k + 1))), (2, .int (y + 1)), (0, .ref (gG S 4 0)), (1, .ref (gG S 8 i))]) hx hb dX4_countTalksOf_41 hl (k := 3) rfl (nI_1 _) (by decide) rfl (fun ls hl => ?_)
          refine lv_goto (tgt := 4) hx hb dX4_countTalksOf_44 (by decide) ?_
          exact ih4 (k + 1) (y + 1) _ _ _ (by omega) (by omega) (hs) w (lv_sub hl [2, 3, 1, 0] rfl)
  exact L4 _ 0 0 _ _ _ (Nat.lt_succ_self _) (by omega) (rfl) w (lv_sub hl [2, 3, 1, 0] rfl)

abbrev rm_a_X4_countReportsOf : Room := { frames := 3, cells := 0, slots := 0, locals := 64 }
set_option maxHeartbeats 4000000 in
set_option maxRecDepth 100000 in
theorem a_X4_countReportsOf {s0 : State} {l : Launch} {D : va_G} {cy : Nat → ClassId} (G : Gl s0 l D cy) (S : HS) (ea ns nj nm nt nr nc : Nat) (h : CI ea S ns nj nm nt nr nc) (A : HS) (hA : RK S A ns nj nm nt nr nc) (i : Nat) (hi : i < ns) : Ctr s0 l D cy yX4_countReportsOf cX4_countReportsOf 5 (some .int) rm_a_X4_countReportsOf S [.ref (gG S 4 0), .ref (gG S 8 i)] (PU S (some (.int (rRepd A i nt)))) := by
  refine pro "CavershamShift$Newsroom" G rfl rfl (Nat.le_of_ble_eq_true rfl) (fun p e s m below meth c ls X w hnm hl => ?_)
  have hx := X.1
  have hb := X.2.1
  have hown := X.2.2.2.1
  have hts := X.2.2.2.2.1
  have hl : lv_has ls 5 [(0, .ref (gG S 4 0)), (1, .ref (gG S 8 i))] := hl
  refine lv_iconst (v := 0) hx hb dX4_countReportsOf_0 (by decide) ?_
  refine lv_istore_n (lv' := [(2, .int 0), (0, .ref (gG S 4 0)), (1, .ref (gG S 8 i))]) hx hb dX4_countReportsOf_1 rfl hl (by decide) rfl (fun ls hl => ?_)
  refine lv_iconst (v := 0) hx hb dX4_countReportsOf_2 (by decide) ?_
  refine lv_istore_n (lv' := [(3, .int 0), (2, .int 0), (0, .ref (gG S 4 0)), (1, .ref (gG S 8 i))]) hx hb dX4_countReportsOf_3 rfl hl (by decide) rfl (fun ls hl => ?_)
  have L4 : ∀ (N : Nat) (k : Nat) (y : Int32) (H : Heap) (locs : List Loc) (ls : Array Slot), nt - k < N → (k ≤ nt) → (y = rCnt (fun k => decide (¬ mI A 247 k = -1) && (decide (mI A 240 k = nI i))) k) → Wd s0 D cy S s.heap H locs → lv_has ls 5 [(0, .ref (gG S 4 0)), (1, .ref (gG S 8 i)), (2, .int y), (3, .int (nI k))] → W p l e rm_a_X4_countReportsOf s m ([.ref (gG S 4 0), .ref (gG S 8 i)] : List Value).toArray below meth c H locs 0 0 (MQ below (GQ s0 D cy (PU S (some (.int (rRepd A i nt))))) ([.ref (gG S 4 0), .ref (gG S 8 i)] : List Value).toArray s rm_a_X4_countReportsOf.cells rm_a_X4_countReportsOf.slots (A0 s0)) (F0 m 4 ls []) := by
    intro N
    induction N with
    | zero => intros; omega
    | succ N ih4 =>
      intro k y H locs ls hmu hk hy w hl
      refine lv_iload_n hx hb dX4_countReportsOf_4 rfl (lv_at hl 3 rfl) ?_
      refine lv_aload_n hx hb dX4_countReportsOf_5 rfl (lv_at hl 0 rfl) ?_
      refine g_4_0 (S := S) (x := (some (gG S 17 3))) X w h.v4 wF_X4_12 (h.f64) dX4_countReportsOf_6 ?_
      refine cV (S := S) (nA := 0) (As := []) (rest := [.int (nI k)]) X w hl h.l_ta.1 (m_size G S ea 3 nt h.l_ta) wY_Jx4a65c_size_8abf5 wM_X4_28 wIn_Jx4a65c_size_8abf5 wSe_Jx4a65c_Jx4a65c_size_8abf5 wI_Jx4a65c (by decide) rfl (by decide +kernel) rfl rfl dX4_countReportsOf_9 ⟨by decide, by decide⟩ (Nat.le_of_ble_eq_true rfl) (⟨Nat.le_of_ble_eq_true rfl, Nat.le_of_ble_eq_true rfl⟩) (fun v1 S1 H locs hp w => ?_)
      obtain ⟨rfl, rfl⟩ := hp
      refine lv_icmp_ge (tgt := 59) hx hb dX4_countReportsOf_12 (by decide) (fun hsz => ?_) (fun hsz => ?_)
      · have hge : nt ≤ k := by
          have hb1 := h.b_ta
          exact (nI_leI (by omega) (by omega)).mp hsz
        refine lv_iload_n hx hb dX4_countReportsOf_59 rfl (lv_at hl 2 rfl) ?_
        exact rI X w rfl dX4_countReportsOf_60 (by decide) (by decide) (pu_i (by rw [hy, show k = nt by omega, rRepd_c]))
      · have hlt : k < nt := by
          have hb1 := h.b_ta
          exact Nat.lt_of_not_le (fun z => hsz ((nI_leI (by omega) (by omega)).mpr z))
        refine lv_aload_n hx hb dX4_countReportsOf_15 rfl (lv_at hl 0 rfl) ?_
        refine g_4_0 (S := S) (x := (some (gG S 17 3))) X w h.v4 wF_X4_12 (h.f64) dX4_countReportsOf_16 ?_
        refine lv_iload_n hx hb dX4_countReportsOf_19 rfl (lv_at hl 3 rfl) ?_
        refine cV (S := S) (nA := 1) (As := [.int (nI k)]) (rest := []) X w hl h.l_ta.1 (m_get G S ea 3 k nt (some (gG S 9 k)) h.l_ta hlt (h.e_ta k hlt).1) wY_Jx4a65c_get_915e3 wM_X4_36 wIn_Jx4a65c_get_915e3 wSe_Jx4a65c_Jx4a65c_get_915e3 wI_Jx4a65c (by decide) rfl (by decide +kernel) rfl rfl dX4_countReportsOf_20 ⟨by decide, by decide⟩ (Nat.le_of_ble_eq_true rfl) (⟨Nat.le_of_ble_eq_true rfl, Nat.le_of_ble_eq_true rfl⟩) (fun v2 S1 H locs hp w => ?_)
        obtain ⟨rfl, rfl⟩ := hp
        refine ckC (S := S) (t := 9) X w (h.e_ta k hlt).2 (by decide) rfl wC_X4_40 dX4_countReportsOf_23 ?_
        refine lv_astore (lv' := [(4, .ref (gG S 9 k)), (0, .ref (gG S 4 0)), (1, .ref (gG S 8 i)), (2, .int y), (3, .int (nI k))]) hx hb dX4_countReportsOf_26 hl (by decide) rfl (fun ls hl => ?_)
        refine lv_iload_n hx hb dX4_countReportsOf_28 rfl (lv_at hl 3 rfl) ?_
        refine lv_aload hx hb dX4_countReportsOf_29 (lv_at hl 0 rfl) ?_
        rcases hA.rp k hlt with ⟨her3, hur3, hzr3, hwr3, hsr3⟩ | ⟨her3, hvr3, hur3, hwr3⟩
        · refine g_9_8 (S := S) (x := none) X w (h.e_ta k hlt).2 wF_X4_71 (her3) dX4_countReportsOf_31 ?_
          have t1 : decide (¬ mI A 247 k = -1) = false := decide_eq_false (fun z => z hur3)
          have hp : (fun k => decide (¬ mI A 247 k = -1) && (decide (mI A 240 k = nI i))) k = false := by show (decide (¬ mI A 247 k = -1) && (decide (mI A 240 k = nI i))) = false; rw [t1]; first | done | rfl
          have hs : y + 0 = rCnt (fun k => decide (¬ mI A 247 k = -1) && (decide (mI A 240 k = nI i))) (k + 1) := cnt_s0 (fun k => decide (¬ mI A 247 k = -1) && (decide (mI A 240 k = nI i))) hy hp
          refine lv_ifnullN (tgt := 50) hx hb dX4_countReportsOf_34 (by decide) ?_
          refine lv_iconst (v := 0) hx hb dX4_countReportsOf_50 (by decide) ?_
          refine lv_iadd hx hb dX4_countReportsOf_51 ?_
          refine lv_istore_n (lv' := [(2, .int (y + 0)), (4, .ref (gG S 9 k)), (0, .ref (gG S 4 0)), (1, .ref (gG S 8 i)), (3, .int (nI k))]) hx hb dX4_countReportsOf_52 rfl hl (by decide) rfl (fun ls hl => ?_)
          refine lv_iinc (v := nI (k + 1)) (lv' := [(3, .int (nI (k + 1))), (2, .int (y + 0)), (4, .ref (gG S 9 k)), (0, .ref (gG S 4 0)), (1, .ref (gG S 8 i))]) hx hb dX4_countReportsOf_53 hl (k := 4) rfl (nI_1 _) (by decide) rfl (fun ls hl => ?_)
          refine lv_goto (tgt := 4) hx hb dX4_countReportsOf_56 (by decide) ?_
          exact ih4 (k + 1) (y + 0) _ _ _ (by omega) (by omega) (hs) w (lv_sub hl [3, 4, 1, 0] rfl)
        · refine g_9_8 (S := S) (x := (some (gG S 6 k))) X w (h.e_ta k hlt).2 wF_X4_71 (her3) dX4_countReportsOf_31 ?_
          have t1 : decide (¬ mI A 247 k = -1) = true := decide_eq_true hur3
          refine lv_ifnull hx hb dX4_countReportsOf_34 ?_
          refine lv_aload hx hb dX4_countReportsOf_37 (lv_at hl 0 rfl) ?_
          refine g_9_1 (S := S) (x := (some (gG S 8 (tS A k)))) X w (h.e_ta k hlt).2 wF_X4_44 ((hA.rc.tSx h.b_st hlt).2.2) dX4_countReportsOf_39 ?_
          refine lv_aload_n hx hb dX4_countReportsOf_42 rfl (lv_at hl 2 rfl) ?_
          refine lv_acmp_ne (rx := (some (gG S 8 (tS A k)))) (ry := (some (gG S 8 i))) (tgt := 50) hx hb dX4_countReportsOf_43 (by decide) (fun hv2 => ?_) (fun hv2 => ?_)
          · skip
            have hts : tS A k < ns := (hA.rc.tSx h.b_st hlt).1
            have e240 : mI A 240 k = nI (tS A k) := (hA.rc.tSx h.b_st hlt).2.1
            have t2 : decide (mI A 240 k = nI i) = false := decide_eq_false (fun z => hv2 (by rw [show tS A k = i from (nI_eq (by have := h.b_st; omega) (by have := h.b_st; omega)).mp (e240.symm.trans z)]))
            have hp : (fun k => decide (¬ mI A 247 k = -1) && (decide (mI A 240 k = nI i))) k = false := by show (decide (¬ mI A 247 k = -1) && (decide (mI A 240 k = nI i))) = false; rw [t1, t2]; first | done | rfl
            have hs : y + 0 = rCnt (fun k => decide (¬ mI A 247 k = -1) && (decide (mI A 240 k = nI i))) (k + 1) := cnt_s0 (fun k => decide (¬ mI A 247 k = -1) && (decide (mI A 240 k = nI i))) hy hp
            refine lv_iconst (v := 0) hx hb dX4_countReportsOf_50 (by decide) ?_
            refine lv_iadd hx hb dX4_countReportsOf_51 ?_
            refine lv_istore_n (lv' := [(2, .int (y + 0)), (4, .ref (gG S 9 k)), (0, .ref (gG S 4 0)), (1, .ref (gG S 8 i)), (3, .int (nI k))]) hx hb dX4_countReportsOf_52 rfl hl (by decide) rfl (fun ls hl => ?_)
            refine lv_iinc (v := nI (k + 1)) (lv' := [(3, .int (nI (k + 1))), (2, .int (y + 0)), (4, .ref (gG S 9 k)), (0, .ref (gG S 4 0)), (1, .ref (gG S 8 i))]) hx hb dX4_countReportsOf_53 hl (k := 4) rfl (nI_1 _) (by decide) rfl (fun ls hl => ?_)
            refine lv_goto (tgt := 4) hx hb dX4_countReportsOf_56 (by decide) ?_
            exact ih4 (k + 1) (y + 0) _ _ _ (by omega) (by omega) (hs) w (lv_sub hl [3, 4, 1, 0] rfl)
          · skip
            have hts : tS A k < ns := (hA.rc.tSx h.b_st hlt).1
            have e240 : mI A 240 k = nI (tS A k) := (hA.rc.tSx h.b_st hlt).2.1
            have t2 : decide (mI A 240 k = nI i) = true := decide_eq_true (by rw [e240, (w.1.2 8 (tS A k) 8 i (h.e_st _ hts).2 (h.e_st i hi).2 (Option.some.inj hv2)).2])
            have hp : (fun k => decide (¬ mI A 247 k = -1) && (decide (mI A 240 k = nI i))) k = true := by show (decide (¬ mI A 247 k = -1) && (decide (mI A 240 k = nI i))) = true; rw [t1, t2]; first | done | rfl
            have hs : y + 1 = rCnt (fun k => decide (¬ mI A 247 k = -1) && (decide (mI A 240 k = nI i))) (k + 1) := cnt_s1 (fun k => decide (¬ mI A 247 k = -1) && (decide (mI A 240 k = nI i))) hy hp
            refine lv_iconst (v := 1) hx hb dX4_countReportsOf_46 (by decide) ?_
            refine lv_goto (tgt := 51) hx hb dX4_countReportsOf_47 (by decide) ?_
            refine lv_iadd hx hb dX4_countReportsOf_51 ?_
            refine lv_istore_n (lv' := [(2, .int (y + 1)), (4, .ref (gG S 9 k)), (0, .ref (gG S 4 0)), (1, .ref (gG S 8 i)), (3, .int (nI k))]) hx hb dX4_countReportsOf_52 rfl hl (by decide) rfl (fun ls hl => ?_)
            refine lv_iinc (v := nI (k + 1)) (lv' := [(3, .int (nI (k + 1))), (2, .int (y + 1)), (4, .ref (gG S 9 k)), (0, .ref (gG S 4 0)), (1, .ref (gG S 8 i))]) hx hb dX4_countReportsOf_53 hl (k := 4) rfl (nI_1 _) (by decide) rfl (fun ls hl => ?_)
            refine lv_goto (tgt := 4) hx hb dX4_countReportsOf_56 (by decide) ?_
            exact ih4 (k + 1) (y + 1) _ _ _ (by omega) (by omega) (hs) w (lv_sub hl [3, 4, 1, 0] rfl)
  exact L4 _ 0 0 _ _ _ (Nat.lt_succ_self _) (by omega) (rfl) w (lv_sub hl [2, 3, 1, 0] rfl)

abbrev rm_a_X4_countReportsBy : Room := { frames := 3, cells := 0, slots := 0, locals := 64 }
set_option maxHeartbeats 4000000 in
set_option maxRecDepth 100000 in
theorem a_X4_countReportsBy {s0 : State} {l : Launch} {D : va_G} {cy : Nat → ClassId} (G : Gl s0 l D cy) (S : HS) (ea ns nj nm nt nr nc : Nat) (h : CI ea S ns nj nm nt nr nc) (A : HS) (hA : RK S A ns nj nm nt nr nc) (mo : Nat) (hmo : mo < nm) : Ctr s0 l D cy yX4_countReportsBy cX4_countReportsBy 5 (some .int) rm_a_X4_countReportsBy S [.ref (gG S 4 0), .ref (gG S 3 mo)] (PU S (some (.int (rCnt (fun k => decide (¬ mI A 247 k = -1) && (decide (mI A 250 k = nI mo))) nt)))) := by
  refine pro "CavershamShift$Newsroom" G rfl rfl (Nat.le_of_ble_eq_true rfl) (fun p e s m below meth c ls X w hnm hl => ?_)
  have hx := X.1
  have hb := X.2.1
  have hown := X.2.2.2.1
  have hts := X.2.2.2.2.1
  have hl : lv_has ls 5 [(0, .ref (gG S 4 0)), (1, .ref (gG S 3 mo))] := hl
  refine lv_iconst (v := 0) hx hb dX4_countReportsBy_0 (by decide) ?_
  refine lv_istore_n (lv' := [(2, .int 0), (0, .ref (gG S 4 0)), (1, .ref (gG S 3 mo))]) hx hb dX4_countReportsBy_1 rfl hl (by decide) rfl (fun ls hl => ?_)
  refine lv_iconst (v := 0) hx hb dX4_countReportsBy_2 (by decide) ?_
  refine lv_istore_n (lv' := [(3, .int 0), (2, .int 0), (0, .ref (gG S 4 0)), (1, .ref (gG S 3 mo))]) hx hb dX4_countReportsBy_3 rfl hl (by decide) rfl (fun ls hl => ?_)
  have L4 : ∀ (N : Nat) (k : Nat) (y : Int32) (H : Heap) (locs : List Loc) (ls : Array Slot), nt - k < N → (k ≤ nt) → (y = rCnt (fun k => decide (¬ mI A 247 k = -1) && (decide (mI A 250 k = nI mo))) k) → Wd s0 D cy S s.heap H locs → lv_has ls 5 [(0, .ref (gG S 4 0)), (1, .ref (gG S 3 mo)), (2, .int y), (3, .int (nI k))] → W p l e rm_a_X4_countReportsBy s m ([.ref (gG S 4 0), .ref (gG S 3 mo)] : List Value).toArray below meth c H locs 0 0 (MQ below (GQ s0 D cy (PU S (some (.int (rCnt (fun k => decide (¬ mI A 247 k = -1) && (decide (mI A 250 k = nI mo))) nt))))) ([.ref (gG S 4 0), .ref (gG S 3 mo)] : List Value).toArray s rm_a_X4_countReportsBy.cells rm_a_X4_countReportsBy.slots (A0 s0)) (F0 m 4 ls []) := by
    intro N
    induction N with
    | zero => intros; omega
    | succ N ih4 =>
      intro k y H locs ls hmu hk hy w hl
      refine lv_iload_n hx hb dX4_countReportsBy_4 rfl (lv_at hl 3 rfl) ?_
      refine lv_aload_n hx hb dX4_countReportsBy_5 rfl (lv_at hl 0 rfl) ?_
      refine g_4_0 (S := S) (x := (some (gG S 17 3))) X w h.v4 wF_X4_12 (h.f64) dX4_countReportsBy_6 ?_
      refine cV (S := S) (nA := 0) (As := []) (rest := [.int (nI k)]) X w hl h.l_ta.1 (m_size G S ea 3 nt h.l_ta) wY_Jx4a65c_size_8abf5 wM_X4_28 wIn_Jx4a65c_size_8abf5 wSe_Jx4a65c_Jx4a65c_size_8abf5 wI_Jx4a65c (by decide) rfl (by decide +kernel) rfl rfl dX4_countReportsBy_9 ⟨by decide, by decide⟩ (Nat.le_of_ble_eq_true rfl) (⟨Nat.le_of_ble_eq_true rfl, Nat.le_of_ble_eq_true rfl⟩) (fun v1 S1 H locs hp w => ?_)
      obtain ⟨rfl, rfl⟩ := hp
      refine lv_icmp_ge (tgt := 62) hx hb dX4_countReportsBy_12 (by decide) (fun hsz => ?_) (fun hsz => ?_)
      · have hge : nt ≤ k := by
          have hb1 := h.b_ta
          exact (nI_leI (by omega) (by omega)).mp hsz
        refine lv_iload_n hx hb dX4_countReportsBy_62 rfl (lv_at hl 2 rfl) ?_
        exact rI X w rfl dX4_countReportsBy_63 (by decide) (by decide) (pu_i (by rw [hy, show k = nt by omega]))
      · have hlt : k < nt := by
          have hb1 := h.b_ta
          exact Nat.lt_of_not_le (fun z => hsz ((nI_leI (by omega) (by omega)).mpr z))
        refine lv_aload_n hx hb dX4_countReportsBy_15 rfl (lv_at hl 0 rfl) ?_
        refine g_4_0 (S := S) (x := (some (gG S 17 3))) X w h.v4 wF_X4_12 (h.f64) dX4_countReportsBy_16 ?_
        refine lv_iload_n hx hb dX4_countReportsBy_19 rfl (lv_at hl 3 rfl) ?_
        refine cV (S := S) (nA := 1) (As := [.int (nI k)]) (rest := []) X w hl h.l_ta.1 (m_get G S ea 3 k nt (some (gG S 9 k)) h.l_ta hlt (h.e_ta k hlt).1) wY_Jx4a65c_get_915e3 wM_X4_36 wIn_Jx4a65c_get_915e3 wSe_Jx4a65c_Jx4a65c_get_915e3 wI_Jx4a65c (by decide) rfl (by decide +kernel) rfl rfl dX4_countReportsBy_20 ⟨by decide, by decide⟩ (Nat.le_of_ble_eq_true rfl) (⟨Nat.le_of_ble_eq_true rfl, Nat.le_of_ble_eq_true rfl⟩) (fun v2 S1 H locs hp w => ?_)
        obtain ⟨rfl, rfl⟩ := hp
        refine ckC (S := S) (t := 9) X w (h.e_ta k hlt).2 (by decide) rfl wC_X4_40 dX4_countReportsBy_23 ?_
        rcases hA.rp k hlt with ⟨her3, hur3, hzr3, hwr3, hsr3⟩ | ⟨her3, hvr3, hur3, hwr3⟩
        · refine g_9_8 (S := S) (x := none) X w (h.e_ta k hlt).2 wF_X4_71 (her3) dX4_countReportsBy_26 ?_
          refine lv_astoreN (lv' := [(4, .null), (0, .ref (gG S 4 0)), (1, .ref (gG S 3 mo)), (2, .int y), (3, .int (nI k))]) hx hb dX4_countReportsBy_29 hl (by decide) rfl (fun ls hl => ?_)
          refine lv_iload_n hx hb dX4_countReportsBy_31 rfl (lv_at hl 3 rfl) ?_
          refine lv_aloadN hx hb dX4_countReportsBy_32 (lv_at hl 0 rfl) ?_
          have t1 : decide (¬ mI A 247 k = -1) = false := decide_eq_false (fun z => z hur3)
          have hp : (fun k => decide (¬ mI A 247 k = -1) && (decide (mI A 250 k = nI mo))) k = false := by show (decide (¬ mI A 247 k = -1) && (decide (mI A 250 k = nI mo))) = false; rw [t1]; first | done | rfl
          have hs : y + 0 = rCnt (fun k => decide (¬ mI A 247 k = -1) && (decide (mI A 250 k = nI mo))) (k + 1) := cnt_s0 (fun k => decide (¬ mI A 247 k = -1) && (decide (mI A 250 k = nI mo))) hy hp
          refine lv_ifnullN (tgt := 53) hx hb dX4_countReportsBy_34 (by decide) ?_
          refine lv_iconst (v := 0) hx hb dX4_countReportsBy_53 (by decide) ?_
          refine lv_iadd hx hb dX4_countReportsBy_54 ?_
          refine lv_istore_n (lv' := [(2, .int (y + 0)), (4, .null), (0, .ref (gG S 4 0)), (1, .ref (gG S 3 mo)), (3, .int (nI k))]) hx hb dX4_countReportsBy_55 rfl hl (by decide) rfl (fun ls hl => ?_)
          refine lv_iinc (v := nI (k + 1)) (lv' := [(3, .int (nI (k + 1))), (2, .int (y + 0)), (4, .null), (0, .ref (gG S 4 0)), (1, .ref (gG S 3 mo))]) hx hb dX4_countReportsBy_56 hl (k := 4) rfl (nI_1 _) (by decide) rfl (fun ls hl => ?_)
          refine lv_goto (tgt := 4) hx hb dX4_countReportsBy_59 (by decide) ?_
          exact ih4 (k + 1) (y + 0) _ _ _ (by omega) (by omega) (hs) w (lv_sub hl [3, 4, 1, 0] rfl)
        · refine g_9_8 (S := S) (x := (some (gG S 6 k))) X w (h.e_ta k hlt).2 wF_X4_71 (her3) dX4_countReportsBy_26 ?_
          refine lv_astore (lv' := [(4, .ref (gG S 6 k)), (0, .ref (gG S 4 0)), (1, .ref (gG S 3 mo)), (2, .int y), (3, .int (nI k))]) hx hb dX4_countReportsBy_29 hl (by decide) rfl (fun ls hl => ?_)
          refine lv_iload_n hx hb dX4_countReportsBy_31 rfl (lv_at hl 3 rfl) ?_
          refine lv_aload hx hb dX4_countReportsBy_32 (lv_at hl 0 rfl) ?_
          have t1 : decide (¬ mI A 247 k = -1) = true := decide_eq_true hur3
          refine lv_ifnull hx hb dX4_countReportsBy_34 ?_
          refine lv_aload hx hb dX4_countReportsBy_37 (lv_at hl 0 rfl) ?_
          refine g_6_6 (S := S) (x := (mI A 250 k)) X w hvr3 wF_X4_142 ((hwr3).2.2.2.2.2.2.1) dX4_countReportsBy_39 ?_
          refine lv_aload_n hx hb dX4_countReportsBy_42 rfl (lv_at hl 2 rfl) ?_
          refine g_3_0 (S := S) (x := (nI mo)) X w (h.e_mo mo hmo).2 wF_X4_145 (h.n_mo mo hmo) dX4_countReportsBy_43 ?_
          refine lv_icmp_ne (tgt := 53) hx hb dX4_countReportsBy_46 (by decide) (fun hv2 => ?_) (fun hv2 => ?_)
          · have t2 : decide (mI A 250 k = nI mo) = false := decide_eq_false hv2
            have hp : (fun k => decide (¬ mI A 247 k = -1) && (decide (mI A 250 k = nI mo))) k = false := by show (decide (¬ mI A 247 k = -1) && (decide (mI A 250 k = nI mo))) = false; rw [t1, t2]; first | done | rfl
            have hs : y + 0 = rCnt (fun k => decide (¬ mI A 247 k = -1) && (decide (mI A 250 k = nI mo))) (k + 1) := cnt_s0 (fun k => decide (¬ mI A 247 k = -1) && (decide (mI A 250 k = nI mo))) hy hp
            refine lv_iconst (v := 0) hx hb dX4_countReportsBy_53 (by decide) ?_
            refine lv_iadd hx hb dX4_countReportsBy_54 ?_
            refine lv_istore_n (lv' := [(2, .int (y + 0)), (4, .ref (gG S 6 k)), (0, .ref (gG S 4 0)), (1, .ref (gG S 3 mo)), (3, .int (nI k))]) hx hb dX4_countReportsBy_55 rfl hl (by decide) rfl (fun ls hl => ?_)
            refine lv_iinc (v := nI (k + 1)) (lv' := [(3, .int (nI (k + 1))), (2, .int (y + 0)), (4, .ref (gG S 6 k)), (0, .ref (gG S 4 0)), (1, .ref (gG S 3 mo))]) hx hb dX4_countReportsBy_56 hl (k := 4) rfl (nI_1 _) (by decide) rfl (fun ls hl => ?_)
            refine lv_goto (tgt := 4) hx hb dX4_countReportsBy_59 (by decide) ?_
            exact ih4 (k + 1) (y + 0) _ _ _ (by omega) (by omega) (hs) w (lv_sub hl [3, 4, 1, 0] rfl)
          · have t2 : decide (mI A 250 k = nI mo) = true := decide_eq_true hv2
            have hp : (fun k => decide (¬ mI A 247 k = -1) && (decide (mI A 250 k = nI mo))) k = true := by show (decide (¬ mI A 247 k = -1) && (decide (mI A 250 k = nI mo))) = true; rw [t1, t2]; first | done | rfl
            have hs : y + 1 = rCnt (fun k => decide (¬ mI A 247 k = -1) && (decide (mI A 250 k = nI mo))) (k + 1) := cnt_s1 (fun k => decide (¬ mI A 247 k = -1) && (decide (mI A 250 k = nI mo))) hy hp
            refine lv_iconst (v := 1) hx hb dX4_countReportsBy_49 (by decide) ?_
            refine lv_goto (tgt := 54) hx hb dX4_countReportsBy_50 (by decide) ?_
            refine lv_iadd hx hb dX4_countReportsBy_54 ?_
            refine lv_istore_n (lv' := [(2, .int (y + 1)), (4, .ref (gG S 6 k)), (0, .ref (gG S 4 0)), (1, .ref (gG S 3 mo)), (3, .int (nI k))]) hx hb dX4_countReportsBy_55 rfl hl (by decide) rfl (fun ls hl => ?_)
            refine lv_iinc (v := nI (k + 1)) (lv' := [(3, .int (nI (k + 1))), (2, .int (y + 1)), (4, .ref (gG S 6 k)), (0, .ref (gG S 4 0)), (1, .ref (gG S 3 mo))]) hx hb dX4_countReportsBy_56 hl (k := 4) rfl (nI_1 _) (by decide) rfl (fun ls hl => ?_)
            refine lv_goto (tgt := 4) hx hb dX4_countReportsBy_59 (by decide) ?_
            exact ih4 (k + 1) (y + 1) _ _ _ (by omega) (by omega) (hs) w (lv_sub hl [3, 4, 1, 0] rfl)
  exact L4 _ 0 0 _ _ _ (Nat.lt_succ_self _) (by omega) (rfl) w (lv_sub hl [2, 3, 1, 0] rfl)

abbrev rm_a_X4_countReports : Room := { frames := 3, cells := 0, slots := 0, locals := 64 }
set_option maxHeartbeats 4000000 in
set_option maxRecDepth 100000 in
theorem a_X4_countReports {s0 : State} {l : Launch} {D : va_G} {cy : Nat → ClassId} (G : Gl s0 l D cy) (S : HS) (ea ns nj nm nt nr nc : Nat) (h : CI ea S ns nj nm nt nr nc) (A : HS) (hA : RK S A ns nj nm nt nr nc)  : Ctr s0 l D cy yX4_countReports cX4_countReports 3 (some .int) rm_a_X4_countReports S [.ref (gG S 4 0)] (PU S (some (.int (rCnt (fun k => decide (¬ mI A 247 k = -1)) nt)))) := by
  refine pro "CavershamShift$Newsroom" G rfl rfl (Nat.le_of_ble_eq_true rfl) (fun p e s m below meth c ls X w hnm hl => ?_)
  have hx := X.1
  have hb := X.2.1
  have hown := X.2.2.2.1
  have hts := X.2.2.2.2.1
  have hl : lv_has ls 3 [(0, .ref (gG S 4 0))] := hl
  refine lv_iconst (v := 0) hx hb dX4_countReports_0 (by decide) ?_
  refine lv_istore_n (lv' := [(1, .int 0), (0, .ref (gG S 4 0))]) hx hb dX4_countReports_1 rfl hl (by decide) rfl (fun ls hl => ?_)
  refine lv_iconst (v := 0) hx hb dX4_countReports_2 (by decide) ?_
  refine lv_istore_n (lv' := [(2, .int 0), (1, .int 0), (0, .ref (gG S 4 0))]) hx hb dX4_countReports_3 rfl hl (by decide) rfl (fun ls hl => ?_)
  have L4 : ∀ (N : Nat) (k : Nat) (y : Int32) (H : Heap) (locs : List Loc) (ls : Array Slot), nt - k < N → (k ≤ nt) → (y = rCnt (fun k => decide (¬ mI A 247 k = -1)) k) → Wd s0 D cy S s.heap H locs → lv_has ls 3 [(0, .ref (gG S 4 0)), (1, .int y), (2, .int (nI k))] → W p l e rm_a_X4_countReports s m ([.ref (gG S 4 0)] : List Value).toArray below meth c H locs 0 0 (MQ below (GQ s0 D cy (PU S (some (.int (rCnt (fun k => decide (¬ mI A 247 k = -1)) nt))))) ([.ref (gG S 4 0)] : List Value).toArray s rm_a_X4_countReports.cells rm_a_X4_countReports.slots (A0 s0)) (F0 m 4 ls []) := by
    intro N
    induction N with
    | zero => intros; omega
    | succ N ih4 =>
      intro k y H locs ls hmu hk hy w hl
      refine lv_iload_n hx hb dX4_countReports_4 rfl (lv_at hl 2 rfl) ?_
      refine lv_aload_n hx hb dX4_countReports_5 rfl (lv_at hl 0 rfl) ?_
      refine g_4_0 (S := S) (x := (some (gG S 17 3))) X w h.v4 wF_X4_12 (h.f64) dX4_countReports_6 ?_
      refine cV (S := S) (nA := 0) (As := []) (rest := [.int (nI k)]) X w hl h.l_ta.1 (m_size G S ea 3 nt h.l_ta) wY_Jx4a65c_size_8abf5 wM_X4_28 wIn_Jx4a65c_size_8abf5 wSe_Jx4a65c_Jx4a65c_size_8abf5 wI_Jx4a65c (by decide) rfl (by decide +kernel) rfl rfl dX4_countReports_9 ⟨by decide, by decide⟩ (Nat.le_of_ble_eq_true rfl) (⟨Nat.le_of_ble_eq_true rfl, Nat.le_of_ble_eq_true rfl⟩) (fun v1 S1 H locs hp w => ?_)
      obtain ⟨rfl, rfl⟩ := hp
      refine lv_icmp_ge (tgt := 46) hx hb dX4_countReports_12 (by decide) (fun hsz => ?_) (fun hsz => ?_)
      · have hge : nt ≤ k := by
          have hb1 := h.b_ta
          exact (nI_leI (by omega) (by omega)).mp hsz
        refine lv_iload_n hx hb dX4_countReports_46 rfl (lv_at hl 1 rfl) ?_
        exact rI X w rfl dX4_countReports_47 (by decide) (by decide) (pu_i (by rw [hy, show k = nt by omega]))
      · have hlt : k < nt := by
          have hb1 := h.b_ta
          exact Nat.lt_of_not_le (fun z => hsz ((nI_leI (by omega) (by omega)).mpr z))
        refine lv_iload_n hx hb dX4_countReports_15 rfl (lv_at hl 1 rfl) ?_
        refine lv_aload_n hx hb dX4_countReports_16 rfl (lv_at hl 0 rfl) ?_
        refine g_4_0 (S := S) (x := (some (gG S 17 3))) X w h.v4 wF_X4_12 (h.f64) dX4_countReports_17 ?_
        refine lv_iload_n hx hb dX4_countReports_20 rfl (lv_at hl 2 rfl) ?_
        refine cV (S := S) (nA := 1) (As := [.int (nI k)]) (rest := [.int y]) X w hl h.l_ta.1 (m_get G S ea 3 k nt (some (gG S 9 k)) h.l_ta hlt (h.e_ta k hlt).1) wY_Jx4a65c_get_915e3 wM_X4_36 wIn_Jx4a65c_get_915e3 wSe_Jx4a65c_Jx4a65c_get_915e3 wI_Jx4a65c (by decide) rfl (by decide +kernel) rfl rfl dX4_countReports_21 ⟨by decide, by decide⟩ (Nat.le_of_ble_eq_true rfl) (⟨Nat.le_of_ble_eq_true rfl, Nat.le_of_ble_eq_true rfl⟩) (fun v2 S1 H locs hp w => ?_)
        obtain ⟨rfl, rfl⟩ := hp
        refine ckC (S := S) (t := 9) X w (h.e_ta k hlt).2 (by decide) rfl wC_X4_40 dX4_countReports_24 ?_
        rcases hA.rp k hlt with ⟨her3, hur3, hzr3, hwr3, hsr3⟩ | ⟨her3, hvr3, hur3, hwr3⟩
        · refine g_9_8 (S := S) (x := none) X w (h.e_ta k hlt).2 wF_X4_71 (her3) dX4_countReports_27 ?_
          have t1 : decide (¬ mI A 247 k = -1) = false := decide_eq_false (fun z => z hur3)
          have hp : (fun k => decide (¬ mI A 247 k = -1)) k = false := by show (decide (¬ mI A 247 k = -1)) = false; rw [t1]; first | done | rfl
          have hs : y + 0 = rCnt (fun k => decide (¬ mI A 247 k = -1)) (k + 1) := cnt_s0 (fun k => decide (¬ mI A 247 k = -1)) hy hp
          refine lv_ifnullN (tgt := 37) hx hb dX4_countReports_30 (by decide) ?_
          refine lv_iconst (v := 0) hx hb dX4_countReports_37 (by decide) ?_
          refine lv_iadd hx hb dX4_countReports_38 ?_
          refine lv_istore_n (lv' := [(1, .int (y + 0)), (0, .ref (gG S 4 0)), (2, .int (nI k))]) hx hb dX4_countReports_39 rfl hl (by decide) rfl (fun ls hl => ?_)
          refine lv_iinc (v := nI (k + 1)) (lv' := [(2, .int (nI (k + 1))), (1, .int (y + 0)), (0, .ref (gG S 4 0))]) hx hb dX4_countReports_40 hl (k := 2) rfl (nI_1 _) (by decide) rfl (fun ls hl => ?_)
          refine lv_goto (tgt := 4) hx hb dX4_countReports_43 (by decide) ?_
          exact ih4 (k + 1) (y + 0) _ _ _ (by omega) (by omega) (hs) w (lv_sub hl [2, 1, 0] rfl)
        · refine g_9_8 (S := S) (x := (some (gG S 6 k))) X w (h.e_ta k hlt).2 wF_X4_71 (her3) dX4_countReports_27 ?_
          have t1 : decide (¬ mI A 247 k = -1) = true := decide_eq_true hur3
          have hp : (fun k => decide (¬ mI A 247 k = -1)) k = true := by show (decide (¬ mI A 247 k = -1)) = true; rw [t1]; first | done | rfl
          have hs : y + 1 = rCnt (fun k => decide (¬ mI A 247 k = -1)) (k + 1) := cnt_s1 (fun k => decide (¬ mI A 247 k = -1)) hy hp
          refine lv_ifnull hx hb dX4_countReports_30 ?_
          refine lv_iconst (v := 1) hx hb dX4_countReports_33 (by decide) ?_
          refine lv_goto (tgt := 38) hx hb dX4_countReports_34 (by decide) ?_
          refine lv_iadd hx hb dX4_countReports_38 ?_
          refine lv_istore_n (lv' := [(1, .int (y + 1)), (0, .ref (gG S 4 0)), (2, .int (nI k))]) hx hb dX4_countReports_39 rfl hl (by decide) rfl (fun ls hl => ?_)
          refine lv_iinc (v := nI (k + 1)) (lv' := [(2, .int (nI (k + 1))), (1, .int (y + 1)), (0, .ref (gG S 4 0))]) hx hb dX4_countReports_40 hl (k := 2) rfl (nI_1 _) (by decide) rfl (fun ls hl => ?_)
          refine lv_goto (tgt := 4) hx hb dX4_countReports_43 (by decide) ?_
          exact ih4 (k + 1) (y + 1) _ _ _ (by omega) (by omega) (hs) w (lv_sub hl [2, 1, 0] rfl)
  exact L4 _ 0 0 _ _ _ (Nat.lt_succ_self _) (by omega) (rfl) w (lv_sub hl [2, 1, 0] rfl)

abbrev rm_a_X4_countThatStand : Room := { frames := 3, cells := 0, slots := 0, locals := 64 }
set_option maxHeartbeats 4000000 in
set_option maxRecDepth 100000 in
theorem a_X4_countThatStand {s0 : State} {l : Launch} {D : va_G} {cy : Nat → ClassId} (G : Gl s0 l D cy) (S : HS) (ea ns nj nm nt nr nc : Nat) (h : CI ea S ns nj nm nt nr nc) (A : HS) (hA : RK S A ns nj nm nt nr nc) (a : Int32) (ha : ¬ a = -1) : Ctr s0 l D cy yX4_countThatStand cX4_countThatStand 4 (some .int) rm_a_X4_countThatStand S [.ref (gG S 4 0), .int a] (PU S (some (.int (rCnt (fun k => decide (mI A 247 k = a)) nt)))) := by
  refine pro "CavershamShift$Newsroom" G rfl rfl (Nat.le_of_ble_eq_true rfl) (fun p e s m below meth c ls X w hnm hl => ?_)
  have hx := X.1
  have hb := X.2.1
  have hown := X.2.2.2.1
  have hts := X.2.2.2.2.1
  have hl : lv_has ls 4 [(0, .ref (gG S 4 0)), (1, .int a)] := hl
  refine lv_iconst (v := 0) hx hb dX4_countThatStand_0 (by decide) ?_
  refine lv_istore_n (lv' := [(2, .int 0), (0, .ref (gG S 4 0)), (1, .int a)]) hx hb dX4_countThatStand_1 rfl hl (by decide) rfl (fun ls hl => ?_)
  refine lv_iconst (v := 0) hx hb dX4_countThatStand_2 (by decide) ?_
  refine lv_istore_n (lv' := [(3, .int 0), (2, .int 0), (0, .ref (gG S 4 0)), (1, .int a)]) hx hb dX4_countThatStand_3 rfl hl (by decide) rfl (fun ls hl => ?_)
  have L4 : ∀ (N : Nat) (k : Nat) (y : Int32) (H : Heap) (locs : List Loc) (ls : Array Slot), nt - k < N → (k ≤ nt) → (y = rCnt (fun k => decide (mI A 247 k = a)) k) → Wd s0 D cy S s.heap H locs → lv_has ls 4 [(0, .ref (gG S 4 0)), (1, .int a), (2, .int y), (3, .int (nI k))] → W p l e rm_a_X4_countThatStand s m ([.ref (gG S 4 0), .int a] : List Value).toArray below meth c H locs 0 0 (MQ below (GQ s0 D cy (PU S (some (.int (rCnt (fun k => decide (mI A 247 k = a)) nt))))) ([.ref (gG S 4 0), .int a] : List Value).toArray s rm_a_X4_countThatStand.cells rm_a_X4_countThatStand.slots (A0 s0)) (F0 m 4 ls []) := by
    intro N
    induction N with
    | zero => intros; omega
    | succ N ih4 =>
      intro k y H locs ls hmu hk hy w hl
      refine lv_iload_n hx hb dX4_countThatStand_4 rfl (lv_at hl 3 rfl) ?_
      refine lv_aload_n hx hb dX4_countThatStand_5 rfl (lv_at hl 0 rfl) ?_
      refine g_4_0 (S := S) (x := (some (gG S 17 3))) X w h.v4 wF_X4_12 (h.f64) dX4_countThatStand_6 ?_
      refine cV (S := S) (nA := 0) (As := []) (rest := [.int (nI k)]) X w hl h.l_ta.1 (m_size G S ea 3 nt h.l_ta) wY_Jx4a65c_size_8abf5 wM_X4_28 wIn_Jx4a65c_size_8abf5 wSe_Jx4a65c_Jx4a65c_size_8abf5 wI_Jx4a65c (by decide) rfl (by decide +kernel) rfl rfl dX4_countThatStand_9 ⟨by decide, by decide⟩ (Nat.le_of_ble_eq_true rfl) (⟨Nat.le_of_ble_eq_true rfl, Nat.le_of_ble_eq_true rfl⟩) (fun v1 S1 H locs hp w => ?_)
      obtain ⟨rfl, rfl⟩ := hp
      refine lv_icmp_ge (tgt := 47) hx hb dX4_countThatStand_12 (by decide) (fun hsz => ?_) (fun hsz => ?_)
      · have hge : nt ≤ k := by
          have hb1 := h.b_ta
          exact (nI_leI (by omega) (by omega)).mp hsz
        refine lv_iload_n hx hb dX4_countThatStand_47 rfl (lv_at hl 2 rfl) ?_
        exact rI X w rfl dX4_countThatStand_48 (by decide) (by decide) (pu_i (by rw [hy, show k = nt by omega]))
      · have hlt : k < nt := by
          have hb1 := h.b_ta
          exact Nat.lt_of_not_le (fun z => hsz ((nI_leI (by omega) (by omega)).mpr z))
        refine lv_iload_n hx hb dX4_countThatStand_15 rfl (lv_at hl 2 rfl) ?_
        refine lv_aload_n hx hb dX4_countThatStand_16 rfl (lv_at hl 0 rfl) ?_
        refine g_4_0 (S := S) (x := (some (gG S 17 3))) X w h.v4 wF_X4_12 (h.f64) dX4_countThatStand_17 ?_
        refine lv_iload_n hx hb dX4_countThatStand_20 rfl (lv_at hl 3 rfl) ?_
        refine cV (S := S) (nA := 1) (As := [.int (nI k)]) (rest := [.int y]) X w hl h.l_ta.1 (m_get G S ea 3 k nt (some (gG S 9 k)) h.l_ta hlt (h.e_ta k hlt).1) wY_Jx4a65c_get_915e3 wM_X4_36 wIn_Jx4a65c_get_915e3 wSe_Jx4a65c_Jx4a65c_get_915e3 wI_Jx4a65c (by decide) rfl (by decide +kernel) rfl rfl dX4_countThatStand_21 ⟨by decide, by decide⟩ (Nat.le_of_ble_eq_true rfl) (⟨Nat.le_of_ble_eq_true rfl, Nat.le_of_ble_eq_true rfl⟩) (fun v2 S1 H locs hp w => ?_)
        obtain ⟨rfl, rfl⟩ := hp
        refine ckC (S := S) (t := 9) X w (h.e_ta k hlt).2 (by decide) rfl wC_X4_40 dX4_countThatStand_24 ?_
        refine lv_iload_n hx hb dX4_countThatStand_27 rfl (lv_at hl 1 rfl) ?_
        refine cV (S := S) (nA := 1) (As := [.int a]) (rest := [.int y]) X w hl (h.e_ta k hlt).2 (a_X9_hasReportThatStands G S ea ns nj nm nt nr nc h A hA k hlt a (ha)) wY_X9_hasReportThatStands wM_X4_92 wIn_X9_hasReportThatStands wSe_X9_X9_hasReportThatStands wI_X9 (by decide) rfl (by decide +kernel) rfl rfl dX4_countThatStand_28 ⟨by decide, by decide⟩ (Nat.le_of_ble_eq_true rfl) (⟨Nat.le_of_ble_eq_true rfl, Nat.le_of_ble_eq_true rfl⟩) (fun v3 S1 H locs hp w => ?_)
        obtain ⟨rfl, rfl⟩ := hp
        refine lv_if_eq (tgt := 38) hx hb dX4_countThatStand_31 (by decide) (fun hv1 => ?_) (fun hv1 => ?_)
        · have t1 : decide (mI A 247 k = a) = false := b2i_f hv1
          have hp : (fun k => decide (mI A 247 k = a)) k = false := by show (decide (mI A 247 k = a)) = false; rw [t1]; first | done | rfl
          have hs : y + 0 = rCnt (fun k => decide (mI A 247 k = a)) (k + 1) := cnt_s0 (fun k => decide (mI A 247 k = a)) hy hp
          refine lv_iconst (v := 0) hx hb dX4_countThatStand_38 (by decide) ?_
          refine lv_iadd hx hb dX4_countThatStand_39 ?_
          refine lv_istore_n (lv' := [(2, .int (y + 0)), (0, .ref (gG S 4 0)), (1, .int a), (3, .int (nI k))]) hx hb dX4_countThatStand_40 rfl hl (by decide) rfl (fun ls hl => ?_)
          refine lv_iinc (v := nI (k + 1)) (lv' := [(3, .int (nI (k + 1))), (2, .int (y + 0)), (0, .ref (gG S 4 0)), (1, .int a)]) hx hb dX4_countThatStand_41 hl (k := 3) rfl (nI_1 _) (by decide) rfl (fun ls hl => ?_)
          refine lv_goto (tgt := 4) hx hb dX4_countThatStand_44 (by decide) ?_
          exact ih4 (k + 1) (y + 0) _ _ _ (by omega) (by omega) (hs) w (lv_sub hl [2, 3, 1, 0] rfl)
        · have t1 : decide (mI A 247 k = a) = true := b2i_t hv1
          have hp : (fun k => decide (mI A 247 k = a)) k = true := by show (decide (mI A 247 k = a)) = true; rw [t1]; first | done | rfl
          have hs : y + 1 = rCnt (fun k => decide (mI A 247 k = a)) (k + 1) := cnt_s1 (fun k => decide (mI A 247 k = a)) hy hp
          refine lv_iconst (v := 1) hx hb dX4_countThatStand_34 (by decide) ?_
          refine lv_goto (tgt := 39) hx hb dX4_countThatStand_35 (by decide) ?_
          refine lv_iadd hx hb dX4_countThatStand_39 ?_
          refine lv_istore_n (lv' := [(2, .int (y + 1)), (0, .ref (gG S 4 0)), (1, .int a), (3, .int (nI k))]) hx hb dX4_countThatStand_40 rfl hl (by decide) rfl (fun ls hl => ?_)
          refine lv_iinc (v := nI (k + 1)) (lv' := [(3, .int (nI (k + 1))), (2, .int (y + 1)), (0, .ref (gG S 4 0)), (1, .int a)]) hx hb dX4_countThatStand_41 hl (k := 3) rfl (nI_1 _) (by decide) rfl (fun ls hl => ?_)
          refine lv_goto (tgt := 4) hx hb dX4_countThatStand_44 (by decide) ?_
          exact ih4 (k + 1) (y + 1) _ _ _ (by omega) (by omega) (hs) w (lv_sub hl [2, 3, 1, 0] rfl)
  exact L4 _ 0 0 _ _ _ (Nat.lt_succ_self _) (by omega) (rfl) w (lv_sub hl [2, 3, 1, 0] rfl)

abbrev rm_a_X4_countReached : Room := { frames := 3, cells := 0, slots := 0, locals := 64 }
set_option maxHeartbeats 4000000 in
set_option maxRecDepth 100000 in
theorem a_X4_countReached {s0 : State} {l : Launch} {D : va_G} {cy : Nat → ClassId} (G : Gl s0 l D cy) (S : HS) (ea ns nj nm nt nr nc : Nat) (h : CI ea S ns nj nm nt nr nc) (A : HS) (hA : RK S A ns nj nm nt nr nc) (r : Nat) (hr : r < nr) (a : Int32) : Ctr s0 l D cy yX4_countReached cX4_countReached 5 (some .int) rm_a_X4_countReached S [.ref (gG S 4 0), .ref (gG S 5 r), .int a] (PU S (some (.int (rCnt (fun k => decide (a ≤ mA A 35 r k)) nt)))) := by
  refine pro "CavershamShift$Newsroom" G rfl rfl (Nat.le_of_ble_eq_true rfl) (fun p e s m below meth c ls X w hnm hl => ?_)
  have hx := X.1
  have hb := X.2.1
  have hown := X.2.2.2.1
  have hts := X.2.2.2.2.1
  have hl : lv_has ls 5 [(0, .ref (gG S 4 0)), (1, .ref (gG S 5 r)), (2, .int a)] := hl
  refine lv_iconst (v := 0) hx hb dX4_countReached_0 (by decide) ?_
  refine lv_istore_n (lv' := [(3, .int 0), (0, .ref (gG S 4 0)), (1, .ref (gG S 5 r)), (2, .int a)]) hx hb dX4_countReached_1 rfl hl (by decide) rfl (fun ls hl => ?_)
  refine lv_iconst (v := 0) hx hb dX4_countReached_2 (by decide) ?_
  refine lv_istore (lv' := [(4, .int 0), (3, .int 0), (0, .ref (gG S 4 0)), (1, .ref (gG S 5 r)), (2, .int a)]) hx hb dX4_countReached_3 hl (by decide) rfl (fun ls hl => ?_)
  have L5 : ∀ (N : Nat) (k : Nat) (y : Int32) (H : Heap) (locs : List Loc) (ls : Array Slot), nt - k < N → (k ≤ nt) → (y = rCnt (fun k => decide (a ≤ mA A 35 r k)) k) → Wd s0 D cy S s.heap H locs → lv_has ls 5 [(0, .ref (gG S 4 0)), (1, .ref (gG S 5 r)), (2, .int a), (3, .int y), (4, .int (nI k))] → W p l e rm_a_X4_countReached s m ([.ref (gG S 4 0), .ref (gG S 5 r), .int a] : List Value).toArray below meth c H locs 0 0 (MQ below (GQ s0 D cy (PU S (some (.int (rCnt (fun k => decide (a ≤ mA A 35 r k)) nt))))) ([.ref (gG S 4 0), .ref (gG S 5 r), .int a] : List Value).toArray s rm_a_X4_countReached.cells rm_a_X4_countReached.slots (A0 s0)) (F0 m 5 ls []) := by
    intro N
    induction N with
    | zero => intros; omega
    | succ N ih5 =>
      intro k y H locs ls hmu hk hy w hl
      refine lv_iload hx hb dX4_countReached_5 (lv_at hl 4 rfl) ?_
      refine lv_aload_n hx hb dX4_countReached_7 rfl (lv_at hl 0 rfl) ?_
      refine g_4_0 (S := S) (x := (some (gG S 17 3))) X w h.v4 wF_X4_12 (h.f64) dX4_countReached_8 ?_
      refine cV (S := S) (nA := 0) (As := []) (rest := [.int (nI k)]) X w hl h.l_ta.1 (m_size G S ea 3 nt h.l_ta) wY_Jx4a65c_size_8abf5 wM_X4_28 wIn_Jx4a65c_size_8abf5 wSe_Jx4a65c_Jx4a65c_size_8abf5 wI_Jx4a65c (by decide) rfl (by decide +kernel) rfl rfl dX4_countReached_11 ⟨by decide, by decide⟩ (Nat.le_of_ble_eq_true rfl) (⟨Nat.le_of_ble_eq_true rfl, Nat.le_of_ble_eq_true rfl⟩) (fun v1 S1 H locs hp w => ?_)
      obtain ⟨rfl, rfl⟩ := hp
      refine lv_icmp_ge (tgt := 51) hx hb dX4_countReached_14 (by decide) (fun hsz => ?_) (fun hsz => ?_)
      · have hge : nt ≤ k := by
          have hb1 := h.b_ta
          exact (nI_leI (by omega) (by omega)).mp hsz
        refine lv_iload_n hx hb dX4_countReached_51 rfl (lv_at hl 3 rfl) ?_
        exact rI X w rfl dX4_countReached_52 (by decide) (by decide) (pu_i (by rw [hy, show k = nt by omega]))
      · have hlt : k < nt := by
          have hb1 := h.b_ta
          exact Nat.lt_of_not_le (fun z => hsz ((nI_leI (by omega) (by omega)).mpr z))
        refine lv_iload_n hx hb dX4_countReached_17 rfl (lv_at hl 3 rfl) ?_
        refine lv_aload_n hx hb dX4_countReached_18 rfl (lv_at hl 0 rfl) ?_
        refine g_4_0 (S := S) (x := (some (gG S 17 3))) X w h.v4 wF_X4_12 (h.f64) dX4_countReached_19 ?_
        refine lv_iload hx hb dX4_countReached_22 (lv_at hl 4 rfl) ?_
        refine cV (S := S) (nA := 1) (As := [.int (nI k)]) (rest := [.int y]) X w hl h.l_ta.1 (m_get G S ea 3 k nt (some (gG S 9 k)) h.l_ta hlt (h.e_ta k hlt).1) wY_Jx4a65c_get_915e3 wM_X4_36 wIn_Jx4a65c_get_915e3 wSe_Jx4a65c_Jx4a65c_get_915e3 wI_Jx4a65c (by decide) rfl (by decide +kernel) rfl rfl dX4_countReached_24 ⟨by decide, by decide⟩ (Nat.le_of_ble_eq_true rfl) (⟨Nat.le_of_ble_eq_true rfl, Nat.le_of_ble_eq_true rfl⟩) (fun v2 S1 H locs hp w => ?_)
        obtain ⟨rfl, rfl⟩ := hp
        refine ckC (S := S) (t := 9) X w (h.e_ta k hlt).2 (by decide) rfl wC_X4_40 dX4_countReached_27 ?_
        refine lv_aload_n hx hb dX4_countReached_30 rfl (lv_at hl 1 rfl) ?_
        refine cV (S := S) (nA := 1) (As := [.ref (gG S 5 r)]) (rest := [.int y]) X w hl (h.e_ta k hlt).2 (a_X9_reached G S ea ns nj nm nt nr nc h A hA k hlt r hr) wY_X9_reached wM_X4_150 wIn_X9_reached wSe_X9_X9_reached wI_X9 (by decide) rfl (by decide +kernel) rfl rfl dX4_countReached_31 ⟨by decide, by decide⟩ (Nat.le_of_ble_eq_true rfl) (⟨Nat.le_of_ble_eq_true rfl, Nat.le_of_ble_eq_true rfl⟩) (fun v3 S1 H locs hp w => ?_)
        obtain ⟨rfl, rfl⟩ := hp
        refine lv_iload_n hx hb dX4_countReached_34 rfl (lv_at hl 2 rfl) ?_
        refine lv_icmp_lt (tgt := 42) hx hb dX4_countReached_35 (by decide) (fun hv1 => ?_) (fun hv1 => ?_)
        · have t1 : decide (a ≤ mA A 35 r k) = false := decide_eq_false (fun z => Int32.lt_irrefl (Int32.lt_of_lt_of_le hv1 z))
          have hp : (fun k => decide (a ≤ mA A 35 r k)) k = false := by show (decide (a ≤ mA A 35 r k)) = false; rw [t1]; first | done | rfl
          have hs : y + 0 = rCnt (fun k => decide (a ≤ mA A 35 r k)) (k + 1) := cnt_s0 (fun k => decide (a ≤ mA A 35 r k)) hy hp
          refine lv_iconst (v := 0) hx hb dX4_countReached_42 (by decide) ?_
          refine lv_iadd hx hb dX4_countReached_43 ?_
          refine lv_istore_n (lv' := [(3, .int (y + 0)), (0, .ref (gG S 4 0)), (1, .ref (gG S 5 r)), (2, .int a), (4, .int (nI k))]) hx hb dX4_countReached_44 rfl hl (by decide) rfl (fun ls hl => ?_)
          refine lv_iinc (v := nI (k + 1)) (lv' := [(4, .int (nI (k + 1))), (3, .int (y + 0)), (0, .ref (gG S 4 0)), (1, .ref (gG S 5 r)), (2, .int a)]) hx hb dX4_countReached_45 hl (k := 4) rfl (nI_1 _) (by decide) rfl (fun ls hl => ?_)
          refine lv_goto (tgt := 5) hx hb dX4_countReached_48 (by decide) ?_
          exact ih5 (k + 1) (y + 0) _ _ _ (by omega) (by omega) (hs) w (lv_sub hl [2, 3, 4, 1, 0] rfl)
        · have t1 : decide (a ≤ mA A 35 r k) = true := decide_eq_true (Int32.not_lt.mp hv1)
          have hp : (fun k => decide (a ≤ mA A 35 r k)) k = true := by show (decide (a ≤ mA A 35 r k)) = true; rw [t1]; first | done | rfl
          have hs : y + 1 = rCnt (fun k => decide (a ≤ mA A 35 r k)) (k + 1) := cnt_s1 (fun k => decide (a ≤ mA A 35 r k)) hy hp
          refine lv_iconst (v := 1) hx hb dX4_countReached_38 (by decide) ?_
          refine lv_goto (tgt := 43) hx hb dX4_countReached_39 (by decide) ?_
          refine lv_iadd hx hb dX4_countReached_43 ?_
          refine lv_istore_n (lv' := [(3, .int (y + 1)), (0, .ref (gG S 4 0)), (1, .ref (gG S 5 r)), (2, .int a), (4, .int (nI k))]) hx hb dX4_countReached_44 rfl hl (by decide) rfl (fun ls hl => ?_)
          refine lv_iinc (v := nI (k + 1)) (lv' := [(4, .int (nI (k + 1))), (3, .int (y + 1)), (0, .ref (gG S 4 0)), (1, .ref (gG S 5 r)), (2, .int a)]) hx hb dX4_countReached_45 hl (k := 4) rfl (nI_1 _) (by decide) rfl (fun ls hl => ?_)
          refine lv_goto (tgt := 5) hx hb dX4_countReached_48 (by decide) ?_
          exact ih5 (k + 1) (y + 1) _ _ _ (by omega) (by omega) (hs) w (lv_sub hl [2, 3, 4, 1, 0] rfl)
  exact L5 _ 0 0 _ _ _ (Nat.lt_succ_self _) (by omega) (rfl) w (lv_sub hl [2, 3, 4, 1, 0] rfl)

abbrev rm_a_X4_countMisled : Room := { frames := 3, cells := 0, slots := 0, locals := 64 }
set_option maxHeartbeats 4000000 in
set_option maxRecDepth 100000 in
theorem a_X4_countMisled {s0 : State} {l : Launch} {D : va_G} {cy : Nat → ClassId} (G : Gl s0 l D cy) (S : HS) (ea ns nj nm nt nr nc : Nat) (h : CI ea S ns nj nm nt nr nc) (A : HS) (hA : RK S A ns nj nm nt nr nc) (r : Nat) (hr : r < nr) : Ctr s0 l D cy yX4_countMisled cX4_countMisled 5 (some .int) rm_a_X4_countMisled S [.ref (gG S 4 0), .ref (gG S 5 r)] (PU S (some (.int (rCnt (fun k => (rWrong (mI A 247 k) (mI A 246 k) (mI A 245 k) (mI A 248 k)) && (decide (mA A 35 r k = 1))) nt)))) := by
  refine pro "CavershamShift$Newsroom" G rfl rfl (Nat.le_of_ble_eq_true rfl) (fun p e s m below meth c ls X w hnm hl => ?_)
  have hx := X.1
  have hb := X.2.1
  have hown := X.2.2.2.1
  have hts := X.2.2.2.2.1
  have hl : lv_has ls 5 [(0, .ref (gG S 4 0)), (1, .ref (gG S 5 r))] := hl
  refine lv_iconst (v := 0) hx hb dX4_countMisled_0 (by decide) ?_
  refine lv_istore_n (lv' := [(2, .int 0), (0, .ref (gG S 4 0)), (1, .ref (gG S 5 r))]) hx hb dX4_countMisled_1 rfl hl (by decide) rfl (fun ls hl => ?_)
  refine lv_iconst (v := 0) hx hb dX4_countMisled_2 (by decide) ?_
  refine lv_istore_n (lv' := [(3, .int 0), (2, .int 0), (0, .ref (gG S 4 0)), (1, .ref (gG S 5 r))]) hx hb dX4_countMisled_3 rfl hl (by decide) rfl (fun ls hl => ?_)
  have L4 : ∀ (N : Nat) (k : Nat) (y : Int32) (H : Heap) (locs : List Loc) (ls : Array Slot), nt - k < N → (k ≤ nt) → (y = rCnt (fun k => (rWrong (mI A 247 k) (mI A 246 k) (mI A 245 k) (mI A 248 k)) && (decide (mA A 35 r k = 1))) k) → Wd s0 D cy S s.heap H locs → lv_has ls 5 [(0, .ref (gG S 4 0)), (1, .ref (gG S 5 r)), (2, .int y), (3, .int (nI k))] → W p l e rm_a_X4_countMisled s m ([.ref (gG S 4 0), .ref (gG S 5 r)] : List Value).toArray below meth c H locs 0 0 (MQ below (GQ s0 D cy (PU S (some (.int (rCnt (fun k => (rWrong (mI A 247 k) (mI A 246 k) (mI A 245 k) (mI A 248 k)) && (decide (mA A 35 r k = 1))) nt))))) ([.ref (gG S 4 0), .ref (gG S 5 r)] : List Value).toArray s rm_a_X4_countMisled.cells rm_a_X4_countMisled.slots (A0 s0)) (F0 m 4 ls []) := by
    intro N
    induction N with
    | zero => intros; omega
    | succ N ih4 =>
      intro k y H locs ls hmu hk hy w hl
      refine lv_iload_n hx hb dX4_countMisled_4 rfl (lv_at hl 3 rfl) ?_
      refine lv_aload_n hx hb dX4_countMisled_5 rfl (lv_at hl 0 rfl) ?_
      refine g_4_0 (S := S) (x := (some (gG S 17 3))) X w h.v4 wF_X4_12 (h.f64) dX4_countMisled_6 ?_
      refine cV (S := S) (nA := 0) (As := []) (rest := [.int (nI k)]) X w hl h.l_ta.1 (m_size G S ea 3 nt h.l_ta) wY_Jx4a65c_size_8abf5 wM_X4_28 wIn_Jx4a65c_size_8abf5 wSe_Jx4a65c_Jx4a65c_size_8abf5 wI_Jx4a65c (by decide) rfl (by decide +kernel) rfl rfl dX4_countMisled_9 ⟨by decide, by decide⟩ (Nat.le_of_ble_eq_true rfl) (⟨Nat.le_of_ble_eq_true rfl, Nat.le_of_ble_eq_true rfl⟩) (fun v1 S1 H locs hp w => ?_)
      obtain ⟨rfl, rfl⟩ := hp
      refine lv_icmp_ge (tgt := 60) hx hb dX4_countMisled_12 (by decide) (fun hsz => ?_) (fun hsz => ?_)
      · have hge : nt ≤ k := by
          have hb1 := h.b_ta
          exact (nI_leI (by omega) (by omega)).mp hsz
        refine lv_iload_n hx hb dX4_countMisled_60 rfl (lv_at hl 2 rfl) ?_
        exact rI X w rfl dX4_countMisled_61 (by decide) (by decide) (pu_i (by rw [hy, show k = nt by omega]))
      · have hlt : k < nt := by
          have hb1 := h.b_ta
          exact Nat.lt_of_not_le (fun z => hsz ((nI_leI (by omega) (by omega)).mpr z))
        refine lv_aload_n hx hb dX4_countMisled_15 rfl (lv_at hl 0 rfl) ?_
        refine g_4_0 (S := S) (x := (some (gG S 17 3))) X w h.v4 wF_X4_12 (h.f64) dX4_countMisled_16 ?_
        refine lv_iload_n hx hb dX4_countMisled_19 rfl (lv_at hl 3 rfl) ?_
        refine cV (S := S) (nA := 1) (As := [.int (nI k)]) (rest := []) X w hl h.l_ta.1 (m_get G S ea 3 k nt (some (gG S 9 k)) h.l_ta hlt (h.e_ta k hlt).1) wY_Jx4a65c_get_915e3 wM_X4_36 wIn_Jx4a65c_get_915e3 wSe_Jx4a65c_Jx4a65c_get_915e3 wI_Jx4a65c (by decide) rfl (by decide +kernel) rfl rfl dX4_countMisled_20 ⟨by decide, by decide⟩ (Nat.le_of_ble_eq_true rfl) (⟨Nat.le_of_ble_eq_true rfl, Nat.le_of_ble_eq_true rfl⟩) (fun v2 S1 H locs hp w => ?_)
        obtain ⟨rfl, rfl⟩ := hp
        refine ckC (S := S) (t := 9) X w (h.e_ta k hlt).2 (by decide) rfl wC_X4_40 dX4_countMisled_23 ?_
        refine lv_astore (lv' := [(4, .ref (gG S 9 k)), (0, .ref (gG S 4 0)), (1, .ref (gG S 5 r)), (2, .int y), (3, .int (nI k))]) hx hb dX4_countMisled_26 hl (by decide) rfl (fun ls hl => ?_)
        refine lv_iload_n hx hb dX4_countMisled_28 rfl (lv_at hl 3 rfl) ?_
        refine lv_aload hx hb dX4_countMisled_29 (lv_at hl 0 rfl) ?_
        refine cV (S := S) (nA := 0) (As := []) (rest := [.int y]) X w hl (h.e_ta k hlt).2 (a_X9_isInError G S ea ns nj nm nt nr nc h A hA k hlt) wY_X9_isInError wM_X4_134 wIn_X9_isInError wSe_X9_X9_isInError wI_X9 (by decide) rfl (by decide +kernel) rfl rfl dX4_countMisled_31 ⟨by decide, by decide⟩ (Nat.le_of_ble_eq_true rfl) (⟨Nat.le_of_ble_eq_true rfl, Nat.le_of_ble_eq_true rfl⟩) (fun v3 S1 H locs hp w => ?_)
        obtain ⟨rfl, rfl⟩ := hp
        refine lv_if_eq (tgt := 51) hx hb dX4_countMisled_34 (by decide) (fun hv1 => ?_) (fun hv1 => ?_)
        · have t1 : (rWrong (mI A 247 k) (mI A 246 k) (mI A 245 k) (mI A 248 k)) = false := b2i_f hv1
          have hp : (fun k => (rWrong (mI A 247 k) (mI A 246 k) (mI A 245 k) (mI A 248 k)) && (decide (mA A 35 r k = 1))) k = false := by show ((rWrong (mI A 247 k) (mI A 246 k) (mI A 245 k) (mI A 248 k)) && (decide (mA A 35 r k = 1))) = false; rw [t1]; first | done | rfl
          have hs : y + 0 = rCnt (fun k => (rWrong (mI A 247 k) (mI A 246 k) (mI A 245 k) (mI A 248 k)) && (decide (mA A 35 r k = 1))) (k + 1) := cnt_s0 (fun k => (rWrong (mI A 247 k) (mI A 246 k) (mI A 245 k) (mI A 248 k)) && (decide (mA A 35 r k = 1))) hy hp
          refine lv_iconst (v := 0) hx hb dX4_countMisled_51 (by decide) ?_
          refine lv_iadd hx hb dX4_countMisled_52 ?_
          refine lv_istore_n (lv' := [(2, .int (y + 0)), (4, .ref (gG S 9 k)), (0, .ref (gG S 4 0)), (1, .ref (gG S 5 r)), (3, .int (nI k))]) hx hb dX4_countMisled_53 rfl hl (by decide) rfl (fun ls hl => ?_)
          refine lv_iinc (v := nI (k + 1)) (lv' := [(3, .int (nI (k + 1))), (2, .int (y + 0)), (4, .ref (gG S 9 k)), (0, .ref (gG S 4 0)), (1, .ref (gG S 5 r))]) hx hb dX4_countMisled_54 hl (k := 4) rfl (nI_1 _) (by decide) rfl (fun ls hl => ?_)
          refine lv_goto (tgt := 4) hx hb dX4_countMisled_57 (by decide) ?_
          exact ih4 (k + 1) (y + 0) _ _ _ (by omega) (by omega) (hs) w (lv_sub hl [3, 4, 1, 0] rfl)
        · have t1 : (rWrong (mI A 247 k) (mI A 246 k) (mI A 245 k) (mI A 248 k)) = true := b2i_t hv1
          refine lv_aload hx hb dX4_countMisled_37 (lv_at hl 0 rfl) ?_
          refine lv_aload_n hx hb dX4_countMisled_39 rfl (lv_at hl 2 rfl) ?_
          refine cV (S := S) (nA := 1) (As := [.ref (gG S 5 r)]) (rest := [.int y]) X w hl (h.e_ta k hlt).2 (a_X9_reached G S ea ns nj nm nt nr nc h A hA k hlt r hr) wY_X9_reached wM_X4_150 wIn_X9_reached wSe_X9_X9_reached wI_X9 (by decide) rfl (by decide +kernel) rfl rfl dX4_countMisled_40 ⟨by decide, by decide⟩ (Nat.le_of_ble_eq_true rfl) (⟨Nat.le_of_ble_eq_true rfl, Nat.le_of_ble_eq_true rfl⟩) (fun v4 S1 H locs hp w => ?_)
          obtain ⟨rfl, rfl⟩ := hp
          refine lv_iconst (v := 1) hx hb dX4_countMisled_43 (by decide) ?_
          refine lv_icmp_ne (tgt := 51) hx hb dX4_countMisled_44 (by decide) (fun hv2 => ?_) (fun hv2 => ?_)
          · have t2 : decide (mA A 35 r k = 1) = false := decide_eq_false hv2
            have hp : (fun k => (rWrong (mI A 247 k) (mI A 246 k) (mI A 245 k) (mI A 248 k)) && (decide (mA A 35 r k = 1))) k = false := by show ((rWrong (mI A 247 k) (mI A 246 k) (mI A 245 k) (mI A 248 k)) && (decide (mA A 35 r k = 1))) = false; rw [t1, t2]; first | done | rfl
            have hs : y + 0 = rCnt (fun k => (rWrong (mI A 247 k) (mI A 246 k) (mI A 245 k) (mI A 248 k)) && (decide (mA A 35 r k = 1))) (k + 1) := cnt_s0 (fun k => (rWrong (mI A 247 k) (mI A 246 k) (mI A 245 k) (mI A 248 k)) && (decide (mA A 35 r k = 1))) hy hp
            refine lv_iconst (v := 0) hx hb dX4_countMisled_51 (by decide) ?_
            refine lv_iadd hx hb dX4_countMisled_52 ?_
            refine lv_istore_n (lv' := [(2, .int (y + 0)), (4, .ref (gG S 9 k)), (0, .ref (gG S 4 0)), (1, .ref (gG S 5 r)), (3, .int (nI k))]) hx hb dX4_countMisled_53 rfl hl (by decide) rfl (fun ls hl => ?_)
            refine lv_iinc (v := nI (k + 1)) (lv' := [(3, .int (nI (k + 1))), (2, .int (y + 0)), (4, .ref (gG S 9 k)), (0, .ref (gG S 4 0)), (1, .ref (gG S 5 r))]) hx hb dX4_countMisled_54 hl (k := 4) rfl (nI_1 _) (by decide) rfl (fun ls hl => ?_)
            refine lv_goto (tgt := 4) hx hb dX4_countMisled_57 (by decide) ?_
            exact ih4 (k + 1) (y + 0) _ _ _ (by omega) (by omega) (hs) w (lv_sub hl [3, 4, 1, 0] rfl)
          · have t2 : decide (mA A 35 r k = 1) = true := decide_eq_true hv2
            have hp : (fun k => (rWrong (mI A 247 k) (mI A 246 k) (mI A 245 k) (mI A 248 k)) && (decide (mA A 35 r k = 1))) k = true := by show ((rWrong (mI A 247 k) (mI A 246 k) (mI A 245 k) (mI A 248 k)) && (decide (mA A 35 r k = 1))) = true; rw [t1, t2]; first | done | rfl
            have hs : y + 1 = rCnt (fun k => (rWrong (mI A 247 k) (mI A 246 k) (mI A 245 k) (mI A 248 k)) && (decide (mA A 35 r k = 1))) (k + 1) := cnt_s1 (fun k => (rWrong (mI A 247 k) (mI A 246 k) (mI A 245 k) (mI A 248 k)) && (decide (mA A 35 r k = 1))) hy hp
            refine lv_iconst (v := 1) hx hb dX4_countMisled_47 (by decide) ?_
            refine lv_goto (tgt := 52) hx hb dX4_countMisled_48 (by decide) ?_
            refine lv_iadd hx hb dX4_countMisled_52 ?_
            refine lv_istore_n (lv' := [(2, .int (y + 1)), (4, .ref (gG S 9 k)), (0, .ref (gG S 4 0)), (1, .ref (gG S 5 r)), (3, .int (nI k))]) hx hb dX4_countMisled_53 rfl hl (by decide) rfl (fun ls hl => ?_)
            refine lv_iinc (v := nI (k + 1)) (lv' := [(3, .int (nI (k + 1))), (2, .int (y + 1)), (4, .ref (gG S 9 k)), (0, .ref (gG S 4 0)), (1, .ref (gG S 5 r))]) hx hb dX4_countMisled_54 hl (k := 4) rfl (nI_1 _) (by decide) rfl (fun ls hl => ?_)
            refine lv_goto (tgt := 4) hx hb dX4_countMisled_57 (by decide) ?_
            exact ih4 (k + 1) (y + 1) _ _ _ (by omega) (by omega) (hs) w (lv_sub hl [3, 4, 1, 0] rfl)
  exact L4 _ 0 0 _ _ _ (Nat.lt_succ_self _) (by omega) (rfl) w (lv_sub hl [2, 3, 1, 0] rfl)

abbrev rm_a_X4_countUsed : Room := { frames := 3, cells := 0, slots := 0, locals := 64 }
set_option maxHeartbeats 4000000 in
set_option maxRecDepth 100000 in
theorem a_X4_countUsed {s0 : State} {l : Launch} {D : va_G} {cy : Nat → ClassId} (G : Gl s0 l D cy) (S : HS) (ea ns nj nm nt nr nc : Nat) (h : CI ea S ns nj nm nt nr nc) (A : HS) (hA : RK S A ns nj nm nt nr nc) (a b d e_ : Int32) : Ctr s0 l D cy yX4_countUsed cX4_countUsed 9 (some .int) rm_a_X4_countUsed S [.ref (gG S 4 0), .int a, .int b, .int d, .int e_] (PU S (some (.int (rCnt (fun k => decide (¬ mI A 247 k = -1) && (decide (mI A 226 (tS A k) = a) && ((!(sOut (mI A 241 k / 24) d e_)) && ((sIn (rHeard (mI A 245 k) (mI A 248 k)) b))))) nt)))) := by
  refine pro "CavershamShift$Newsroom" G rfl rfl (Nat.le_of_ble_eq_true rfl) (fun p e s m below meth c ls X w hnm hl => ?_)
  have hx := X.1
  have hb := X.2.1
  have hown := X.2.2.2.1
  have hts := X.2.2.2.2.1
  have hl : lv_has ls 9 [(0, .ref (gG S 4 0)), (1, .int a), (2, .int b), (3, .int d), (4, .int e_)] := hl
  refine lv_iconst (v := 0) hx hb dX4_countUsed_0 (by decide) ?_
  refine lv_istore (lv' := [(5, .int 0), (0, .ref (gG S 4 0)), (1, .int a), (2, .int b), (3, .int d), (4, .int e_)]) hx hb dX4_countUsed_1 hl (by decide) rfl (fun ls hl => ?_)
  refine lv_iconst (v := 0) hx hb dX4_countUsed_3 (by decide) ?_
  refine lv_istore (lv' := [(6, .int 0), (5, .int 0), (0, .ref (gG S 4 0)), (1, .int a), (2, .int b), (3, .int d), (4, .int e_)]) hx hb dX4_countUsed_4 hl (by decide) rfl (fun ls hl => ?_)
  have L6 : ∀ (N : Nat) (k : Nat) (y : Int32) (H : Heap) (locs : List Loc) (ls : Array Slot), nt - k < N → (k ≤ nt) → (y = rCnt (fun k => decide (¬ mI A 247 k = -1) && (decide (mI A 226 (tS A k) = a) && ((!(sOut (mI A 241 k / 24) d e_)) && ((sIn (rHeard (mI A 245 k) (mI A 248 k)) b))))) k) → Wd s0 D cy S s.heap H locs → lv_has ls 9 [(0, .ref (gG S 4 0)), (1, .int a), (2, .int b), (3, .int d), (4, .int e_), (5, .int y), (6, .int (nI k))] → W p l e rm_a_X4_countUsed s m ([.ref (gG S 4 0), .int a, .int b, .int d, .int e_] : List Value).toArray below meth c H locs 0 0 (MQ below (GQ s0 D cy (PU S (some (.int (rCnt (fun k => decide (¬ mI A 247 k = -1) && (decide (mI A 226 (tS A k) = a) && ((!(sOut (mI A 241 k / 24) d e_)) && ((sIn (rHeard (mI A 245 k) (mI A 248 k)) b))))) nt))))) ([.ref (gG S 4 0), .int a, .int b, .int d, .int e_] : List Value).toArray s rm_a_X4_countUsed.cells rm_a_X4_countUsed.slots (A0 s0)) (F0 m 6 ls []) := by
    intro N
    induction N with
    | zero => intros; omega
    | succ N ih6 =>
      intro k y H locs ls hmu hk hy w hl
      refine lv_iload hx hb dX4_countUsed_6 (lv_at hl 6 rfl) ?_
      refine lv_aload_n hx hb dX4_countUsed_8 rfl (lv_at hl 0 rfl) ?_
      refine g_4_0 (S := S) (x := (some (gG S 17 3))) X w h.v4 wF_X4_12 (h.f64) dX4_countUsed_9 ?_
      refine cV (S := S) (nA := 0) (As := []) (rest := [.int (nI k)]) X w hl h.l_ta.1 (m_size G S ea 3 nt h.l_ta) wY_Jx4a65c_size_8abf5 wM_X4_28 wIn_Jx4a65c_size_8abf5 wSe_Jx4a65c_Jx4a65c_size_8abf5 wI_Jx4a65c (by decide) rfl (by decide +kernel) rfl rfl dX4_countUsed_12 ⟨by decide, by decide⟩ (Nat.le_of_ble_eq_true rfl) (⟨Nat.le_of_ble_eq_true rfl, Nat.le_of_ble_eq_true rfl⟩) (fun v1 S1 H locs hp w => ?_)
      obtain ⟨rfl, rfl⟩ := hp
      refine lv_icmp_ge (tgt := 95) hx hb dX4_countUsed_15 (by decide) (fun hsz => ?_) (fun hsz => ?_)
      · have hge : nt ≤ k := by
          have hb1 := h.b_ta
          exact (nI_leI (by omega) (by omega)).mp hsz
        refine lv_iload hx hb dX4_countUsed_95 (lv_at hl 5 rfl) ?_
        exact rI X w rfl dX4_countUsed_97 (by decide) (by decide) (pu_i (by rw [hy, show k = nt by omega]))
      · have hlt : k < nt := by
          have hb1 := h.b_ta
          exact Nat.lt_of_not_le (fun z => hsz ((nI_leI (by omega) (by omega)).mpr z))
        refine lv_aload_n hx hb dX4_countUsed_18 rfl (lv_at hl 0 rfl) ?_
        refine g_4_0 (S := S) (x := (some (gG S 17 3))) X w h.v4 wF_X4_12 (h.f64) dX4_countUsed_19 ?_
        refine lv_iload hx hb dX4_countUsed_22 (lv_at hl 6 rfl) ?_
        refine cV (S := S) (nA := 1) (As := [.int (nI k)]) (rest := []) X w hl h.l_ta.1 (m_get G S ea 3 k nt (some (gG S 9 k)) h.l_ta hlt (h.e_ta k hlt).1) wY_Jx4a65c_get_915e3 wM_X4_36 wIn_Jx4a65c_get_915e3 wSe_Jx4a65c_Jx4a65c_get_915e3 wI_Jx4a65c (by decide) rfl (by decide +kernel) rfl rfl dX4_countUsed_24 ⟨by decide, by decide⟩ (Nat.le_of_ble_eq_true rfl) (⟨Nat.le_of_ble_eq_true rfl, Nat.le_of_ble_eq_true rfl⟩) (fun v2 S1 H locs hp w => ?_)
        obtain ⟨rfl, rfl⟩ := hp
        refine ckC (S := S) (t := 9) X w (h.e_ta k hlt).2 (by decide) rfl wC_X4_40 dX4_countUsed_27 ?_
        refine lv_astore (lv' := [(7, .ref (gG S 9 k)), (0, .ref (gG S 4 0)), (1, .int a), (2, .int b), (3, .int d), (4, .int e_), (5, .int y), (6, .int (nI k))]) hx hb dX4_countUsed_30 hl (by decide) rfl (fun ls hl => ?_)
        refine lv_aload hx hb dX4_countUsed_32 (lv_at hl 0 rfl) ?_
        rcases hA.rp k hlt with ⟨her3, hur3, hzr3, hwr3, hsr3⟩ | ⟨her3, hvr3, hur3, hwr3⟩
        · refine g_9_8 (S := S) (x := none) X w (h.e_ta k hlt).2 wF_X4_71 (her3) dX4_countUsed_34 ?_
          refine lv_astoreN (lv' := [(8, .null), (7, .ref (gG S 9 k)), (0, .ref (gG S 4 0)), (1, .int a), (2, .int b), (3, .int d), (4, .int e_), (5, .int y), (6, .int (nI k))]) hx hb dX4_countUsed_37 hl (by decide) rfl (fun ls hl => ?_)
          refine lv_aloadN hx hb dX4_countUsed_39 (lv_at hl 0 rfl) ?_
          have t1 : decide (¬ mI A 247 k = -1) = false := decide_eq_false (fun z => z hur3)
          have hp : (fun k => decide (¬ mI A 247 k = -1) && (decide (mI A 226 (tS A k) = a) && ((!(sOut (mI A 241 k / 24) d e_)) && ((sIn (rHeard (mI A 245 k) (mI A 248 k)) b))))) k = false := by show (decide (¬ mI A 247 k = -1) && (decide (mI A 226 (tS A k) = a) && ((!(sOut (mI A 241 k / 24) d e_)) && ((sIn (rHeard (mI A 245 k) (mI A 248 k)) b))))) = false; rw [t1]; first | done | rfl
          have hs : y = rCnt (fun k => decide (¬ mI A 247 k = -1) && (decide (mI A 226 (tS A k) = a) && ((!(sOut (mI A 241 k / 24) d e_)) && ((sIn (rHeard (mI A 245 k) (mI A 248 k)) b))))) (k + 1) := cnt_y0 (fun k => decide (¬ mI A 247 k = -1) && (decide (mI A 226 (tS A k) = a) && ((!(sOut (mI A 241 k / 24) d e_)) && ((sIn (rHeard (mI A 245 k) (mI A 248 k)) b))))) hy hp
          refine lv_ifnullN (tgt := 89) hx hb dX4_countUsed_41 (by decide) ?_
          refine lv_iinc (v := nI (k + 1)) (lv' := [(6, .int (nI (k + 1))), (8, .null), (7, .ref (gG S 9 k)), (0, .ref (gG S 4 0)), (1, .int a), (2, .int b), (3, .int d), (4, .int e_), (5, .int y)]) hx hb dX4_countUsed_89 hl (k := 8) rfl (nI_1 _) (by decide) rfl (fun ls hl => ?_)
          refine lv_goto (tgt := 6) hx hb dX4_countUsed_92 (by decide) ?_
          exact ih6 (k + 1) y _ _ _ (by omega) (by omega) (hs) w (lv_sub hl [3, 4, 5, 6, 7, 8, 0] rfl)
        · refine g_9_8 (S := S) (x := (some (gG S 6 k))) X w (h.e_ta k hlt).2 wF_X4_71 (her3) dX4_countUsed_34 ?_
          refine lv_astore (lv' := [(8, .ref (gG S 6 k)), (7, .ref (gG S 9 k)), (0, .ref (gG S 4 0)), (1, .int a), (2, .int b), (3, .int d), (4, .int e_), (5, .int y), (6, .int (nI k))]) hx hb dX4_countUsed_37 hl (by decide) rfl (fun ls hl => ?_)
          refine lv_aload hx hb dX4_countUsed_39 (lv_at hl 0 rfl) ?_
          have t1 : decide (¬ mI A 247 k = -1) = true := decide_eq_true hur3
          refine lv_ifnull hx hb dX4_countUsed_41 ?_
          refine lv_aload hx hb dX4_countUsed_44 (lv_at hl 1 rfl) ?_
          refine g_9_1 (S := S) (x := (some (gG S 8 (tS A k)))) X w (h.e_ta k hlt).2 wF_X4_44 ((hA.rc.tSx h.b_st hlt).2.2) dX4_countUsed_46 ?_
          refine g_8_4 (S := S) (x := (mI A 226 (tS A k))) X w (h.e_st (tS A k) (hA.rc.tSx h.b_st hlt).1).2 wF_X4_62 ((hA.rc.1 (tS A k) (hA.rc.tSx h.b_st hlt).1).2.2.2.1) dX4_countUsed_49 ?_
          refine lv_iload_n hx hb dX4_countUsed_52 rfl (lv_at hl 3 rfl) ?_
          refine lv_icmp_ne (tgt := 89) hx hb dX4_countUsed_53 (by decide) (fun hv2 => ?_) (fun hv2 => ?_)
          · have t2 : decide (mI A 226 (tS A k) = a) = false := decide_eq_false hv2
            have hp : (fun k => decide (¬ mI A 247 k = -1) && (decide (mI A 226 (tS A k) = a) && ((!(sOut (mI A 241 k / 24) d e_)) && ((sIn (rHeard (mI A 245 k) (mI A 248 k)) b))))) k = false := by show (decide (¬ mI A 247 k = -1) && (decide (mI A 226 (tS A k) = a) && ((!(sOut (mI A 241 k / 24) d e_)) && ((sIn (rHeard (mI A 245 k) (mI A 248 k)) b))))) = false; rw [t1, t2]; first | done | rfl
            have hs : y = rCnt (fun k => decide (¬ mI A 247 k = -1) && (decide (mI A 226 (tS A k) = a) && ((!(sOut (mI A 241 k / 24) d e_)) && ((sIn (rHeard (mI A 245 k) (mI A 248 k)) b))))) (k + 1) := cnt_y0 (fun k => decide (¬ mI A 247 k = -1) && (decide (mI A 226 (tS A k) = a) && ((!(sOut (mI A 241 k / 24) d e_)) && ((sIn (rHeard (mI A 245 k) (mI A 248 k)) b))))) hy hp
            refine lv_iinc (v := nI (k + 1)) (lv' := [(6, .int (nI (k + 1))), (8, .ref (gG S 6 k)), (7, .ref (gG S 9 k)), (0, .ref (gG S 4 0)), (1, .int a), (2, .int b), (3, .int d), (4, .int e_), (5, .int y)]) hx hb dX4_countUsed_89 hl (k := 8) rfl (nI_1 _) (by decide) rfl (fun ls hl => ?_)
            refine lv_goto (tgt := 6) hx hb dX4_countUsed_92 (by decide) ?_
            exact ih6 (k + 1) y _ _ _ (by omega) (by omega) (hs) w (lv_sub hl [3, 4, 5, 6, 7, 8, 0] rfl)
          · have t2 : decide (mI A 226 (tS A k) = a) = true := decide_eq_true hv2
            refine lv_aload hx hb dX4_countUsed_56 (lv_at hl 1 rfl) ?_
            refine lv_iload_n hx hb dX4_countUsed_58 rfl (lv_at hl 5 rfl) ?_
            refine lv_iload hx hb dX4_countUsed_59 (lv_at hl 6 rfl) ?_
            refine cV (S := S) (nA := 2) (As := [.int d, .int e_]) (rest := []) X w hl (h.e_ta k hlt).2 (a_X9_isOnDays G S ea ns nj nm nt nr nc h A hA k hlt d e_) wY_X9_isOnDays wM_X4_154 wIn_X9_isOnDays wSe_X9_X9_isOnDays wI_X9 (by decide) rfl (by decide +kernel) rfl rfl dX4_countUsed_61 ⟨by decide, by decide⟩ (Nat.le_of_ble_eq_true rfl) (⟨Nat.le_of_ble_eq_true rfl, Nat.le_of_ble_eq_true rfl⟩) (fun v4 S1 H locs hp w => ?_)
            obtain ⟨rfl, rfl⟩ := hp
            refine lv_if_eq (tgt := 89) hx hb dX4_countUsed_64 (by decide) (fun hv3 => ?_) (fun hv3 => ?_)
            · have t3 : (!(sOut (mI A 241 k / 24) d e_)) = false := b2i_f hv3
              have hp : (fun k => decide (¬ mI A 247 k = -1) && (decide (mI A 226 (tS A k) = a) && ((!(sOut (mI A 241 k / 24) d e_)) && ((sIn (rHeard (mI A 245 k) (mI A 248 k)) b))))) k = false := by show (decide (¬ mI A 247 k = -1) && (decide (mI A 226 (tS A k) = a) && ((!(sOut (mI A 241 k / 24) d e_)) && ((sIn (rHeard (mI A 245 k) (mI A 248 k)) b))))) = false; rw [t1, t2, t3]; first | done | rfl
              have hs : y = rCnt (fun k => decide (¬ mI A 247 k = -1) && (decide (mI A 226 (tS A k) = a) && ((!(sOut (mI A 241 k / 24) d e_)) && ((sIn (rHeard (mI A 245 k) (mI A 248 k)) b))))) (k + 1) := cnt_y0 (fun k => decide (¬ mI A 247 k = -1) && (decide (mI A 226 (tS A k) = a) && ((!(sOut (mI A 241 k / 24) d e_)) && ((sIn (rHeard (mI A 245 k) (mI A 248 k)) b))))) hy hp
              refine lv_iinc (v := nI (k + 1)) (lv' := [(6, .int (nI (k + 1))), (8, .ref (gG S 6 k)), (7, .ref (gG S 9 k)), (0, .ref (gG S 4 0)), (1, .int a), (2, .int b), (3, .int d), (4, .int e_), (5, .int y)]) hx hb dX4_countUsed_89 hl (k := 8) rfl (nI_1 _) (by decide) rfl (fun ls hl => ?_)
              refine lv_goto (tgt := 6) hx hb dX4_countUsed_92 (by decide) ?_
              exact ih6 (k + 1) y _ _ _ (by omega) (by omega) (hs) w (lv_sub hl [3, 4, 5, 6, 7, 8, 0] rfl)
            · have t3 : (!(sOut (mI A 241 k / 24) d e_)) = true := b2i_t hv3
              refine lv_iload hx hb dX4_countUsed_67 (lv_at hl 7 rfl) ?_
              refine lv_aload hx hb dX4_countUsed_69 (lv_at hl 0 rfl) ?_
              refine g_6_3 (S := S) (x := (rHeard (mI A 245 k) (mI A 248 k))) X w hvr3 wF_X4_157 ((hwr3).2.2.2.1) dX4_countUsed_71 ?_
              refine lv_iload_n hx hb dX4_countUsed_74 rfl (lv_at hl 4 rfl) ?_
              refine cSN (S := S) (nA := 2) (As := [.int (rHeard (mI A 245 k) (mI A 248 k)), .int b]) (rest := [.int y]) X w hl (m_X10_isIn G S (rHeard (mI A 245 k) (mI A 248 k)) b) wY_X10_isIn wMN_X4_67 wSt_X10_isIn wI_X10 (by decide +kernel) rfl rfl dX4_countUsed_75 ⟨by decide, by decide⟩ (Nat.le_of_ble_eq_true rfl) (⟨Nat.le_of_ble_eq_true rfl, Nat.le_of_ble_eq_true rfl⟩) (fun v5 S1 H locs hp w => ?_)
              obtain ⟨rfl, rfl⟩ := hp
              refine lv_if_eq (tgt := 85) hx hb dX4_countUsed_78 (by decide) (fun hv4 => ?_) (fun hv4 => ?_)
              · have t4 : (sIn (rHeard (mI A 245 k) (mI A 248 k)) b) = false := b2i_f hv4
                have hp : (fun k => decide (¬ mI A 247 k = -1) && (decide (mI A 226 (tS A k) = a) && ((!(sOut (mI A 241 k / 24) d e_)) && ((sIn (rHeard (mI A 245 k) (mI A 248 k)) b))))) k = false := by show (decide (¬ mI A 247 k = -1) && (decide (mI A 226 (tS A k) = a) && ((!(sOut (mI A 241 k / 24) d e_)) && ((sIn (rHeard (mI A 245 k) (mI A 248 k)) b))))) = false; rw [t1, t2, t3, t4]; first | done | rfl
                have hs : y + 0 = rCnt (fun k => decide (¬ mI A 247 k = -1) && (decide (mI A 226 (tS A k) = a) && ((!(sOut (mI A 241 k / 24) d e_)) && ((sIn (rHeard (mI A 245 k) (mI A 248 k)) b))))) (k + 1) := cnt_s0 (fun k => decide (¬ mI A 247 k = -1) && (decide (mI A 226 (tS A k) = a) && ((!(sOut (mI A 241 k / 24) d e_)) && ((sIn (rHeard (mI A 245 k) (mI A 248 k)) b))))) hy hp
                refine lv_iconst (v := 0) hx hb dX4_countUsed_85 (by decide) ?_
                refine lv_iadd hx hb dX4_countUsed_86 ?_
                refine lv_istore (lv' := [(5, .int (y + 0)), (8, .ref (gG S 6 k)), (7, .ref (gG S 9 k)), (0, .ref (gG S 4 0)), (1, .int a), (2, .int b), (3, .int d), (4, .int e_), (6, .int (nI k))]) hx hb dX4_countUsed_87 hl (by decide) rfl (fun ls hl => ?_)
                refine lv_iinc (v := nI (k + 1)) (lv' := [(6, .int (nI (k + 1))), (5, .int (y + 0)), (8, .ref (gG S 6 k)), (7, .ref (gG S 9 k)), (0, .ref (gG S 4 0)), (1, .int a), (2, .int b), (3, .int d), (4, .int e_)]) hx hb dX4_countUsed_89 hl (k := 8) rfl (nI_1 _) (by decide) rfl (fun ls hl => ?_)
                refine lv_goto (tgt := 6) hx hb dX4_countUsed_92 (by decide) ?_
                exact ih6 (k + 1) (y + 0) _ _ _ (by omega) (by omega) (hs) w (lv_sub hl [4, 5, 6, 7, 8, 1, 0] rfl)
              · have t4 : (sIn (rHeard (mI A 245 k) (mI A 248 k)) b) = true := b2i_t hv4
                have hp : (fun k => decide (¬ mI A 247 k = -1) && (decide (mI A 226 (tS A k) = a) && ((!(sOut (mI A 241 k / 24) d e_)) && ((sIn (rHeard (mI A 245 k) (mI A 248 k)) b))))) k = true := by show (decide (¬ mI A 247 k = -1) && (decide (mI A 226 (tS A k) = a) && ((!(sOut (mI A 241 k / 24) d e_)) && ((sIn (rHeard (mI A 245 k) (mI A 248 k)) b))))) = true; rw [t1, t2, t3, t4]; first | done | rfl
                have hs : y + 1 = rCnt (fun k => decide (¬ mI A 247 k = -1) && (decide (mI A 226 (tS A k) = a) && ((!(sOut (mI A 241 k / 24) d e_)) && ((sIn (rHeard (mI A 245 k) (mI A 248 k)) b))))) (k + 1) := cnt_s1 (fun k => decide (¬ mI A 247 k = -1) && (decide (mI A 226 (tS A k) = a) && ((!(sOut (mI A 241 k / 24) d e_)) && ((sIn (rHeard (mI A 245 k) (mI A 248 k)) b))))) hy hp
                refine lv_iconst (v := 1) hx hb dX4_countUsed_81 (by decide) ?_
                refine lv_goto (tgt := 86) hx hb dX4_countUsed_82 (by decide) ?_
                refine lv_iadd hx hb dX4_countUsed_86 ?_
                refine lv_istore (lv' := [(5, .int (y + 1)), (8, .ref (gG S 6 k)), (7, .ref (gG S 9 k)), (0, .ref (gG S 4 0)), (1, .int a), (2, .int b), (3, .int d), (4, .int e_), (6, .int (nI k))]) hx hb dX4_countUsed_87 hl (by decide) rfl (fun ls hl => ?_)
                refine lv_iinc (v := nI (k + 1)) (lv' := [(6, .int (nI (k + 1))), (5, .int (y + 1)), (8, .ref (gG S 6 k)), (7, .ref (gG S 9 k)), (0, .ref (gG S 4 0)), (1, .int a), (2, .int b), (3, .int d), (4, .int e_)]) hx hb dX4_countUsed_89 hl (k := 8) rfl (nI_1 _) (by decide) rfl (fun ls hl => ?_)
                refine lv_goto (tgt := 6) hx hb dX4_countUsed_92 (by decide) ?_
                exact ih6 (k + 1) (y + 1) _ _ _ (by omega) (by omega) (hs) w (lv_sub hl [4, 5, 6, 7, 8, 1, 0] rfl)
  exact L6 _ 0 0 _ _ _ (Nat.lt_succ_self _) (by omega) (rfl) w (lv_sub hl [2, 3, 4, 5, 6, 1, 0] rfl)

abbrev rm_a_X4_countReportsOn : Room := { frames := 3, cells := 0, slots := 0, locals := 64 }
set_option maxHeartbeats 4000000 in
set_option maxRecDepth 100000 in
theorem a_X4_countReportsOn {s0 : State} {l : Launch} {D : va_G} {cy : Nat → ClassId} (G : Gl s0 l D cy) (S : HS) (ea ns nj nm nt nr nc : Nat) (h : CI ea S ns nj nm nt nr nc) (A : HS) (hA : RK S A ns nj nm nt nr nc) (a d e_ : Int32) : Ctr s0 l D cy yX4_countReportsOn cX4_countReportsOn 7 (some .int) rm_a_X4_countReportsOn S [.ref (gG S 4 0), .int a, .int d, .int e_] (PU S (some (.int (rCnt (fun k => decide (¬ mI A 247 k = -1) && (decide (mI A 226 (tS A k) = a) && ((!(sOut (mI A 241 k / 24) d e_))))) nt)))) := by
  refine pro "CavershamShift$Newsroom" G rfl rfl (Nat.le_of_ble_eq_true rfl) (fun p e s m below meth c ls X w hnm hl => ?_)
  have hx := X.1
  have hb := X.2.1
  have hown := X.2.2.2.1
  have hts := X.2.2.2.2.1
  have hl : lv_has ls 7 [(0, .ref (gG S 4 0)), (1, .int a), (2, .int d), (3, .int e_)] := hl
  refine lv_iconst (v := 0) hx hb dX4_countReportsOn_0 (by decide) ?_
  refine lv_istore (lv' := [(4, .int 0), (0, .ref (gG S 4 0)), (1, .int a), (2, .int d), (3, .int e_)]) hx hb dX4_countReportsOn_1 hl (by decide) rfl (fun ls hl => ?_)
  refine lv_iconst (v := 0) hx hb dX4_countReportsOn_3 (by decide) ?_
  refine lv_istore (lv' := [(5, .int 0), (4, .int 0), (0, .ref (gG S 4 0)), (1, .int a), (2, .int d), (3, .int e_)]) hx hb dX4_countReportsOn_4 hl (by decide) rfl (fun ls hl => ?_)
  have L6 : ∀ (N : Nat) (k : Nat) (y : Int32) (H : Heap) (locs : List Loc) (ls : Array Slot), nt - k < N → (k ≤ nt) → (y = rCnt (fun k => decide (¬ mI A 247 k = -1) && (decide (mI A 226 (tS A k) = a) && ((!(sOut (mI A 241 k / 24) d e_))))) k) → Wd s0 D cy S s.heap H locs → lv_has ls 7 [(0, .ref (gG S 4 0)), (1, .int a), (2, .int d), (3, .int e_), (4, .int y), (5, .int (nI k))] → W p l e rm_a_X4_countReportsOn s m ([.ref (gG S 4 0), .int a, .int d, .int e_] : List Value).toArray below meth c H locs 0 0 (MQ below (GQ s0 D cy (PU S (some (.int (rCnt (fun k => decide (¬ mI A 247 k = -1) && (decide (mI A 226 (tS A k) = a) && ((!(sOut (mI A 241 k / 24) d e_))))) nt))))) ([.ref (gG S 4 0), .int a, .int d, .int e_] : List Value).toArray s rm_a_X4_countReportsOn.cells rm_a_X4_countReportsOn.slots (A0 s0)) (F0 m 6 ls []) := by
    intro N
    induction N with
    | zero => intros; omega
    | succ N ih6 =>
      intro k y H locs ls hmu hk hy w hl
      refine lv_iload hx hb dX4_countReportsOn_6 (lv_at hl 5 rfl) ?_
      refine lv_aload_n hx hb dX4_countReportsOn_8 rfl (lv_at hl 0 rfl) ?_
      refine g_4_0 (S := S) (x := (some (gG S 17 3))) X w h.v4 wF_X4_12 (h.f64) dX4_countReportsOn_9 ?_
      refine cV (S := S) (nA := 0) (As := []) (rest := [.int (nI k)]) X w hl h.l_ta.1 (m_size G S ea 3 nt h.l_ta) wY_Jx4a65c_size_8abf5 wM_X4_28 wIn_Jx4a65c_size_8abf5 wSe_Jx4a65c_Jx4a65c_size_8abf5 wI_Jx4a65c (by decide) rfl (by decide +kernel) rfl rfl dX4_countReportsOn_12 ⟨by decide, by decide⟩ (Nat.le_of_ble_eq_true rfl) (⟨Nat.le_of_ble_eq_true rfl, Nat.le_of_ble_eq_true rfl⟩) (fun v1 S1 H locs hp w => ?_)
      obtain ⟨rfl, rfl⟩ := hp
      refine lv_icmp_ge (tgt := 71) hx hb dX4_countReportsOn_15 (by decide) (fun hsz => ?_) (fun hsz => ?_)
      · have hge : nt ≤ k := by
          have hb1 := h.b_ta
          exact (nI_leI (by omega) (by omega)).mp hsz
        refine lv_iload hx hb dX4_countReportsOn_71 (lv_at hl 4 rfl) ?_
        exact rI X w rfl dX4_countReportsOn_73 (by decide) (by decide) (pu_i (by rw [hy, show k = nt by omega]))
      · have hlt : k < nt := by
          have hb1 := h.b_ta
          exact Nat.lt_of_not_le (fun z => hsz ((nI_leI (by omega) (by omega)).mpr z))
        refine lv_aload_n hx hb dX4_countReportsOn_18 rfl (lv_at hl 0 rfl) ?_
        refine g_4_0 (S := S) (x := (some (gG S 17 3))) X w h.v4 wF_X4_12 (h.f64) dX4_countReportsOn_19 ?_
        refine lv_iload hx hb dX4_countReportsOn_22 (lv_at hl 5 rfl) ?_
        refine cV (S := S) (nA := 1) (As := [.int (nI k)]) (rest := []) X w hl h.l_ta.1 (m_get G S ea 3 k nt (some (gG S 9 k)) h.l_ta hlt (h.e_ta k hlt).1) wY_Jx4a65c_get_915e3 wM_X4_36 wIn_Jx4a65c_get_915e3 wSe_Jx4a65c_Jx4a65c_get_915e3 wI_Jx4a65c (by decide) rfl (by decide +kernel) rfl rfl dX4_countReportsOn_24 ⟨by decide, by decide⟩ (Nat.le_of_ble_eq_true rfl) (⟨Nat.le_of_ble_eq_true rfl, Nat.le_of_ble_eq_true rfl⟩) (fun v2 S1 H locs hp w => ?_)
        obtain ⟨rfl, rfl⟩ := hp
        refine ckC (S := S) (t := 9) X w (h.e_ta k hlt).2 (by decide) rfl wC_X4_40 dX4_countReportsOn_27 ?_
        refine lv_astore (lv' := [(6, .ref (gG S 9 k)), (0, .ref (gG S 4 0)), (1, .int a), (2, .int d), (3, .int e_), (4, .int y), (5, .int (nI k))]) hx hb dX4_countReportsOn_30 hl (by decide) rfl (fun ls hl => ?_)
        refine lv_aload hx hb dX4_countReportsOn_32 (lv_at hl 0 rfl) ?_
        rcases hA.rp k hlt with ⟨her3, hur3, hzr3, hwr3, hsr3⟩ | ⟨her3, hvr3, hur3, hwr3⟩
        · refine g_9_8 (S := S) (x := none) X w (h.e_ta k hlt).2 wF_X4_71 (her3) dX4_countReportsOn_34 ?_
          have t1 : decide (¬ mI A 247 k = -1) = false := decide_eq_false (fun z => z hur3)
          have hp : (fun k => decide (¬ mI A 247 k = -1) && (decide (mI A 226 (tS A k) = a) && ((!(sOut (mI A 241 k / 24) d e_))))) k = false := by show (decide (¬ mI A 247 k = -1) && (decide (mI A 226 (tS A k) = a) && ((!(sOut (mI A 241 k / 24) d e_))))) = false; rw [t1]; first | done | rfl
          have hs : y = rCnt (fun k => decide (¬ mI A 247 k = -1) && (decide (mI A 226 (tS A k) = a) && ((!(sOut (mI A 241 k / 24) d e_))))) (k + 1) := cnt_y0 (fun k => decide (¬ mI A 247 k = -1) && (decide (mI A 226 (tS A k) = a) && ((!(sOut (mI A 241 k / 24) d e_))))) hy hp
          refine lv_ifnullN (tgt := 65) hx hb dX4_countReportsOn_37 (by decide) ?_
          refine lv_iinc (v := nI (k + 1)) (lv' := [(5, .int (nI (k + 1))), (6, .ref (gG S 9 k)), (0, .ref (gG S 4 0)), (1, .int a), (2, .int d), (3, .int e_), (4, .int y)]) hx hb dX4_countReportsOn_65 hl (k := 6) rfl (nI_1 _) (by decide) rfl (fun ls hl => ?_)
          refine lv_goto (tgt := 6) hx hb dX4_countReportsOn_68 (by decide) ?_
          exact ih6 (k + 1) y _ _ _ (by omega) (by omega) (hs) w (lv_sub hl [2, 3, 4, 5, 6, 0] rfl)
        · refine g_9_8 (S := S) (x := (some (gG S 6 k))) X w (h.e_ta k hlt).2 wF_X4_71 (her3) dX4_countReportsOn_34 ?_
          have t1 : decide (¬ mI A 247 k = -1) = true := decide_eq_true hur3
          refine lv_ifnull hx hb dX4_countReportsOn_37 ?_
          refine lv_aload hx hb dX4_countReportsOn_40 (lv_at hl 0 rfl) ?_
          refine g_9_1 (S := S) (x := (some (gG S 8 (tS A k)))) X w (h.e_ta k hlt).2 wF_X4_44 ((hA.rc.tSx h.b_st hlt).2.2) dX4_countReportsOn_42 ?_
          refine g_8_4 (S := S) (x := (mI A 226 (tS A k))) X w (h.e_st (tS A k) (hA.rc.tSx h.b_st hlt).1).2 wF_X4_62 ((hA.rc.1 (tS A k) (hA.rc.tSx h.b_st hlt).1).2.2.2.1) dX4_countReportsOn_45 ?_
          refine lv_iload_n hx hb dX4_countReportsOn_48 rfl (lv_at hl 2 rfl) ?_
          refine lv_icmp_ne (tgt := 65) hx hb dX4_countReportsOn_49 (by decide) (fun hv2 => ?_) (fun hv2 => ?_)
          · have t2 : decide (mI A 226 (tS A k) = a) = false := decide_eq_false hv2
            have hp : (fun k => decide (¬ mI A 247 k = -1) && (decide (mI A 226 (tS A k) = a) && ((!(sOut (mI A 241 k / 24) d e_))))) k = false := by show (decide (¬ mI A 247 k = -1) && (decide (mI A 226 (tS A k) = a) && ((!(sOut (mI A 241 k / 24) d e_))))) = false; rw [t1, t2]; first | done | rfl
            have hs : y = rCnt (fun k => decide (¬ mI A 247 k = -1) && (decide (mI A 226 (tS A k) = a) && ((!(sOut (mI A 241 k / 24) d e_))))) (k + 1) := cnt_y0 (fun k => decide (¬ mI A 247 k = -1) && (decide (mI A 226 (tS A k) = a) && ((!(sOut (mI A 241 k / 24) d e_))))) hy hp
            refine lv_iinc (v := nI (k + 1)) (lv' := [(5, .int (nI (k + 1))), (6, .ref (gG S 9 k)), (0, .ref (gG S 4 0)), (1, .int a), (2, .int d), (3, .int e_), (4, .int y)]) hx hb dX4_countReportsOn_65 hl (k := 6) rfl (nI_1 _) (by decide) rfl (fun ls hl => ?_)
            refine lv_goto (tgt := 6) hx hb dX4_countReportsOn_68 (by decide) ?_
            exact ih6 (k + 1) y _ _ _ (by omega) (by omega) (hs) w (lv_sub hl [2, 3, 4, 5, 6, 0] rfl)
          · have t2 : decide (mI A 226 (tS A k) = a) = true := decide_eq_true hv2
            refine lv_aload hx hb dX4_countReportsOn_52 (lv_at hl 0 rfl) ?_
            refine lv_iload_n hx hb dX4_countReportsOn_54 rfl (lv_at hl 3 rfl) ?_
            refine lv_iload_n hx hb dX4_countReportsOn_55 rfl (lv_at hl 4 rfl) ?_
            refine cV (S := S) (nA := 2) (As := [.int d, .int e_]) (rest := []) X w hl (h.e_ta k hlt).2 (a_X9_isOnDays G S ea ns nj nm nt nr nc h A hA k hlt d e_) wY_X9_isOnDays wM_X4_154 wIn_X9_isOnDays wSe_X9_X9_isOnDays wI_X9 (by decide) rfl (by decide +kernel) rfl rfl dX4_countReportsOn_56 ⟨by decide, by decide⟩ (Nat.le_of_ble_eq_true rfl) (⟨Nat.le_of_ble_eq_true rfl, Nat.le_of_ble_eq_true rfl⟩) (fun v4 S1 H locs hp w => ?_)
            obtain ⟨rfl, rfl⟩ := hp
            refine lv_if_eq (tgt := 65) hx hb dX4_countReportsOn_59 (by decide) (fun hv3 => ?_) (fun hv3 => ?_)
            · have t3 : (!(sOut (mI A 241 k / 24) d e_)) = false := b2i_f hv3
              have hp : (fun k => decide (¬ mI A 247 k = -1) && (decide (mI A 226 (tS A k) = a) && ((!(sOut (mI A 241 k / 24) d e_))))) k = false := by show (decide (¬ mI A 247 k = -1) && (decide (mI A 226 (tS A k) = a) && ((!(sOut (mI A 241 k / 24) d e_))))) = false; rw [t1, t2, t3]; first | done | rfl
              have hs : y = rCnt (fun k => decide (¬ mI A 247 k = -1) && (decide (mI A 226 (tS A k) = a) && ((!(sOut (mI A 241 k / 24) d e_))))) (k + 1) := cnt_y0 (fun k => decide (¬ mI A 247 k = -1) && (decide (mI A 226 (tS A k) = a) && ((!(sOut (mI A 241 k / 24) d e_))))) hy hp
              refine lv_iinc (v := nI (k + 1)) (lv' := [(5, .int (nI (k + 1))), (6, .ref (gG S 9 k)), (0, .ref (gG S 4 0)), (1, .int a), (2, .int d), (3, .int e_), (4, .int y)]) hx hb dX4_countReportsOn_65 hl (k := 6) rfl (nI_1 _) (by decide) rfl (fun ls hl => ?_)
              refine lv_goto (tgt := 6) hx hb dX4_countReportsOn_68 (by decide) ?_
              exact ih6 (k + 1) y _ _ _ (by omega) (by omega) (hs) w (lv_sub hl [2, 3, 4, 5, 6, 0] rfl)
            · have t3 : (!(sOut (mI A 241 k / 24) d e_)) = true := b2i_t hv3
              have hp : (fun k => decide (¬ mI A 247 k = -1) && (decide (mI A 226 (tS A k) = a) && ((!(sOut (mI A 241 k / 24) d e_))))) k = true := by show (decide (¬ mI A 247 k = -1) && (decide (mI A 226 (tS A k) = a) && ((!(sOut (mI A 241 k / 24) d e_))))) = true; rw [t1, t2, t3]; first | done | rfl
              have hs : y + 1 = rCnt (fun k => decide (¬ mI A 247 k = -1) && (decide (mI A 226 (tS A k) = a) && ((!(sOut (mI A 241 k / 24) d e_))))) (k + 1) := cnt_s1 (fun k => decide (¬ mI A 247 k = -1) && (decide (mI A 226 (tS A k) = a) && ((!(sOut (mI A 241 k / 24) d e_))))) hy hp
              refine lv_iinc (v := (y + 1)) (lv' := [(4, .int (y + 1)), (6, .ref (gG S 9 k)), (0, .ref (gG S 4 0)), (1, .int a), (2, .int d), (3, .int e_), (5, .int (nI k))]) hx hb dX4_countReportsOn_62 hl (k := 5) rfl (rfl) (by decide) rfl (fun ls hl => ?_)
              refine lv_iinc (v := nI (k + 1)) (lv' := [(5, .int (nI (k + 1))), (4, .int (y + 1)), (6, .ref (gG S 9 k)), (0, .ref (gG S 4 0)), (1, .int a), (2, .int d), (3, .int e_)]) hx hb dX4_countReportsOn_65 hl (k := 6) rfl (nI_1 _) (by decide) rfl (fun ls hl => ?_)
              refine lv_goto (tgt := 6) hx hb dX4_countReportsOn_68 (by decide) ?_
              exact ih6 (k + 1) (y + 1) _ _ _ (by omega) (by omega) (hs) w (lv_sub hl [3, 4, 5, 6, 1, 0] rfl)
  exact L6 _ 0 0 _ _ _ (Nat.lt_succ_self _) (by omega) (rfl) w (lv_sub hl [2, 3, 4, 5, 1, 0] rfl)

