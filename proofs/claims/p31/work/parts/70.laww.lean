theorem nc_IAE_IOB : subC GNC [false, true, true, false, true, false, false, true, true, false, true] = some (Cond.not (.castable "java/lang/IllegalArgumentException" "java/lang/IndexOutOfBoundsException")) := by decide +kernel
theorem nc_ISE_IAE : subC GNC [false, true, true, false, true, true, false, true, false, true, false, true] = some (Cond.not (.castable "java/lang/IllegalStateException" "java/lang/IllegalArgumentException")) := by decide +kernel
theorem nc_ISE_IOB : subC GNC [false, true, true, false, true, false, false, true, true, false, false, true] = some (Cond.not (.castable "java/lang/IllegalStateException" "java/lang/IndexOutOfBoundsException")) := by decide +kernel
theorem dL_station_0 : decode cL_station 0 = .ok (.aload 7, 2) := by decide +kernel
theorem dL_station_2 : decode cL_station 2 = .ok (.aload_n 0, 1) := by decide +kernel
theorem dL_station_3 : decode cL_station 3 = .ok (.iload_n 1, 1) := by decide +kernel
theorem dL_station_4 : decode cL_station 4 = .ok (.iload_n 2, 1) := by decide +kernel
theorem dL_station_5 : decode cL_station 5 = .ok (.iload_n 3, 1) := by decide +kernel
theorem dL_station_6 : decode cL_station 6 = .ok (.iload 4, 2) := by decide +kernel
theorem dL_station_8 : decode cL_station 8 = .ok (.iload 5, 2) := by decide +kernel
theorem dL_station_10 : decode cL_station 10 = .ok (.iload 6, 2) := by decide +kernel
theorem dL_station_12 : decode cL_station 12 = .ok (.invokevirtual 7, 3) := by decide +kernel
theorem dL_station_15 : decode cL_station 15 = .ok (.i2l, 1) := by decide +kernel
theorem dL_station_16 : decode cL_station 16 = .ok (.putfield 13, 3) := by decide +kernel
theorem dL_station_19 : decode cL_station 19 = .ok (.goto 11, 3) := by decide +kernel
theorem dL_station_22 : decode cL_station 22 = .ok (.astore 8, 2) := by decide +kernel
theorem dL_station_24 : decode cL_station 24 = .ok (.iconst 1, 1) := by decide +kernel
theorem dL_station_25 : decode cL_station 25 = .ok (.ireturn, 1) := by decide +kernel
theorem dL_station_26 : decode cL_station 26 = .ok (.astore 8, 2) := by decide +kernel
theorem dL_station_28 : decode cL_station 28 = .ok (.iconst 2, 1) := by decide +kernel
theorem dL_station_29 : decode cL_station 29 = .ok (.ireturn, 1) := by decide +kernel
theorem dL_station_30 : decode cL_station 30 = .ok (.iconst 0, 1) := by decide +kernel
theorem dL_station_31 : decode cL_station 31 = .ok (.ireturn, 1) := by decide +kernel
abbrev rm_w_L_station : Room := { frames := 8, cells := 2, slots := 56, locals := 218 }
set_option maxHeartbeats 4000000 in
set_option maxRecDepth 100000 in
theorem w_L_station {s0 : State} {l : Launch} {D : va_G} {cy : Nat → ClassId} (G : Gl s0 l D cy) (S : HS) {cn : Cn} (hC : CX (eaOf s0) S cn) (hO : OneO S) (hV10 : vV S 10 0) (a b d g e_ f : Int32) : CtrH s0 l D cy yL_station cL_station 9 [(0, 19, 22, 19), (0, 19, 26, 21)] (some .int) rm_w_L_station S [.ref (gG S 10 0), .int a, .int b, .int d, .int g, .int e_, .int f, .ref (gG S 11 0)] (fun v S' => (stK cn.1 a b d g e_ f = 1 ∧ some (.int 1) = v ∧ S = S') ∨ (stK cn.1 a b d g e_ f = 2 ∧ some (.int 2) = v ∧ S = S') ∨ (stK cn.1 a b d g e_ f = 0 ∧ some (.int 0) = v ∧ ∃ S1 : HS, CX (eaOf s0) S1 (cn.1 + 1, cn.2.1, cn.2.2.1, cn.2.2.2.1, cn.2.2.2.2.1, cn.2.2.2.2.2.1, stA cn.2.2.2.2.2.2 cn.1 a b d g e_ f) ∧ KeepB S S1 ∧ S' = (sL S1 176 (Int32.toInt64 (nI cn.1))))) := by
  refine proH "CavershamShiftLaw" G rfl rfl (Nat.le_of_ble_eq_true rfl) (fun p e s m below meth c ls X w hT hl => ?_)
  have hx := X.1
  have hb := X.2.1
  have hown := X.2.2.2.1
  have hts := X.2.2.2.2.1
  have hl : lv_has ls 9 [(0, .ref (gG S 10 0)), (1, .int a), (2, .int b), (3, .int d), (4, .int g), (5, .int e_), (6, .int f), (7, .ref (gG S 11 0))] := hl
  refine lv_aload hx hb dL_station_0 (lv_at hl 7 rfl) ?_
  refine lv_aload_n hx hb dL_station_2 rfl (lv_at hl 0 rfl) ?_
  refine lv_iload_n hx hb dL_station_3 rfl (lv_at hl 1 rfl) ?_
  refine lv_iload_n hx hb dL_station_4 rfl (lv_at hl 2 rfl) ?_
  refine lv_iload_n hx hb dL_station_5 rfl (lv_at hl 3 rfl) ?_
  refine lv_iload hx hb dL_station_6 (lv_at hl 4 rfl) ?_
  refine lv_iload hx hb dL_station_8 (lv_at hl 5 rfl) ?_
  refine lv_iload hx hb dL_station_10 (lv_at hl 6 rfl) ?_
  refine cVX (S := S) (t := 10) (nA := 6) (As := [.int a, .int b, .int d, .int g, .int e_, .int f]) (rest := [.ref (gG S 11 0)]) X w hl hV10 (k_X10_station G S hC a b d g e_ f) wY_X10_station wM_L_7 wIn_X10_station wSe_X10_X10_station wI_X10 (by decide) rfl (by decide +kernel) rfl rfl dL_station_12 ⟨Nat.le_of_ble_eq_true rfl, Nat.le_of_ble_eq_true rfl⟩ (Nat.le_of_ble_eq_true rfl) (⟨Nat.le_of_ble_eq_true rfl, Nat.le_of_ble_eq_true rfl⟩) (fun E S1 H locs q9 ce hpx w hce hcv hcl => ?_) (fun v S1 H locs hp w => ?_)
  · obtain ⟨rfl, hE⟩ := hpx
    rcases hE with ⟨rfl, hk9⟩ | ⟨rfl, hk9⟩
    · refine vx_catch hown [] ⟨0, 19, 22, 19⟩ [⟨0, 19, 26, 21⟩] (hT.trans rfl) (fun z hz => absurd hz List.not_mem_nil) rfl (by decide) (hts _ wC_L_19) (ca_of X wCa_java_lang_IllegalArgumentException_java_lang_IllegalArgumentException) hce hcv hcl ?_
      refine lv_astore (lv' := [(8, .ref q9), (0, .ref (gG S 10 0)), (1, .int a), (2, .int b), (3, .int d), (4, .int g), (5, .int e_), (6, .int f), (7, .ref (gG S 11 0))]) hx hb dL_station_22 hl (by decide) rfl (fun ls hl => ?_)
      refine lv_iconst (v := 1) hx hb dL_station_24 (by decide) ?_
      exact rI X w rfl dL_station_25 (Nat.le_of_ble_eq_true rfl) (Nat.le_of_ble_eq_true rfl) (Or.inl ⟨hk9, rfl, rfl⟩)
    · refine vx_catch hown [⟨0, 19, 22, 19⟩] ⟨0, 19, 26, 21⟩ [] (hT.trans rfl) (by intro z hz; simp only [List.mem_cons, List.not_mem_nil, or_false] at hz; rcases hz with rfl <;> first | exact Or.inr ⟨by decide, "java/lang/IllegalArgumentException", hts _ wC_L_19, nc_of X nc_ISE_IAE⟩) rfl (by decide) (hts _ wC_L_21) (ca_of X wCa_java_lang_IllegalStateException_java_lang_IllegalStateException) hce hcv hcl ?_
      refine lv_astore (lv' := [(8, .ref q9), (0, .ref (gG S 10 0)), (1, .int a), (2, .int b), (3, .int d), (4, .int g), (5, .int e_), (6, .int f), (7, .ref (gG S 11 0))]) hx hb dL_station_26 hl (by decide) rfl (fun ls hl => ?_)
      refine lv_iconst (v := 2) hx hb dL_station_28 (by decide) ?_
      exact rI X w rfl dL_station_29 (Nat.le_of_ble_eq_true rfl) (Nat.le_of_ble_eq_true rfl) (Or.inr (Or.inl ⟨hk9, rfl, rfl⟩))
  · obtain ⟨hk9, rfl, hC9, hB9⟩ := hp
    have hO1 : OneO S1 := hO.keepB hB9
    have eO1 : gG S 11 0 = gG S1 11 0 := (hB9.G (t := 11) (i := 0) rfl).symm
    refine lv_i2l hx hb dL_station_15 rfl ?_
    refine rE1 eO1 ?_
    refine pN_n (S := S1) (x := ((nI cn.1).toInt64)) X w hO1.1 hO1.2 wFN_L_13 dL_station_16 (fun H locs w => ?_)
    refine lv_goto (tgt := 30) hx hb dL_station_19 (by decide) ?_
    refine lv_iconst (v := 0) hx hb dL_station_30 (by decide) ?_
    exact rI X w rfl dL_station_31 (Nat.le_of_ble_eq_true rfl) (Nat.le_of_ble_eq_true rfl) (Or.inr (Or.inr (⟨hk9, rfl, S1, hC9, hB9, rfl⟩)))

theorem dL_drift_0 : decode cL_drift 0 = .ok (.aload_n 3, 1) := by decide +kernel
theorem dL_drift_1 : decode cL_drift 1 = .ok (.aload_n 0, 1) := by decide +kernel
theorem dL_drift_2 : decode cL_drift 2 = .ok (.iload_n 1, 1) := by decide +kernel
theorem dL_drift_3 : decode cL_drift 3 = .ok (.iload_n 2, 1) := by decide +kernel
theorem dL_drift_4 : decode cL_drift 4 = .ok (.invokevirtual 23, 3) := by decide +kernel
theorem dL_drift_7 : decode cL_drift 7 = .ok (.i2l, 1) := by decide +kernel
theorem dL_drift_8 : decode cL_drift 8 = .ok (.putfield 13, 3) := by decide +kernel
theorem dL_drift_11 : decode cL_drift 11 = .ok (.goto 11, 3) := by decide +kernel
theorem dL_drift_14 : decode cL_drift 14 = .ok (.astore 4, 2) := by decide +kernel
theorem dL_drift_16 : decode cL_drift 16 = .ok (.iconst 1, 1) := by decide +kernel
theorem dL_drift_17 : decode cL_drift 17 = .ok (.ireturn, 1) := by decide +kernel
theorem dL_drift_18 : decode cL_drift 18 = .ok (.astore 4, 2) := by decide +kernel
theorem dL_drift_20 : decode cL_drift 20 = .ok (.iconst 2, 1) := by decide +kernel
theorem dL_drift_21 : decode cL_drift 21 = .ok (.ireturn, 1) := by decide +kernel
theorem dL_drift_22 : decode cL_drift 22 = .ok (.iconst 0, 1) := by decide +kernel
theorem dL_drift_23 : decode cL_drift 23 = .ok (.ireturn, 1) := by decide +kernel
abbrev rm_w_L_drift : Room := { frames := 7, cells := 1, slots := 6, locals := 114 }
set_option maxHeartbeats 4000000 in
set_option maxRecDepth 100000 in
theorem w_L_drift {s0 : State} {l : Launch} {D : va_G} {cy : Nat → ClassId} (G : Gl s0 l D cy) (S : HS) {cn : Cn} (hC : CX (eaOf s0) S cn) (hO : OneO S) (hV10 : vV S 10 0) (a b : Int32) : CtrH s0 l D cy yL_drift cL_drift 5 [(0, 11, 14, 27), (0, 11, 18, 19)] (some .int) rm_w_L_drift S [.ref (gG S 10 0), .int a, .int b, .ref (gG S 11 0)] (fun v S' => (dK cn.1 99 a b = 1 ∧ some (.int 1) = v ∧ S = S') ∨ (dK cn.1 99 a b = 2 ∧ some (.int 2) = v ∧ S = S') ∨ (dK cn.1 99 a b = 0 ∧ some (.int 0) = v ∧ ∃ S1 : HS, CX (eaOf s0) S1 (cn.1, cn.2.1, cn.2.2.1, cn.2.2.2.1, cn.2.2.2.2.1, cn.2.2.2.2.2.1, sI cn.2.2.2.2.2.2 229 a.toNatClampNeg b) ∧ KeepB S S1 ∧ S' = (sL S1 176 (Int32.toInt64 (mI cn.2.2.2.2.2.2 229 a.toNatClampNeg))))) := by
  refine proH "CavershamShiftLaw" G rfl rfl (Nat.le_of_ble_eq_true rfl) (fun p e s m below meth c ls X w hT hl => ?_)
  have hx := X.1
  have hb := X.2.1
  have hown := X.2.2.2.1
  have hts := X.2.2.2.2.1
  have hl : lv_has ls 5 [(0, .ref (gG S 10 0)), (1, .int a), (2, .int b), (3, .ref (gG S 11 0))] := hl
  refine lv_aload_n hx hb dL_drift_0 rfl (lv_at hl 3 rfl) ?_
  refine lv_aload_n hx hb dL_drift_1 rfl (lv_at hl 0 rfl) ?_
  refine lv_iload_n hx hb dL_drift_2 rfl (lv_at hl 1 rfl) ?_
  refine lv_iload_n hx hb dL_drift_3 rfl (lv_at hl 2 rfl) ?_
  refine cVX (S := S) (t := 10) (nA := 2) (As := [.int a, .int b]) (rest := [.ref (gG S 11 0)]) X w hl hV10 (k_X10_drift G S hC a b) wY_X10_drift wM_L_23 wIn_X10_drift wSe_X10_X10_drift wI_X10 (by decide) rfl (by decide +kernel) rfl rfl dL_drift_4 ⟨Nat.le_of_ble_eq_true rfl, Nat.le_of_ble_eq_true rfl⟩ (Nat.le_of_ble_eq_true rfl) (⟨Nat.le_of_ble_eq_true rfl, Nat.le_of_ble_eq_true rfl⟩) (fun E S1 H locs q9 ce hpx w hce hcv hcl => ?_) (fun v S1 H locs hp w => ?_)
  · obtain ⟨rfl, hE⟩ := hpx
    rcases hE with ⟨rfl, hk9⟩ | ⟨rfl, hk9⟩
    · refine vx_catch hown [] ⟨0, 11, 14, 27⟩ [⟨0, 11, 18, 19⟩] (hT.trans rfl) (fun z hz => absurd hz List.not_mem_nil) rfl (by decide) (hts _ wC_L_27) (ca_of X wCa_java_lang_IndexOutOfBoundsException_java_lang_IndexOutOfBoundsException) hce hcv hcl ?_
      refine lv_astore (lv' := [(4, .ref q9), (0, .ref (gG S 10 0)), (1, .int a), (2, .int b), (3, .ref (gG S 11 0))]) hx hb dL_drift_14 hl (by decide) rfl (fun ls hl => ?_)
      refine lv_iconst (v := 1) hx hb dL_drift_16 (by decide) ?_
      exact rI X w rfl dL_drift_17 (Nat.le_of_ble_eq_true rfl) (Nat.le_of_ble_eq_true rfl) (Or.inl ⟨hk9, rfl, rfl⟩)
    · refine vx_catch hown [⟨0, 11, 14, 27⟩] ⟨0, 11, 18, 19⟩ [] (hT.trans rfl) (by intro z hz; simp only [List.mem_cons, List.not_mem_nil, or_false] at hz; rcases hz with rfl <;> first | exact Or.inr ⟨by decide, "java/lang/IndexOutOfBoundsException", hts _ wC_L_27, nc_of X nc_IAE_IOB⟩) rfl (by decide) (hts _ wC_L_19) (ca_of X wCa_java_lang_IllegalArgumentException_java_lang_IllegalArgumentException) hce hcv hcl ?_
      refine lv_astore (lv' := [(4, .ref q9), (0, .ref (gG S 10 0)), (1, .int a), (2, .int b), (3, .ref (gG S 11 0))]) hx hb dL_drift_18 hl (by decide) rfl (fun ls hl => ?_)
      refine lv_iconst (v := 2) hx hb dL_drift_20 (by decide) ?_
      exact rI X w rfl dL_drift_21 (Nat.le_of_ble_eq_true rfl) (Nat.le_of_ble_eq_true rfl) (Or.inr (Or.inl ⟨hk9, rfl, rfl⟩))
  · obtain ⟨hk9, rfl, hC9, hB9⟩ := hp
    have hO1 : OneO S1 := hO.keepB hB9
    have eO1 : gG S 11 0 = gG S1 11 0 := (hB9.G (t := 11) (i := 0) rfl).symm
    refine lv_i2l hx hb dL_drift_7 rfl ?_
    refine rE1 eO1 ?_
    refine pN_n (S := S1) (x := ((mI cn.2.2.2.2.2.2 229 a.toNatClampNeg).toInt64)) X w hO1.1 hO1.2 wFN_L_13 dL_drift_8 (fun H locs w => ?_)
    refine lv_goto (tgt := 22) hx hb dL_drift_11 (by decide) ?_
    refine lv_iconst (v := 0) hx hb dL_drift_22 (by decide) ?_
    exact rI X w rfl dL_drift_23 (Nat.le_of_ble_eq_true rfl) (Nat.le_of_ble_eq_true rfl) (Or.inr (Or.inr (⟨hk9, rfl, S1, hC9, hB9, rfl⟩)))

theorem dL_jammer_0 : decode cL_jammer 0 = .ok (.aload_n 3, 1) := by decide +kernel
theorem dL_jammer_1 : decode cL_jammer 1 = .ok (.aload_n 0, 1) := by decide +kernel
theorem dL_jammer_2 : decode cL_jammer 2 = .ok (.iload_n 1, 1) := by decide +kernel
theorem dL_jammer_3 : decode cL_jammer 3 = .ok (.iload_n 2, 1) := by decide +kernel
theorem dL_jammer_4 : decode cL_jammer 4 = .ok (.invokevirtual 29, 3) := by decide +kernel
theorem dL_jammer_7 : decode cL_jammer 7 = .ok (.i2l, 1) := by decide +kernel
theorem dL_jammer_8 : decode cL_jammer 8 = .ok (.putfield 13, 3) := by decide +kernel
theorem dL_jammer_11 : decode cL_jammer 11 = .ok (.goto 11, 3) := by decide +kernel
theorem dL_jammer_14 : decode cL_jammer 14 = .ok (.astore 4, 2) := by decide +kernel
theorem dL_jammer_16 : decode cL_jammer 16 = .ok (.iconst 1, 1) := by decide +kernel
theorem dL_jammer_17 : decode cL_jammer 17 = .ok (.ireturn, 1) := by decide +kernel
theorem dL_jammer_18 : decode cL_jammer 18 = .ok (.astore 4, 2) := by decide +kernel
theorem dL_jammer_20 : decode cL_jammer 20 = .ok (.iconst 2, 1) := by decide +kernel
theorem dL_jammer_21 : decode cL_jammer 21 = .ok (.ireturn, 1) := by decide +kernel
theorem dL_jammer_22 : decode cL_jammer 22 = .ok (.iconst 0, 1) := by decide +kernel
theorem dL_jammer_23 : decode cL_jammer 23 = .ok (.ireturn, 1) := by decide +kernel
abbrev rm_w_L_jammer : Room := { frames := 8, cells := 2, slots := 51, locals := 214 }
set_option maxHeartbeats 4000000 in
set_option maxRecDepth 100000 in
theorem w_L_jammer {s0 : State} {l : Launch} {D : va_G} {cy : Nat → ClassId} (G : Gl s0 l D cy) (S : HS) {cn : Cn} (hC : CX (eaOf s0) S cn) (hO : OneO S) (hV10 : vV S 10 0) (a b : Int32) : CtrH s0 l D cy yL_jammer cL_jammer 5 [(0, 11, 14, 19), (0, 11, 18, 21)] (some .int) rm_w_L_jammer S [.ref (gG S 10 0), .int a, .int b, .ref (gG S 11 0)] (fun v S' => (jmK cn.2.1 a b = 1 ∧ some (.int 1) = v ∧ S = S') ∨ (jmK cn.2.1 a b = 2 ∧ some (.int 2) = v ∧ S = S') ∨ (jmK cn.2.1 a b = 0 ∧ some (.int 0) = v ∧ ∃ S1 : HS, CX (eaOf s0) S1 (cn.1, cn.2.1 + 1, cn.2.2.1, cn.2.2.2.1, cn.2.2.2.2.1, cn.2.2.2.2.2.1, jmA cn.2.2.2.2.2.2 cn.2.1 a b) ∧ KeepB S S1 ∧ S' = (sL S1 176 (Int32.toInt64 (nI cn.2.1))))) := by
  refine proH "CavershamShiftLaw" G rfl rfl (Nat.le_of_ble_eq_true rfl) (fun p e s m below meth c ls X w hT hl => ?_)
  have hx := X.1
  have hb := X.2.1
  have hown := X.2.2.2.1
  have hts := X.2.2.2.2.1
  have hl : lv_has ls 5 [(0, .ref (gG S 10 0)), (1, .int a), (2, .int b), (3, .ref (gG S 11 0))] := hl
  refine lv_aload_n hx hb dL_jammer_0 rfl (lv_at hl 3 rfl) ?_
  refine lv_aload_n hx hb dL_jammer_1 rfl (lv_at hl 0 rfl) ?_
  refine lv_iload_n hx hb dL_jammer_2 rfl (lv_at hl 1 rfl) ?_
  refine lv_iload_n hx hb dL_jammer_3 rfl (lv_at hl 2 rfl) ?_
  refine cVX (S := S) (t := 10) (nA := 2) (As := [.int a, .int b]) (rest := [.ref (gG S 11 0)]) X w hl hV10 (k_X10_jammer G S hC a b) wY_X10_jammer wM_L_29 wIn_X10_jammer wSe_X10_X10_jammer wI_X10 (by decide) rfl (by decide +kernel) rfl rfl dL_jammer_4 ⟨Nat.le_of_ble_eq_true rfl, Nat.le_of_ble_eq_true rfl⟩ (Nat.le_of_ble_eq_true rfl) (⟨Nat.le_of_ble_eq_true rfl, Nat.le_of_ble_eq_true rfl⟩) (fun E S1 H locs q9 ce hpx w hce hcv hcl => ?_) (fun v S1 H locs hp w => ?_)
  · obtain ⟨rfl, hE⟩ := hpx
    rcases hE with ⟨rfl, hk9⟩ | ⟨rfl, hk9⟩
    · refine vx_catch hown [] ⟨0, 11, 14, 19⟩ [⟨0, 11, 18, 21⟩] (hT.trans rfl) (fun z hz => absurd hz List.not_mem_nil) rfl (by decide) (hts _ wC_L_19) (ca_of X wCa_java_lang_IllegalArgumentException_java_lang_IllegalArgumentException) hce hcv hcl ?_
      refine lv_astore (lv' := [(4, .ref q9), (0, .ref (gG S 10 0)), (1, .int a), (2, .int b), (3, .ref (gG S 11 0))]) hx hb dL_jammer_14 hl (by decide) rfl (fun ls hl => ?_)
      refine lv_iconst (v := 1) hx hb dL_jammer_16 (by decide) ?_
      exact rI X w rfl dL_jammer_17 (Nat.le_of_ble_eq_true rfl) (Nat.le_of_ble_eq_true rfl) (Or.inl ⟨hk9, rfl, rfl⟩)
    · refine vx_catch hown [⟨0, 11, 14, 19⟩] ⟨0, 11, 18, 21⟩ [] (hT.trans rfl) (by intro z hz; simp only [List.mem_cons, List.not_mem_nil, or_false] at hz; rcases hz with rfl <;> first | exact Or.inr ⟨by decide, "java/lang/IllegalArgumentException", hts _ wC_L_19, nc_of X nc_ISE_IAE⟩) rfl (by decide) (hts _ wC_L_21) (ca_of X wCa_java_lang_IllegalStateException_java_lang_IllegalStateException) hce hcv hcl ?_
      refine lv_astore (lv' := [(4, .ref q9), (0, .ref (gG S 10 0)), (1, .int a), (2, .int b), (3, .ref (gG S 11 0))]) hx hb dL_jammer_18 hl (by decide) rfl (fun ls hl => ?_)
      refine lv_iconst (v := 2) hx hb dL_jammer_20 (by decide) ?_
      exact rI X w rfl dL_jammer_21 (Nat.le_of_ble_eq_true rfl) (Nat.le_of_ble_eq_true rfl) (Or.inr (Or.inl ⟨hk9, rfl, rfl⟩))
  · obtain ⟨hk9, rfl, hC9, hB9⟩ := hp
    have hO1 : OneO S1 := hO.keepB hB9
    have eO1 : gG S 11 0 = gG S1 11 0 := (hB9.G (t := 11) (i := 0) rfl).symm
    refine lv_i2l hx hb dL_jammer_7 rfl ?_
    refine rE1 eO1 ?_
    refine pN_n (S := S1) (x := ((nI cn.2.1).toInt64)) X w hO1.1 hO1.2 wFN_L_13 dL_jammer_8 (fun H locs w => ?_)
    refine lv_goto (tgt := 22) hx hb dL_jammer_11 (by decide) ?_
    refine lv_iconst (v := 0) hx hb dL_jammer_22 (by decide) ?_
    exact rI X w rfl dL_jammer_23 (Nat.le_of_ble_eq_true rfl) (Nat.le_of_ble_eq_true rfl) (Or.inr (Or.inr (⟨hk9, rfl, S1, hC9, hB9, rfl⟩)))

theorem dL_jam_0 : decode cL_jam 0 = .ok (.aload_n 3, 1) := by decide +kernel
theorem dL_jam_1 : decode cL_jam 1 = .ok (.aload_n 0, 1) := by decide +kernel
theorem dL_jam_2 : decode cL_jam 2 = .ok (.iload_n 1, 1) := by decide +kernel
theorem dL_jam_3 : decode cL_jam 3 = .ok (.iload_n 2, 1) := by decide +kernel
theorem dL_jam_4 : decode cL_jam 4 = .ok (.invokevirtual 32, 3) := by decide +kernel
theorem dL_jam_7 : decode cL_jam 7 = .ok (.i2l, 1) := by decide +kernel
theorem dL_jam_8 : decode cL_jam 8 = .ok (.putfield 13, 3) := by decide +kernel
theorem dL_jam_11 : decode cL_jam 11 = .ok (.goto 11, 3) := by decide +kernel
theorem dL_jam_14 : decode cL_jam 14 = .ok (.astore 4, 2) := by decide +kernel
theorem dL_jam_16 : decode cL_jam 16 = .ok (.iconst 1, 1) := by decide +kernel
theorem dL_jam_17 : decode cL_jam 17 = .ok (.ireturn, 1) := by decide +kernel
theorem dL_jam_18 : decode cL_jam 18 = .ok (.astore 4, 2) := by decide +kernel
theorem dL_jam_20 : decode cL_jam 20 = .ok (.iconst 2, 1) := by decide +kernel
theorem dL_jam_21 : decode cL_jam 21 = .ok (.ireturn, 1) := by decide +kernel
theorem dL_jam_22 : decode cL_jam 22 = .ok (.iconst 0, 1) := by decide +kernel
theorem dL_jam_23 : decode cL_jam 23 = .ok (.ireturn, 1) := by decide +kernel
abbrev rm_w_L_jam : Room := { frames := 7, cells := 1, slots := 6, locals := 114 }
set_option maxHeartbeats 4000000 in
set_option maxRecDepth 100000 in
theorem w_L_jam {s0 : State} {l : Launch} {D : va_G} {cy : Nat → ClassId} (G : Gl s0 l D cy) (S : HS) {cn : Cn} (hC : CX (eaOf s0) S cn) (hO : OneO S) (hV10 : vV S 10 0) (a b : Int32) : CtrH s0 l D cy yL_jam cL_jam 5 [(0, 11, 14, 27), (0, 11, 18, 19)] (some .int) rm_w_L_jam S [.ref (gG S 10 0), .int a, .int b, .ref (gG S 11 0)] (fun v S' => (dK cn.2.1 9 a b = 1 ∧ some (.int 1) = v ∧ S = S') ∨ (dK cn.2.1 9 a b = 2 ∧ some (.int 2) = v ∧ S = S') ∨ (dK cn.2.1 9 a b = 0 ∧ some (.int 0) = v ∧ ∃ S1 : HS, CX (eaOf s0) S1 (cn.1, cn.2.1, cn.2.2.1, cn.2.2.2.1, cn.2.2.2.2.1, cn.2.2.2.2.2.1, jaA cn.2.2.2.2.2.2 a.toNatClampNeg b) ∧ KeepB S S1 ∧ S' = (sL S1 176 (Int32.toInt64 (mA cn.2.2.2.2.2.2 33 a.toNatClampNeg 1))))) := by
  refine proH "CavershamShiftLaw" G rfl rfl (Nat.le_of_ble_eq_true rfl) (fun p e s m below meth c ls X w hT hl => ?_)
  have hx := X.1
  have hb := X.2.1
  have hown := X.2.2.2.1
  have hts := X.2.2.2.2.1
  have hl : lv_has ls 5 [(0, .ref (gG S 10 0)), (1, .int a), (2, .int b), (3, .ref (gG S 11 0))] := hl
  refine lv_aload_n hx hb dL_jam_0 rfl (lv_at hl 3 rfl) ?_
  refine lv_aload_n hx hb dL_jam_1 rfl (lv_at hl 0 rfl) ?_
  refine lv_iload_n hx hb dL_jam_2 rfl (lv_at hl 1 rfl) ?_
  refine lv_iload_n hx hb dL_jam_3 rfl (lv_at hl 2 rfl) ?_
  refine cVX (S := S) (t := 10) (nA := 2) (As := [.int a, .int b]) (rest := [.ref (gG S 11 0)]) X w hl hV10 (k_X10_jam G S hC a b) wY_X10_jam wM_L_32 wIn_X10_jam wSe_X10_X10_jam wI_X10 (by decide) rfl (by decide +kernel) rfl rfl dL_jam_4 ⟨Nat.le_of_ble_eq_true rfl, Nat.le_of_ble_eq_true rfl⟩ (Nat.le_of_ble_eq_true rfl) (⟨Nat.le_of_ble_eq_true rfl, Nat.le_of_ble_eq_true rfl⟩) (fun E S1 H locs q9 ce hpx w hce hcv hcl => ?_) (fun v S1 H locs hp w => ?_)
  · obtain ⟨rfl, hE⟩ := hpx
    rcases hE with ⟨rfl, hk9⟩ | ⟨rfl, hk9⟩
    · refine vx_catch hown [] ⟨0, 11, 14, 27⟩ [⟨0, 11, 18, 19⟩] (hT.trans rfl) (fun z hz => absurd hz List.not_mem_nil) rfl (by decide) (hts _ wC_L_27) (ca_of X wCa_java_lang_IndexOutOfBoundsException_java_lang_IndexOutOfBoundsException) hce hcv hcl ?_
      refine lv_astore (lv' := [(4, .ref q9), (0, .ref (gG S 10 0)), (1, .int a), (2, .int b), (3, .ref (gG S 11 0))]) hx hb dL_jam_14 hl (by decide) rfl (fun ls hl => ?_)
      refine lv_iconst (v := 1) hx hb dL_jam_16 (by decide) ?_
      exact rI X w rfl dL_jam_17 (Nat.le_of_ble_eq_true rfl) (Nat.le_of_ble_eq_true rfl) (Or.inl ⟨hk9, rfl, rfl⟩)
    · refine vx_catch hown [⟨0, 11, 14, 27⟩] ⟨0, 11, 18, 19⟩ [] (hT.trans rfl) (by intro z hz; simp only [List.mem_cons, List.not_mem_nil, or_false] at hz; rcases hz with rfl <;> first | exact Or.inr ⟨by decide, "java/lang/IndexOutOfBoundsException", hts _ wC_L_27, nc_of X nc_IAE_IOB⟩) rfl (by decide) (hts _ wC_L_19) (ca_of X wCa_java_lang_IllegalArgumentException_java_lang_IllegalArgumentException) hce hcv hcl ?_
      refine lv_astore (lv' := [(4, .ref q9), (0, .ref (gG S 10 0)), (1, .int a), (2, .int b), (3, .ref (gG S 11 0))]) hx hb dL_jam_18 hl (by decide) rfl (fun ls hl => ?_)
      refine lv_iconst (v := 2) hx hb dL_jam_20 (by decide) ?_
      exact rI X w rfl dL_jam_21 (Nat.le_of_ble_eq_true rfl) (Nat.le_of_ble_eq_true rfl) (Or.inr (Or.inl ⟨hk9, rfl, rfl⟩))
  · obtain ⟨hk9, rfl, hC9, hB9⟩ := hp
    have hO1 : OneO S1 := hO.keepB hB9
    have eO1 : gG S 11 0 = gG S1 11 0 := (hB9.G (t := 11) (i := 0) rfl).symm
    refine lv_i2l hx hb dL_jam_7 rfl ?_
    refine rE1 eO1 ?_
    refine pN_n (S := S1) (x := ((mA cn.2.2.2.2.2.2 33 a.toNatClampNeg 1).toInt64)) X w hO1.1 hO1.2 wFN_L_13 dL_jam_8 (fun H locs w => ?_)
    refine lv_goto (tgt := 22) hx hb dL_jam_11 (by decide) ?_
    refine lv_iconst (v := 0) hx hb dL_jam_22 (by decide) ?_
    exact rI X w rfl dL_jam_23 (Nat.le_of_ble_eq_true rfl) (Nat.le_of_ble_eq_true rfl) (Or.inr (Or.inr (⟨hk9, rfl, S1, hC9, hB9, rfl⟩)))

theorem dL_monitor_0 : decode cL_monitor 0 = .ok (.aload_n 2, 1) := by decide +kernel
theorem dL_monitor_1 : decode cL_monitor 1 = .ok (.aload_n 0, 1) := by decide +kernel
theorem dL_monitor_2 : decode cL_monitor 2 = .ok (.iload_n 1, 1) := by decide +kernel
theorem dL_monitor_3 : decode cL_monitor 3 = .ok (.invokevirtual 35, 3) := by decide +kernel
theorem dL_monitor_6 : decode cL_monitor 6 = .ok (.i2l, 1) := by decide +kernel
theorem dL_monitor_7 : decode cL_monitor 7 = .ok (.putfield 13, 3) := by decide +kernel
theorem dL_monitor_10 : decode cL_monitor 10 = .ok (.goto 9, 3) := by decide +kernel
theorem dL_monitor_13 : decode cL_monitor 13 = .ok (.astore_n 3, 1) := by decide +kernel
theorem dL_monitor_14 : decode cL_monitor 14 = .ok (.iconst 1, 1) := by decide +kernel
theorem dL_monitor_15 : decode cL_monitor 15 = .ok (.ireturn, 1) := by decide +kernel
theorem dL_monitor_16 : decode cL_monitor 16 = .ok (.astore_n 3, 1) := by decide +kernel
theorem dL_monitor_17 : decode cL_monitor 17 = .ok (.iconst 2, 1) := by decide +kernel
theorem dL_monitor_18 : decode cL_monitor 18 = .ok (.ireturn, 1) := by decide +kernel
theorem dL_monitor_19 : decode cL_monitor 19 = .ok (.iconst 0, 1) := by decide +kernel
theorem dL_monitor_20 : decode cL_monitor 20 = .ok (.ireturn, 1) := by decide +kernel
abbrev rm_w_L_monitor : Room := { frames := 8, cells := 2, slots := 53, locals := 213 }
set_option maxHeartbeats 4000000 in
set_option maxRecDepth 100000 in
theorem w_L_monitor {s0 : State} {l : Launch} {D : va_G} {cy : Nat → ClassId} (G : Gl s0 l D cy) (S : HS) {cn : Cn} (hC : CX (eaOf s0) S cn) (hO : OneO S) (hV10 : vV S 10 0) (a : Int32) : CtrH s0 l D cy yL_monitor cL_monitor 4 [(0, 10, 13, 19), (0, 10, 16, 21)] (some .int) rm_w_L_monitor S [.ref (gG S 10 0), .int a, .ref (gG S 11 0)] (fun v S' => (moK cn.2.2.1 a = 1 ∧ some (.int 1) = v ∧ S = S') ∨ (moK cn.2.2.1 a = 2 ∧ some (.int 2) = v ∧ S = S') ∨ (moK cn.2.2.1 a = 0 ∧ some (.int 0) = v ∧ ∃ S1 : HS, CX (eaOf s0) S1 (cn.1, cn.2.1, cn.2.2.1 + 1, cn.2.2.2.1, cn.2.2.2.2.1, cn.2.2.2.2.2.1, moC cn.2.2.2.2.2.2 cn.2.2.1 a) ∧ KeepB S S1 ∧ S' = (sL S1 176 (Int32.toInt64 (nI cn.2.2.1))))) := by
  refine proH "CavershamShiftLaw" G rfl rfl (Nat.le_of_ble_eq_true rfl) (fun p e s m below meth c ls X w hT hl => ?_)
  have hx := X.1
  have hb := X.2.1
  have hown := X.2.2.2.1
  have hts := X.2.2.2.2.1
  have hl : lv_has ls 4 [(0, .ref (gG S 10 0)), (1, .int a), (2, .ref (gG S 11 0))] := hl
  refine lv_aload_n hx hb dL_monitor_0 rfl (lv_at hl 2 rfl) ?_
  refine lv_aload_n hx hb dL_monitor_1 rfl (lv_at hl 0 rfl) ?_
  refine lv_iload_n hx hb dL_monitor_2 rfl (lv_at hl 1 rfl) ?_
  refine cVX (S := S) (t := 10) (nA := 1) (As := [.int a]) (rest := [.ref (gG S 11 0)]) X w hl hV10 (k_X10_monitor G S hC a) wY_X10_monitor wM_L_35 wIn_X10_monitor wSe_X10_X10_monitor wI_X10 (by decide) rfl (by decide +kernel) rfl rfl dL_monitor_3 ⟨Nat.le_of_ble_eq_true rfl, Nat.le_of_ble_eq_true rfl⟩ (Nat.le_of_ble_eq_true rfl) (⟨Nat.le_of_ble_eq_true rfl, Nat.le_of_ble_eq_true rfl⟩) (fun E S1 H locs q9 ce hpx w hce hcv hcl => ?_) (fun v S1 H locs hp w => ?_)
  · obtain ⟨rfl, hE⟩ := hpx
    rcases hE with ⟨rfl, hk9⟩ | ⟨rfl, hk9⟩
    · refine vx_catch hown [] ⟨0, 10, 13, 19⟩ [⟨0, 10, 16, 21⟩] (hT.trans rfl) (fun z hz => absurd hz List.not_mem_nil) rfl (by decide) (hts _ wC_L_19) (ca_of X wCa_java_lang_IllegalArgumentException_java_lang_IllegalArgumentException) hce hcv hcl ?_
      refine lv_astore_n (lv' := [(3, .ref q9), (0, .ref (gG S 10 0)), (1, .int a), (2, .ref (gG S 11 0))]) hx hb dL_monitor_13 rfl hl (by decide) rfl (fun ls hl => ?_)
      refine lv_iconst (v := 1) hx hb dL_monitor_14 (by decide) ?_
      exact rI X w rfl dL_monitor_15 (Nat.le_of_ble_eq_true rfl) (Nat.le_of_ble_eq_true rfl) (Or.inl ⟨hk9, rfl, rfl⟩)
    · refine vx_catch hown [⟨0, 10, 13, 19⟩] ⟨0, 10, 16, 21⟩ [] (hT.trans rfl) (by intro z hz; simp only [List.mem_cons, List.not_mem_nil, or_false] at hz; rcases hz with rfl <;> first | exact Or.inr ⟨by decide, "java/lang/IllegalArgumentException", hts _ wC_L_19, nc_of X nc_ISE_IAE⟩) rfl (by decide) (hts _ wC_L_21) (ca_of X wCa_java_lang_IllegalStateException_java_lang_IllegalStateException) hce hcv hcl ?_
      refine lv_astore_n (lv' := [(3, .ref q9), (0, .ref (gG S 10 0)), (1, .int a), (2, .ref (gG S 11 0))]) hx hb dL_monitor_16 rfl hl (by decide) rfl (fun ls hl => ?_)
      refine lv_iconst (v := 2) hx hb dL_monitor_17 (by decide) ?_
      exact rI X w rfl dL_monitor_18 (Nat.le_of_ble_eq_true rfl) (Nat.le_of_ble_eq_true rfl) (Or.inr (Or.inl ⟨hk9, rfl, rfl⟩))
  · obtain ⟨hk9, rfl, hC9, hB9⟩ := hp
    have hO1 : OneO S1 := hO.keepB hB9
    have eO1 : gG S 11 0 = gG S1 11 0 := (hB9.G (t := 11) (i := 0) rfl).symm
    refine lv_i2l hx hb dL_monitor_6 rfl ?_
    refine rE1 eO1 ?_
    refine pN_n (S := S1) (x := ((nI cn.2.2.1).toInt64)) X w hO1.1 hO1.2 wFN_L_13 dL_monitor_7 (fun H locs w => ?_)
    refine lv_goto (tgt := 19) hx hb dL_monitor_10 (by decide) ?_
    refine lv_iconst (v := 0) hx hb dL_monitor_19 (by decide) ?_
    exact rI X w rfl dL_monitor_20 (Nat.le_of_ble_eq_true rfl) (Nat.le_of_ble_eq_true rfl) (Or.inr (Or.inr (⟨hk9, rfl, S1, hC9, hB9, rfl⟩)))

theorem dL_shift_0 : decode cL_shift 0 = .ok (.aload 5, 2) := by decide +kernel
theorem dL_shift_2 : decode cL_shift 2 = .ok (.aload_n 0, 1) := by decide +kernel
theorem dL_shift_3 : decode cL_shift 3 = .ok (.iload_n 1, 1) := by decide +kernel
theorem dL_shift_4 : decode cL_shift 4 = .ok (.iload_n 2, 1) := by decide +kernel
theorem dL_shift_5 : decode cL_shift 5 = .ok (.iload_n 3, 1) := by decide +kernel
theorem dL_shift_6 : decode cL_shift 6 = .ok (.iload 4, 2) := by decide +kernel
theorem dL_shift_8 : decode cL_shift 8 = .ok (.invokevirtual 39, 3) := by decide +kernel
theorem dL_shift_11 : decode cL_shift 11 = .ok (.i2l, 1) := by decide +kernel
theorem dL_shift_12 : decode cL_shift 12 = .ok (.putfield 13, 3) := by decide +kernel
theorem dL_shift_15 : decode cL_shift 15 = .ok (.goto 15, 3) := by decide +kernel
theorem dL_shift_18 : decode cL_shift 18 = .ok (.astore 6, 2) := by decide +kernel
theorem dL_shift_20 : decode cL_shift 20 = .ok (.iconst 1, 1) := by decide +kernel
theorem dL_shift_21 : decode cL_shift 21 = .ok (.ireturn, 1) := by decide +kernel
theorem dL_shift_22 : decode cL_shift 22 = .ok (.astore 6, 2) := by decide +kernel
theorem dL_shift_24 : decode cL_shift 24 = .ok (.iconst 2, 1) := by decide +kernel
theorem dL_shift_25 : decode cL_shift 25 = .ok (.ireturn, 1) := by decide +kernel
theorem dL_shift_26 : decode cL_shift 26 = .ok (.astore 6, 2) := by decide +kernel
theorem dL_shift_28 : decode cL_shift 28 = .ok (.iconst 3, 1) := by decide +kernel
theorem dL_shift_29 : decode cL_shift 29 = .ok (.ireturn, 1) := by decide +kernel
theorem dL_shift_30 : decode cL_shift 30 = .ok (.iconst 0, 1) := by decide +kernel
theorem dL_shift_31 : decode cL_shift 31 = .ok (.ireturn, 1) := by decide +kernel
abbrev rm_w_L_shift : Room := { frames := 7, cells := 1, slots := 6, locals := 115 }
set_option maxHeartbeats 4000000 in
set_option maxRecDepth 100000 in
theorem w_L_shift {s0 : State} {l : Launch} {D : va_G} {cy : Nat → ClassId} (G : Gl s0 l D cy) (S : HS) {cn : Cn} (hC : CX (eaOf s0) S cn) (hO : OneO S) (hV10 : vV S 10 0) (a b d e_ : Int32) : CtrH s0 l D cy yL_shift cL_shift 7 [(0, 15, 18, 27), (0, 15, 22, 19), (0, 15, 26, 21)] (some .int) rm_w_L_shift S [.ref (gG S 10 0), .int a, .int b, .int d, .int e_, .ref (gG S 11 0)] (fun v S' => (shK cn.1 cn.2.2.1 a b d e_ (rElse cn.2.2.2.2.2.2 a b e_) = 1 ∧ some (.int 1) = v ∧ S = S') ∨ (shK cn.1 cn.2.2.1 a b d e_ (rElse cn.2.2.2.2.2.2 a b e_) = 2 ∧ some (.int 2) = v ∧ S = S') ∨ (shK cn.1 cn.2.2.1 a b d e_ (rElse cn.2.2.2.2.2.2 a b e_) = 3 ∧ some (.int 3) = v ∧ S = S') ∨ (shK cn.1 cn.2.2.1 a b d e_ (rElse cn.2.2.2.2.2.2 a b e_) = 0 ∧ some (.int 0) = v ∧ ∃ S1 : HS, CX (eaOf s0) S1 (cn.1, cn.2.1, cn.2.2.1, cn.2.2.2.1, cn.2.2.2.2.1, cn.2.2.2.2.2.1, shA cn.2.2.2.2.2.2 a.toNatClampNeg b.toNatClampNeg d e_) ∧ KeepB S S1 ∧ S' = (sL S1 176 (Int32.toInt64 (mA cn.2.2.2.2.2.2 36 a.toNatClampNeg b.toNatClampNeg))))) := by
  refine proH "CavershamShiftLaw" G rfl rfl (Nat.le_of_ble_eq_true rfl) (fun p e s m below meth c ls X w hT hl => ?_)
  have hx := X.1
  have hb := X.2.1
  have hown := X.2.2.2.1
  have hts := X.2.2.2.2.1
  have hl : lv_has ls 7 [(0, .ref (gG S 10 0)), (1, .int a), (2, .int b), (3, .int d), (4, .int e_), (5, .ref (gG S 11 0))] := hl
  refine lv_aload hx hb dL_shift_0 (lv_at hl 5 rfl) ?_
  refine lv_aload_n hx hb dL_shift_2 rfl (lv_at hl 0 rfl) ?_
  refine lv_iload_n hx hb dL_shift_3 rfl (lv_at hl 1 rfl) ?_
  refine lv_iload_n hx hb dL_shift_4 rfl (lv_at hl 2 rfl) ?_
  refine lv_iload_n hx hb dL_shift_5 rfl (lv_at hl 3 rfl) ?_
  refine lv_iload hx hb dL_shift_6 (lv_at hl 4 rfl) ?_
  refine cVX (S := S) (t := 10) (nA := 4) (As := [.int a, .int b, .int d, .int e_]) (rest := [.ref (gG S 11 0)]) X w hl hV10 (k_X10_shift G S hC a b d e_) wY_X10_shift wM_L_39 wIn_X10_shift wSe_X10_X10_shift wI_X10 (by decide) rfl (by decide +kernel) rfl rfl dL_shift_8 ⟨Nat.le_of_ble_eq_true rfl, Nat.le_of_ble_eq_true rfl⟩ (Nat.le_of_ble_eq_true rfl) (⟨Nat.le_of_ble_eq_true rfl, Nat.le_of_ble_eq_true rfl⟩) (fun E S1 H locs q9 ce hpx w hce hcv hcl => ?_) (fun v S1 H locs hp w => ?_)
  · obtain ⟨rfl, hE⟩ := hpx
    rcases hE with ⟨rfl, hk9⟩ | ⟨rfl, hk9⟩ | ⟨rfl, hk9⟩
    · refine vx_catch hown [] ⟨0, 15, 18, 27⟩ [⟨0, 15, 22, 19⟩, ⟨0, 15, 26, 21⟩] (hT.trans rfl) (fun z hz => absurd hz List.not_mem_nil) rfl (by decide) (hts _ wC_L_27) (ca_of X wCa_java_lang_IndexOutOfBoundsException_java_lang_IndexOutOfBoundsException) hce hcv hcl ?_
      refine lv_astore (lv' := [(6, .ref q9), (0, .ref (gG S 10 0)), (1, .int a), (2, .int b), (3, .int d), (4, .int e_), (5, .ref (gG S 11 0))]) hx hb dL_shift_18 hl (by decide) rfl (fun ls hl => ?_)
      refine lv_iconst (v := 1) hx hb dL_shift_20 (by decide) ?_
      exact rI X w rfl dL_shift_21 (Nat.le_of_ble_eq_true rfl) (Nat.le_of_ble_eq_true rfl) (Or.inl ⟨hk9, rfl, rfl⟩)
    · refine vx_catch hown [⟨0, 15, 18, 27⟩] ⟨0, 15, 22, 19⟩ [⟨0, 15, 26, 21⟩] (hT.trans rfl) (by intro z hz; simp only [List.mem_cons, List.not_mem_nil, or_false] at hz; rcases hz with rfl <;> first | exact Or.inr ⟨by decide, "java/lang/IndexOutOfBoundsException", hts _ wC_L_27, nc_of X nc_IAE_IOB⟩) rfl (by decide) (hts _ wC_L_19) (ca_of X wCa_java_lang_IllegalArgumentException_java_lang_IllegalArgumentException) hce hcv hcl ?_
      refine lv_astore (lv' := [(6, .ref q9), (0, .ref (gG S 10 0)), (1, .int a), (2, .int b), (3, .int d), (4, .int e_), (5, .ref (gG S 11 0))]) hx hb dL_shift_22 hl (by decide) rfl (fun ls hl => ?_)
      refine lv_iconst (v := 2) hx hb dL_shift_24 (by decide) ?_
      exact rI X w rfl dL_shift_25 (Nat.le_of_ble_eq_true rfl) (Nat.le_of_ble_eq_true rfl) (Or.inr (Or.inl ⟨hk9, rfl, rfl⟩))
    · refine vx_catch hown [⟨0, 15, 18, 27⟩, ⟨0, 15, 22, 19⟩] ⟨0, 15, 26, 21⟩ [] (hT.trans rfl) (by intro z hz; simp only [List.mem_cons, List.not_mem_nil, or_false] at hz; rcases hz with rfl | rfl <;> first | exact Or.inr ⟨by decide, "java/lang/IndexOutOfBoundsException", hts _ wC_L_27, nc_of X nc_ISE_IOB⟩ | exact Or.inr ⟨by decide, "java/lang/IllegalArgumentException", hts _ wC_L_19, nc_of X nc_ISE_IAE⟩) rfl (by decide) (hts _ wC_L_21) (ca_of X wCa_java_lang_IllegalStateException_java_lang_IllegalStateException) hce hcv hcl ?_
      refine lv_astore (lv' := [(6, .ref q9), (0, .ref (gG S 10 0)), (1, .int a), (2, .int b), (3, .int d), (4, .int e_), (5, .ref (gG S 11 0))]) hx hb dL_shift_26 hl (by decide) rfl (fun ls hl => ?_)
      refine lv_iconst (v := 3) hx hb dL_shift_28 (by decide) ?_
      exact rI X w rfl dL_shift_29 (Nat.le_of_ble_eq_true rfl) (Nat.le_of_ble_eq_true rfl) (Or.inr (Or.inr (Or.inl ⟨hk9, rfl, rfl⟩)))
  · obtain ⟨hk9, rfl, hC9, hB9⟩ := hp
    have hO1 : OneO S1 := hO.keepB hB9
    have eO1 : gG S 11 0 = gG S1 11 0 := (hB9.G (t := 11) (i := 0) rfl).symm
    refine lv_i2l hx hb dL_shift_11 rfl ?_
    refine rE1 eO1 ?_
    refine pN_n (S := S1) (x := ((mA cn.2.2.2.2.2.2 36 a.toNatClampNeg b.toNatClampNeg).toInt64)) X w hO1.1 hO1.2 wFN_L_13 dL_shift_12 (fun H locs w => ?_)
    refine lv_goto (tgt := 30) hx hb dL_shift_15 (by decide) ?_
    refine lv_iconst (v := 0) hx hb dL_shift_30 (by decide) ?_
    exact rI X w rfl dL_shift_31 (Nat.le_of_ble_eq_true rfl) (Nat.le_of_ble_eq_true rfl) (Or.inr (Or.inr (Or.inr (⟨hk9, rfl, S1, hC9, hB9, rfl⟩))))

theorem dL_talk_0 : decode cL_talk 0 = .ok (.aload 7, 2) := by decide +kernel
theorem dL_talk_2 : decode cL_talk 2 = .ok (.aload_n 0, 1) := by decide +kernel
theorem dL_talk_3 : decode cL_talk 3 = .ok (.iload_n 1, 1) := by decide +kernel
theorem dL_talk_4 : decode cL_talk 4 = .ok (.iload_n 2, 1) := by decide +kernel
theorem dL_talk_5 : decode cL_talk 5 = .ok (.iload_n 3, 1) := by decide +kernel
theorem dL_talk_6 : decode cL_talk 6 = .ok (.iload 4, 2) := by decide +kernel
theorem dL_talk_8 : decode cL_talk 8 = .ok (.iload 5, 2) := by decide +kernel
theorem dL_talk_10 : decode cL_talk 10 = .ok (.iload 6, 2) := by decide +kernel
theorem dL_talk_12 : decode cL_talk 12 = .ok (.invokevirtual 43, 3) := by decide +kernel
theorem dL_talk_15 : decode cL_talk 15 = .ok (.i2l, 1) := by decide +kernel
theorem dL_talk_16 : decode cL_talk 16 = .ok (.putfield 13, 3) := by decide +kernel
theorem dL_talk_19 : decode cL_talk 19 = .ok (.goto 15, 3) := by decide +kernel
theorem dL_talk_22 : decode cL_talk 22 = .ok (.astore 8, 2) := by decide +kernel
theorem dL_talk_24 : decode cL_talk 24 = .ok (.iconst 1, 1) := by decide +kernel
theorem dL_talk_25 : decode cL_talk 25 = .ok (.ireturn, 1) := by decide +kernel
theorem dL_talk_26 : decode cL_talk 26 = .ok (.astore 8, 2) := by decide +kernel
theorem dL_talk_28 : decode cL_talk 28 = .ok (.iconst 2, 1) := by decide +kernel
theorem dL_talk_29 : decode cL_talk 29 = .ok (.ireturn, 1) := by decide +kernel
theorem dL_talk_30 : decode cL_talk 30 = .ok (.astore 8, 2) := by decide +kernel
theorem dL_talk_32 : decode cL_talk 32 = .ok (.iconst 3, 1) := by decide +kernel
theorem dL_talk_33 : decode cL_talk 33 = .ok (.ireturn, 1) := by decide +kernel
theorem dL_talk_34 : decode cL_talk 34 = .ok (.iconst 0, 1) := by decide +kernel
theorem dL_talk_35 : decode cL_talk 35 = .ok (.ireturn, 1) := by decide +kernel
abbrev rm_w_L_talk : Room := { frames := 8, cells := 2, slots := 58, locals := 219 }
set_option maxHeartbeats 4000000 in
set_option maxRecDepth 100000 in
theorem w_L_talk {s0 : State} {l : Launch} {D : va_G} {cy : Nat → ClassId} (G : Gl s0 l D cy) (S : HS) {cn : Cn} (hC : CX (eaOf s0) S cn) (hO : OneO S) (hV10 : vV S 10 0) (a b d g e_ f : Int32) : CtrH s0 l D cy yL_talk cL_talk 9 [(0, 19, 22, 27), (0, 19, 26, 19), (0, 19, 30, 21)] (some .int) rm_w_L_talk S [.ref (gG S 10 0), .int a, .int b, .int d, .int g, .int e_, .int f, .ref (gG S 11 0)] (fun v S' => (taK cn.1 cn.2.2.2.2.1 (nI cn.2.2.2.2.2.1) a b d g e_ f (sIn (mI cn.2.2.2.2.2.2 228 a.toNatClampNeg) (b - b / 24 * 24)) (rHas cn.2.2.2.2.2.2 a b cn.2.2.2.2.1) = 1 ∧ some (.int 1) = v ∧ S = S') ∨ (taK cn.1 cn.2.2.2.2.1 (nI cn.2.2.2.2.2.1) a b d g e_ f (sIn (mI cn.2.2.2.2.2.2 228 a.toNatClampNeg) (b - b / 24 * 24)) (rHas cn.2.2.2.2.2.2 a b cn.2.2.2.2.1) = 2 ∧ some (.int 2) = v ∧ S = S') ∨ (taK cn.1 cn.2.2.2.2.1 (nI cn.2.2.2.2.2.1) a b d g e_ f (sIn (mI cn.2.2.2.2.2.2 228 a.toNatClampNeg) (b - b / 24 * 24)) (rHas cn.2.2.2.2.2.2 a b cn.2.2.2.2.1) = 3 ∧ some (.int 3) = v ∧ S = S') ∨ (taK cn.1 cn.2.2.2.2.1 (nI cn.2.2.2.2.2.1) a b d g e_ f (sIn (mI cn.2.2.2.2.2.2 228 a.toNatClampNeg) (b - b / 24 * 24)) (rHas cn.2.2.2.2.2.2 a b cn.2.2.2.2.1) = 0 ∧ some (.int 0) = v ∧ ∃ S1 : HS, CX (eaOf s0) S1 (cn.1, cn.2.1, cn.2.2.1, cn.2.2.2.1, cn.2.2.2.2.1 + 1, cn.2.2.2.2.2.1, taC cn.2.2.2.2.2.2 cn.2.2.2.2.1 a b d g e_ f) ∧ KeepB S S1 ∧ S' = (sL S1 176 (Int32.toInt64 (nI cn.2.2.2.2.1))))) := by
  refine proH "CavershamShiftLaw" G rfl rfl (Nat.le_of_ble_eq_true rfl) (fun p e s m below meth c ls X w hT hl => ?_)
  have hx := X.1
  have hb := X.2.1
  have hown := X.2.2.2.1
  have hts := X.2.2.2.2.1
  have hl : lv_has ls 9 [(0, .ref (gG S 10 0)), (1, .int a), (2, .int b), (3, .int d), (4, .int g), (5, .int e_), (6, .int f), (7, .ref (gG S 11 0))] := hl
  refine lv_aload hx hb dL_talk_0 (lv_at hl 7 rfl) ?_
  refine lv_aload_n hx hb dL_talk_2 rfl (lv_at hl 0 rfl) ?_
  refine lv_iload_n hx hb dL_talk_3 rfl (lv_at hl 1 rfl) ?_
  refine lv_iload_n hx hb dL_talk_4 rfl (lv_at hl 2 rfl) ?_
  refine lv_iload_n hx hb dL_talk_5 rfl (lv_at hl 3 rfl) ?_
  refine lv_iload hx hb dL_talk_6 (lv_at hl 4 rfl) ?_
  refine lv_iload hx hb dL_talk_8 (lv_at hl 5 rfl) ?_
  refine lv_iload hx hb dL_talk_10 (lv_at hl 6 rfl) ?_
  refine cVX (S := S) (t := 10) (nA := 6) (As := [.int a, .int b, .int d, .int g, .int e_, .int f]) (rest := [.ref (gG S 11 0)]) X w hl hV10 (k_X10_talk G S hC a b d g e_ f) wY_X10_talk wM_L_43 wIn_X10_talk wSe_X10_X10_talk wI_X10 (by decide) rfl (by decide +kernel) rfl rfl dL_talk_12 ⟨Nat.le_of_ble_eq_true rfl, Nat.le_of_ble_eq_true rfl⟩ (Nat.le_of_ble_eq_true rfl) (⟨Nat.le_of_ble_eq_true rfl, Nat.le_of_ble_eq_true rfl⟩) (fun E S1 H locs q9 ce hpx w hce hcv hcl => ?_) (fun v S1 H locs hp w => ?_)
  · obtain ⟨rfl, hE⟩ := hpx
    rcases hE with ⟨rfl, hk9⟩ | ⟨rfl, hk9⟩ | ⟨rfl, hk9⟩
    · refine vx_catch hown [] ⟨0, 19, 22, 27⟩ [⟨0, 19, 26, 19⟩, ⟨0, 19, 30, 21⟩] (hT.trans rfl) (fun z hz => absurd hz List.not_mem_nil) rfl (by decide) (hts _ wC_L_27) (ca_of X wCa_java_lang_IndexOutOfBoundsException_java_lang_IndexOutOfBoundsException) hce hcv hcl ?_
      refine lv_astore (lv' := [(8, .ref q9), (0, .ref (gG S 10 0)), (1, .int a), (2, .int b), (3, .int d), (4, .int g), (5, .int e_), (6, .int f), (7, .ref (gG S 11 0))]) hx hb dL_talk_22 hl (by decide) rfl (fun ls hl => ?_)
      refine lv_iconst (v := 1) hx hb dL_talk_24 (by decide) ?_
      exact rI X w rfl dL_talk_25 (Nat.le_of_ble_eq_true rfl) (Nat.le_of_ble_eq_true rfl) (Or.inl ⟨hk9, rfl, rfl⟩)
    · refine vx_catch hown [⟨0, 19, 22, 27⟩] ⟨0, 19, 26, 19⟩ [⟨0, 19, 30, 21⟩] (hT.trans rfl) (by intro z hz; simp only [List.mem_cons, List.not_mem_nil, or_false] at hz; rcases hz with rfl <;> first | exact Or.inr ⟨by decide, "java/lang/IndexOutOfBoundsException", hts _ wC_L_27, nc_of X nc_IAE_IOB⟩) rfl (by decide) (hts _ wC_L_19) (ca_of X wCa_java_lang_IllegalArgumentException_java_lang_IllegalArgumentException) hce hcv hcl ?_
      refine lv_astore (lv' := [(8, .ref q9), (0, .ref (gG S 10 0)), (1, .int a), (2, .int b), (3, .int d), (4, .int g), (5, .int e_), (6, .int f), (7, .ref (gG S 11 0))]) hx hb dL_talk_26 hl (by decide) rfl (fun ls hl => ?_)
      refine lv_iconst (v := 2) hx hb dL_talk_28 (by decide) ?_
      exact rI X w rfl dL_talk_29 (Nat.le_of_ble_eq_true rfl) (Nat.le_of_ble_eq_true rfl) (Or.inr (Or.inl ⟨hk9, rfl, rfl⟩))
    · refine vx_catch hown [⟨0, 19, 22, 27⟩, ⟨0, 19, 26, 19⟩] ⟨0, 19, 30, 21⟩ [] (hT.trans rfl) (by intro z hz; simp only [List.mem_cons, List.not_mem_nil, or_false] at hz; rcases hz with rfl | rfl <;> first | exact Or.inr ⟨by decide, "java/lang/IndexOutOfBoundsException", hts _ wC_L_27, nc_of X nc_ISE_IOB⟩ | exact Or.inr ⟨by decide, "java/lang/IllegalArgumentException", hts _ wC_L_19, nc_of X nc_ISE_IAE⟩) rfl (by decide) (hts _ wC_L_21) (ca_of X wCa_java_lang_IllegalStateException_java_lang_IllegalStateException) hce hcv hcl ?_
      refine lv_astore (lv' := [(8, .ref q9), (0, .ref (gG S 10 0)), (1, .int a), (2, .int b), (3, .int d), (4, .int g), (5, .int e_), (6, .int f), (7, .ref (gG S 11 0))]) hx hb dL_talk_30 hl (by decide) rfl (fun ls hl => ?_)
      refine lv_iconst (v := 3) hx hb dL_talk_32 (by decide) ?_
      exact rI X w rfl dL_talk_33 (Nat.le_of_ble_eq_true rfl) (Nat.le_of_ble_eq_true rfl) (Or.inr (Or.inr (Or.inl ⟨hk9, rfl, rfl⟩)))
  · obtain ⟨hk9, rfl, hC9, hB9⟩ := hp
    have hO1 : OneO S1 := hO.keepB hB9
    have eO1 : gG S 11 0 = gG S1 11 0 := (hB9.G (t := 11) (i := 0) rfl).symm
    refine lv_i2l hx hb dL_talk_15 rfl ?_
    refine rE1 eO1 ?_
    refine pN_n (S := S1) (x := ((nI cn.2.2.2.2.1).toInt64)) X w hO1.1 hO1.2 wFN_L_13 dL_talk_16 (fun H locs w => ?_)
    refine lv_goto (tgt := 34) hx hb dL_talk_19 (by decide) ?_
    refine lv_iconst (v := 0) hx hb dL_talk_34 (by decide) ?_
    exact rI X w rfl dL_talk_35 (Nat.le_of_ble_eq_true rfl) (Nat.le_of_ble_eq_true rfl) (Or.inr (Or.inr (Or.inr (⟨hk9, rfl, S1, hC9, hB9, rfl⟩))))

theorem dL_print_0 : decode cL_print 0 = .ok (.aload_n 3, 1) := by decide +kernel
theorem dL_print_1 : decode cL_print 1 = .ok (.aload_n 0, 1) := by decide +kernel
theorem dL_print_2 : decode cL_print 2 = .ok (.iload_n 1, 1) := by decide +kernel
theorem dL_print_3 : decode cL_print 3 = .ok (.iload_n 2, 1) := by decide +kernel
theorem dL_print_4 : decode cL_print 4 = .ok (.invokevirtual 46, 3) := by decide +kernel
theorem dL_print_7 : decode cL_print 7 = .ok (.i2l, 1) := by decide +kernel
theorem dL_print_8 : decode cL_print 8 = .ok (.putfield 13, 3) := by decide +kernel
theorem dL_print_11 : decode cL_print 11 = .ok (.goto 15, 3) := by decide +kernel
theorem dL_print_14 : decode cL_print 14 = .ok (.astore 4, 2) := by decide +kernel
theorem dL_print_16 : decode cL_print 16 = .ok (.iconst 1, 1) := by decide +kernel
theorem dL_print_17 : decode cL_print 17 = .ok (.ireturn, 1) := by decide +kernel
theorem dL_print_18 : decode cL_print 18 = .ok (.astore 4, 2) := by decide +kernel
theorem dL_print_20 : decode cL_print 20 = .ok (.iconst 2, 1) := by decide +kernel
theorem dL_print_21 : decode cL_print 21 = .ok (.ireturn, 1) := by decide +kernel
theorem dL_print_22 : decode cL_print 22 = .ok (.astore 4, 2) := by decide +kernel
theorem dL_print_24 : decode cL_print 24 = .ok (.iconst 3, 1) := by decide +kernel
theorem dL_print_25 : decode cL_print 25 = .ok (.ireturn, 1) := by decide +kernel
theorem dL_print_26 : decode cL_print 26 = .ok (.iconst 0, 1) := by decide +kernel
theorem dL_print_27 : decode cL_print 27 = .ok (.ireturn, 1) := by decide +kernel
abbrev rm_w_L_print : Room := { frames := 9, cells := 1, slots := 49, locals := 237 }
set_option maxHeartbeats 4000000 in
set_option maxRecDepth 100000 in
theorem w_L_print {s0 : State} {l : Launch} {D : va_G} {cy : Nat → ClassId} (G : Gl s0 l D cy) (S : HS) {cn : Cn} (hC : CX (eaOf s0) S cn) (hO : OneO S) (hV10 : vV S 10 0) (a b : Int32) : CtrH s0 l D cy yL_print cL_print 5 [(0, 11, 14, 27), (0, 11, 18, 19), (0, 11, 22, 21)] (some .int) rm_w_L_print S [.ref (gG S 10 0), .int a, .int b, .ref (gG S 11 0)] (fun v S' => (prK cn.2.2.2.2.1 a b (mI cn.2.2.2.2.2.2 246 a.toNatClampNeg) = 1 ∧ some (.int 1) = v ∧ S = S') ∨ (prK cn.2.2.2.2.1 a b (mI cn.2.2.2.2.2.2 246 a.toNatClampNeg) = 2 ∧ some (.int 2) = v ∧ S = S') ∨ (prK cn.2.2.2.2.1 a b (mI cn.2.2.2.2.2.2 246 a.toNatClampNeg) = 3 ∧ some (.int 3) = v ∧ S = S') ∨ (prK cn.2.2.2.2.1 a b (mI cn.2.2.2.2.2.2 246 a.toNatClampNeg) = 0 ∧ some (.int 0) = v ∧ ∃ S1 : HS, CX (eaOf s0) S1 (cn.1, cn.2.1, cn.2.2.1, cn.2.2.2.1, cn.2.2.2.2.1, cn.2.2.2.2.2.1, prA cn.2.2.2.2.2.2 a.toNatClampNeg b) ∧ KeepB S S1 ∧ S' = (sL S1 176 (Int32.toInt64 (prF cn.2.2.2.2.2.2 a.toNatClampNeg b))))) := by
  refine proH "CavershamShiftLaw" G rfl rfl (Nat.le_of_ble_eq_true rfl) (fun p e s m below meth c ls X w hT hl => ?_)
  have hx := X.1
  have hb := X.2.1
  have hown := X.2.2.2.1
  have hts := X.2.2.2.2.1
  have hl : lv_has ls 5 [(0, .ref (gG S 10 0)), (1, .int a), (2, .int b), (3, .ref (gG S 11 0))] := hl
  refine lv_aload_n hx hb dL_print_0 rfl (lv_at hl 3 rfl) ?_
  refine lv_aload_n hx hb dL_print_1 rfl (lv_at hl 0 rfl) ?_
  refine lv_iload_n hx hb dL_print_2 rfl (lv_at hl 1 rfl) ?_
  refine lv_iload_n hx hb dL_print_3 rfl (lv_at hl 2 rfl) ?_
  refine cVX (S := S) (t := 10) (nA := 2) (As := [.int a, .int b]) (rest := [.ref (gG S 11 0)]) X w hl hV10 (k_X10_print G S hC a b) wY_X10_print wM_L_46 wIn_X10_print wSe_X10_X10_print wI_X10 (by decide) rfl (by decide +kernel) rfl rfl dL_print_4 ⟨Nat.le_of_ble_eq_true rfl, Nat.le_of_ble_eq_true rfl⟩ (Nat.le_of_ble_eq_true rfl) (⟨Nat.le_of_ble_eq_true rfl, Nat.le_of_ble_eq_true rfl⟩) (fun E S1 H locs q9 ce hpx w hce hcv hcl => ?_) (fun v S1 H locs hp w => ?_)
  · obtain ⟨rfl, hE⟩ := hpx
    rcases hE with ⟨rfl, hk9⟩ | ⟨rfl, hk9⟩ | ⟨rfl, hk9⟩
    · refine vx_catch hown [] ⟨0, 11, 14, 27⟩ [⟨0, 11, 18, 19⟩, ⟨0, 11, 22, 21⟩] (hT.trans rfl) (fun z hz => absurd hz List.not_mem_nil) rfl (by decide) (hts _ wC_L_27) (ca_of X wCa_java_lang_IndexOutOfBoundsException_java_lang_IndexOutOfBoundsException) hce hcv hcl ?_
      refine lv_astore (lv' := [(4, .ref q9), (0, .ref (gG S 10 0)), (1, .int a), (2, .int b), (3, .ref (gG S 11 0))]) hx hb dL_print_14 hl (by decide) rfl (fun ls hl => ?_)
      refine lv_iconst (v := 1) hx hb dL_print_16 (by decide) ?_
      exact rI X w rfl dL_print_17 (Nat.le_of_ble_eq_true rfl) (Nat.le_of_ble_eq_true rfl) (Or.inl ⟨hk9, rfl, rfl⟩)
    · refine vx_catch hown [⟨0, 11, 14, 27⟩] ⟨0, 11, 18, 19⟩ [⟨0, 11, 22, 21⟩] (hT.trans rfl) (by intro z hz; simp only [List.mem_cons, List.not_mem_nil, or_false] at hz; rcases hz with rfl <;> first | exact Or.inr ⟨by decide, "java/lang/IndexOutOfBoundsException", hts _ wC_L_27, nc_of X nc_IAE_IOB⟩) rfl (by decide) (hts _ wC_L_19) (ca_of X wCa_java_lang_IllegalArgumentException_java_lang_IllegalArgumentException) hce hcv hcl ?_
      refine lv_astore (lv' := [(4, .ref q9), (0, .ref (gG S 10 0)), (1, .int a), (2, .int b), (3, .ref (gG S 11 0))]) hx hb dL_print_18 hl (by decide) rfl (fun ls hl => ?_)
      refine lv_iconst (v := 2) hx hb dL_print_20 (by decide) ?_
      exact rI X w rfl dL_print_21 (Nat.le_of_ble_eq_true rfl) (Nat.le_of_ble_eq_true rfl) (Or.inr (Or.inl ⟨hk9, rfl, rfl⟩))
    · refine vx_catch hown [⟨0, 11, 14, 27⟩, ⟨0, 11, 18, 19⟩] ⟨0, 11, 22, 21⟩ [] (hT.trans rfl) (by intro z hz; simp only [List.mem_cons, List.not_mem_nil, or_false] at hz; rcases hz with rfl | rfl <;> first | exact Or.inr ⟨by decide, "java/lang/IndexOutOfBoundsException", hts _ wC_L_27, nc_of X nc_ISE_IOB⟩ | exact Or.inr ⟨by decide, "java/lang/IllegalArgumentException", hts _ wC_L_19, nc_of X nc_ISE_IAE⟩) rfl (by decide) (hts _ wC_L_21) (ca_of X wCa_java_lang_IllegalStateException_java_lang_IllegalStateException) hce hcv hcl ?_
      refine lv_astore (lv' := [(4, .ref q9), (0, .ref (gG S 10 0)), (1, .int a), (2, .int b), (3, .ref (gG S 11 0))]) hx hb dL_print_22 hl (by decide) rfl (fun ls hl => ?_)
      refine lv_iconst (v := 3) hx hb dL_print_24 (by decide) ?_
      exact rI X w rfl dL_print_25 (Nat.le_of_ble_eq_true rfl) (Nat.le_of_ble_eq_true rfl) (Or.inr (Or.inr (Or.inl ⟨hk9, rfl, rfl⟩)))
  · obtain ⟨hk9, rfl, hC9, hB9⟩ := hp
    have hO1 : OneO S1 := hO.keepB hB9
    have eO1 : gG S 11 0 = gG S1 11 0 := (hB9.G (t := 11) (i := 0) rfl).symm
    refine lv_i2l hx hb dL_print_7 rfl ?_
    refine rE1 eO1 ?_
    refine pN_n (S := S1) (x := ((prF cn.2.2.2.2.2.2 a.toNatClampNeg b).toInt64)) X w hO1.1 hO1.2 wFN_L_13 dL_print_8 (fun H locs w => ?_)
    refine lv_goto (tgt := 26) hx hb dL_print_11 (by decide) ?_
    refine lv_iconst (v := 0) hx hb dL_print_26 (by decide) ?_
    exact rI X w rfl dL_print_27 (Nat.le_of_ble_eq_true rfl) (Nat.le_of_ble_eq_true rfl) (Or.inr (Or.inr (Or.inr (⟨hk9, rfl, S1, hC9, hB9, rfl⟩))))

theorem dL_reader_0 : decode cL_reader 0 = .ok (.aload_n 3, 1) := by decide +kernel
theorem dL_reader_1 : decode cL_reader 1 = .ok (.aload_n 0, 1) := by decide +kernel
theorem dL_reader_2 : decode cL_reader 2 = .ok (.iload_n 1, 1) := by decide +kernel
theorem dL_reader_3 : decode cL_reader 3 = .ok (.iload_n 2, 1) := by decide +kernel
theorem dL_reader_4 : decode cL_reader 4 = .ok (.invokevirtual 49, 3) := by decide +kernel
theorem dL_reader_7 : decode cL_reader 7 = .ok (.i2l, 1) := by decide +kernel
theorem dL_reader_8 : decode cL_reader 8 = .ok (.putfield 13, 3) := by decide +kernel
theorem dL_reader_11 : decode cL_reader 11 = .ok (.goto 11, 3) := by decide +kernel
theorem dL_reader_14 : decode cL_reader 14 = .ok (.astore 4, 2) := by decide +kernel
theorem dL_reader_16 : decode cL_reader 16 = .ok (.iconst 1, 1) := by decide +kernel
theorem dL_reader_17 : decode cL_reader 17 = .ok (.ireturn, 1) := by decide +kernel
theorem dL_reader_18 : decode cL_reader 18 = .ok (.astore 4, 2) := by decide +kernel
theorem dL_reader_20 : decode cL_reader 20 = .ok (.iconst 2, 1) := by decide +kernel
theorem dL_reader_21 : decode cL_reader 21 = .ok (.ireturn, 1) := by decide +kernel
theorem dL_reader_22 : decode cL_reader 22 = .ok (.iconst 0, 1) := by decide +kernel
theorem dL_reader_23 : decode cL_reader 23 = .ok (.ireturn, 1) := by decide +kernel
abbrev rm_w_L_reader : Room := { frames := 8, cells := 2, slots := 52, locals := 214 }
set_option maxHeartbeats 4000000 in
set_option maxRecDepth 100000 in
theorem w_L_reader {s0 : State} {l : Launch} {D : va_G} {cy : Nat → ClassId} (G : Gl s0 l D cy) (S : HS) {cn : Cn} (hC : CX (eaOf s0) S cn) (hO : OneO S) (hV10 : vV S 10 0) (a b : Int32) : CtrH s0 l D cy yL_reader cL_reader 5 [(0, 11, 14, 19), (0, 11, 18, 21)] (some .int) rm_w_L_reader S [.ref (gG S 10 0), .int a, .int b, .ref (gG S 11 0)] (fun v S' => (reK cn.2.2.2.1 a b = 1 ∧ some (.int 1) = v ∧ S = S') ∨ (reK cn.2.2.2.1 a b = 2 ∧ some (.int 2) = v ∧ S = S') ∨ (reK cn.2.2.2.1 a b = 0 ∧ some (.int 0) = v ∧ ∃ S1 : HS, CX (eaOf s0) S1 (cn.1, cn.2.1, cn.2.2.1, cn.2.2.2.1 + 1, cn.2.2.2.2.1, cn.2.2.2.2.2.1, reC cn.2.2.2.2.2.2 cn.2.2.2.1 a b) ∧ KeepB S S1 ∧ S' = (sL S1 176 (Int32.toInt64 (nI cn.2.2.2.1))))) := by
  refine proH "CavershamShiftLaw" G rfl rfl (Nat.le_of_ble_eq_true rfl) (fun p e s m below meth c ls X w hT hl => ?_)
  have hx := X.1
  have hb := X.2.1
  have hown := X.2.2.2.1
  have hts := X.2.2.2.2.1
  have hl : lv_has ls 5 [(0, .ref (gG S 10 0)), (1, .int a), (2, .int b), (3, .ref (gG S 11 0))] := hl
  refine lv_aload_n hx hb dL_reader_0 rfl (lv_at hl 3 rfl) ?_
  refine lv_aload_n hx hb dL_reader_1 rfl (lv_at hl 0 rfl) ?_
  refine lv_iload_n hx hb dL_reader_2 rfl (lv_at hl 1 rfl) ?_
  refine lv_iload_n hx hb dL_reader_3 rfl (lv_at hl 2 rfl) ?_
  refine cVX (S := S) (t := 10) (nA := 2) (As := [.int a, .int b]) (rest := [.ref (gG S 11 0)]) X w hl hV10 (k_X10_reader G S hC a b) wY_X10_reader wM_L_49 wIn_X10_reader wSe_X10_X10_reader wI_X10 (by decide) rfl (by decide +kernel) rfl rfl dL_reader_4 ⟨Nat.le_of_ble_eq_true rfl, Nat.le_of_ble_eq_true rfl⟩ (Nat.le_of_ble_eq_true rfl) (⟨Nat.le_of_ble_eq_true rfl, Nat.le_of_ble_eq_true rfl⟩) (fun E S1 H locs q9 ce hpx w hce hcv hcl => ?_) (fun v S1 H locs hp w => ?_)
  · obtain ⟨rfl, hE⟩ := hpx
    rcases hE with ⟨rfl, hk9⟩ | ⟨rfl, hk9⟩
    · refine vx_catch hown [] ⟨0, 11, 14, 19⟩ [⟨0, 11, 18, 21⟩] (hT.trans rfl) (fun z hz => absurd hz List.not_mem_nil) rfl (by decide) (hts _ wC_L_19) (ca_of X wCa_java_lang_IllegalArgumentException_java_lang_IllegalArgumentException) hce hcv hcl ?_
      refine lv_astore (lv' := [(4, .ref q9), (0, .ref (gG S 10 0)), (1, .int a), (2, .int b), (3, .ref (gG S 11 0))]) hx hb dL_reader_14 hl (by decide) rfl (fun ls hl => ?_)
      refine lv_iconst (v := 1) hx hb dL_reader_16 (by decide) ?_
      exact rI X w rfl dL_reader_17 (Nat.le_of_ble_eq_true rfl) (Nat.le_of_ble_eq_true rfl) (Or.inl ⟨hk9, rfl, rfl⟩)
    · refine vx_catch hown [⟨0, 11, 14, 19⟩] ⟨0, 11, 18, 21⟩ [] (hT.trans rfl) (by intro z hz; simp only [List.mem_cons, List.not_mem_nil, or_false] at hz; rcases hz with rfl <;> first | exact Or.inr ⟨by decide, "java/lang/IllegalArgumentException", hts _ wC_L_19, nc_of X nc_ISE_IAE⟩) rfl (by decide) (hts _ wC_L_21) (ca_of X wCa_java_lang_IllegalStateException_java_lang_IllegalStateException) hce hcv hcl ?_
      refine lv_astore (lv' := [(4, .ref q9), (0, .ref (gG S 10 0)), (1, .int a), (2, .int b), (3, .ref (gG S 11 0))]) hx hb dL_reader_18 hl (by decide) rfl (fun ls hl => ?_)
      refine lv_iconst (v := 2) hx hb dL_reader_20 (by decide) ?_
      exact rI X w rfl dL_reader_21 (Nat.le_of_ble_eq_true rfl) (Nat.le_of_ble_eq_true rfl) (Or.inr (Or.inl ⟨hk9, rfl, rfl⟩))
  · obtain ⟨hk9, rfl, hC9, hB9⟩ := hp
    have hO1 : OneO S1 := hO.keepB hB9
    have eO1 : gG S 11 0 = gG S1 11 0 := (hB9.G (t := 11) (i := 0) rfl).symm
    refine lv_i2l hx hb dL_reader_7 rfl ?_
    refine rE1 eO1 ?_
    refine pN_n (S := S1) (x := ((nI cn.2.2.2.1).toInt64)) X w hO1.1 hO1.2 wFN_L_13 dL_reader_8 (fun H locs w => ?_)
    refine lv_goto (tgt := 22) hx hb dL_reader_11 (by decide) ?_
    refine lv_iconst (v := 0) hx hb dL_reader_22 (by decide) ?_
    exact rI X w rfl dL_reader_23 (Nat.le_of_ble_eq_true rfl) (Nat.le_of_ble_eq_true rfl) (Or.inr (Or.inr (⟨hk9, rfl, S1, hC9, hB9, rfl⟩)))

theorem dL_ask_0 : decode cL_ask 0 = .ok (.aload 4, 2) := by decide +kernel
theorem dL_ask_2 : decode cL_ask 2 = .ok (.aload_n 0, 1) := by decide +kernel
theorem dL_ask_3 : decode cL_ask 3 = .ok (.iload_n 1, 1) := by decide +kernel
theorem dL_ask_4 : decode cL_ask 4 = .ok (.iload_n 2, 1) := by decide +kernel
theorem dL_ask_5 : decode cL_ask 5 = .ok (.iload_n 3, 1) := by decide +kernel
theorem dL_ask_6 : decode cL_ask 6 = .ok (.invokevirtual 52, 3) := by decide +kernel
theorem dL_ask_9 : decode cL_ask 9 = .ok (.i2l, 1) := by decide +kernel
theorem dL_ask_10 : decode cL_ask 10 = .ok (.putfield 13, 3) := by decide +kernel
theorem dL_ask_13 : decode cL_ask 13 = .ok (.goto 11, 3) := by decide +kernel
theorem dL_ask_16 : decode cL_ask 16 = .ok (.astore 5, 2) := by decide +kernel
theorem dL_ask_18 : decode cL_ask 18 = .ok (.iconst 1, 1) := by decide +kernel
theorem dL_ask_19 : decode cL_ask 19 = .ok (.ireturn, 1) := by decide +kernel
theorem dL_ask_20 : decode cL_ask 20 = .ok (.astore 5, 2) := by decide +kernel
theorem dL_ask_22 : decode cL_ask 22 = .ok (.iconst 2, 1) := by decide +kernel
theorem dL_ask_23 : decode cL_ask 23 = .ok (.ireturn, 1) := by decide +kernel
theorem dL_ask_24 : decode cL_ask 24 = .ok (.iconst 0, 1) := by decide +kernel
theorem dL_ask_25 : decode cL_ask 25 = .ok (.ireturn, 1) := by decide +kernel
abbrev rm_w_L_ask : Room := { frames := 7, cells := 1, slots := 6, locals := 114 }
set_option maxHeartbeats 4000000 in
set_option maxRecDepth 100000 in
theorem w_L_ask {s0 : State} {l : Launch} {D : va_G} {cy : Nat → ClassId} (G : Gl s0 l D cy) (S : HS) {cn : Cn} (hC : CX (eaOf s0) S cn) (hO : OneO S) (hV10 : vV S 10 0) (a b d : Int32) : CtrH s0 l D cy yL_ask cL_ask 6 [(0, 13, 16, 27), (0, 13, 20, 19)] (some .int) rm_w_L_ask S [.ref (gG S 10 0), .int a, .int b, .int d, .ref (gG S 11 0)] (fun v S' => (asK cn.2.2.2.1 a b d = 1 ∧ some (.int 1) = v ∧ S = S') ∨ (asK cn.2.2.2.1 a b d = 2 ∧ some (.int 2) = v ∧ S = S') ∨ (asK cn.2.2.2.1 a b d = 0 ∧ some (.int 0) = v ∧ ∃ S1 : HS, CX (eaOf s0) S1 (cn.1, cn.2.1, cn.2.2.1, cn.2.2.2.1, cn.2.2.2.2.1, cn.2.2.2.2.2.1, asA cn.2.2.2.2.2.2 a.toNatClampNeg b d) ∧ KeepB S S1 ∧ S' = (sL S1 176 (Int32.toInt64 (asF (asA cn.2.2.2.2.2.2 a.toNatClampNeg b d) a.toNatClampNeg cn.2.2.2.2.1))))) := by
  refine proH "CavershamShiftLaw" G rfl rfl (Nat.le_of_ble_eq_true rfl) (fun p e s m below meth c ls X w hT hl => ?_)
  have hx := X.1
  have hb := X.2.1
  have hown := X.2.2.2.1
  have hts := X.2.2.2.2.1
  have hl : lv_has ls 6 [(0, .ref (gG S 10 0)), (1, .int a), (2, .int b), (3, .int d), (4, .ref (gG S 11 0))] := hl
  refine lv_aload hx hb dL_ask_0 (lv_at hl 4 rfl) ?_
  refine lv_aload_n hx hb dL_ask_2 rfl (lv_at hl 0 rfl) ?_
  refine lv_iload_n hx hb dL_ask_3 rfl (lv_at hl 1 rfl) ?_
  refine lv_iload_n hx hb dL_ask_4 rfl (lv_at hl 2 rfl) ?_
  refine lv_iload_n hx hb dL_ask_5 rfl (lv_at hl 3 rfl) ?_
  refine cVX (S := S) (t := 10) (nA := 3) (As := [.int a, .int b, .int d]) (rest := [.ref (gG S 11 0)]) X w hl hV10 (k_X10_ask G S hC a b d) wY_X10_ask wM_L_52 wIn_X10_ask wSe_X10_X10_ask wI_X10 (by decide) rfl (by decide +kernel) rfl rfl dL_ask_6 ⟨Nat.le_of_ble_eq_true rfl, Nat.le_of_ble_eq_true rfl⟩ (Nat.le_of_ble_eq_true rfl) (⟨Nat.le_of_ble_eq_true rfl, Nat.le_of_ble_eq_true rfl⟩) (fun E S1 H locs q9 ce hpx w hce hcv hcl => ?_) (fun v S1 H locs hp w => ?_)
  · obtain ⟨rfl, hE⟩ := hpx
    rcases hE with ⟨rfl, hk9⟩ | ⟨rfl, hk9⟩
    · refine vx_catch hown [] ⟨0, 13, 16, 27⟩ [⟨0, 13, 20, 19⟩] (hT.trans rfl) (fun z hz => absurd hz List.not_mem_nil) rfl (by decide) (hts _ wC_L_27) (ca_of X wCa_java_lang_IndexOutOfBoundsException_java_lang_IndexOutOfBoundsException) hce hcv hcl ?_
      refine lv_astore (lv' := [(5, .ref q9), (0, .ref (gG S 10 0)), (1, .int a), (2, .int b), (3, .int d), (4, .ref (gG S 11 0))]) hx hb dL_ask_16 hl (by decide) rfl (fun ls hl => ?_)
      refine lv_iconst (v := 1) hx hb dL_ask_18 (by decide) ?_
      exact rI X w rfl dL_ask_19 (Nat.le_of_ble_eq_true rfl) (Nat.le_of_ble_eq_true rfl) (Or.inl ⟨hk9, rfl, rfl⟩)
    · refine vx_catch hown [⟨0, 13, 16, 27⟩] ⟨0, 13, 20, 19⟩ [] (hT.trans rfl) (by intro z hz; simp only [List.mem_cons, List.not_mem_nil, or_false] at hz; rcases hz with rfl <;> first | exact Or.inr ⟨by decide, "java/lang/IndexOutOfBoundsException", hts _ wC_L_27, nc_of X nc_IAE_IOB⟩) rfl (by decide) (hts _ wC_L_19) (ca_of X wCa_java_lang_IllegalArgumentException_java_lang_IllegalArgumentException) hce hcv hcl ?_
      refine lv_astore (lv' := [(5, .ref q9), (0, .ref (gG S 10 0)), (1, .int a), (2, .int b), (3, .int d), (4, .ref (gG S 11 0))]) hx hb dL_ask_20 hl (by decide) rfl (fun ls hl => ?_)
      refine lv_iconst (v := 2) hx hb dL_ask_22 (by decide) ?_
      exact rI X w rfl dL_ask_23 (Nat.le_of_ble_eq_true rfl) (Nat.le_of_ble_eq_true rfl) (Or.inr (Or.inl ⟨hk9, rfl, rfl⟩))
  · obtain ⟨hk9, rfl, hC9, hB9⟩ := hp
    have hO1 : OneO S1 := hO.keepB hB9
    have eO1 : gG S 11 0 = gG S1 11 0 := (hB9.G (t := 11) (i := 0) rfl).symm
    refine lv_i2l hx hb dL_ask_9 rfl ?_
    refine rE1 eO1 ?_
    refine pN_n (S := S1) (x := ((asF (asA cn.2.2.2.2.2.2 a.toNatClampNeg b d) a.toNatClampNeg cn.2.2.2.2.1).toInt64)) X w hO1.1 hO1.2 wFN_L_13 dL_ask_10 (fun H locs w => ?_)
    refine lv_goto (tgt := 24) hx hb dL_ask_13 (by decide) ?_
    refine lv_iconst (v := 0) hx hb dL_ask_24 (by decide) ?_
    exact rI X w rfl dL_ask_25 (Nat.le_of_ble_eq_true rfl) (Nat.le_of_ble_eq_true rfl) (Or.inr (Or.inr (⟨hk9, rfl, S1, hC9, hB9, rfl⟩)))

theorem dL_partner_0 : decode cL_partner 0 = .ok (.aload_n 2, 1) := by decide +kernel
theorem dL_partner_1 : decode cL_partner 1 = .ok (.aload_n 0, 1) := by decide +kernel
theorem dL_partner_2 : decode cL_partner 2 = .ok (.iload_n 1, 1) := by decide +kernel
theorem dL_partner_3 : decode cL_partner 3 = .ok (.invokevirtual 56, 3) := by decide +kernel
theorem dL_partner_6 : decode cL_partner 6 = .ok (.i2l, 1) := by decide +kernel
theorem dL_partner_7 : decode cL_partner 7 = .ok (.putfield 13, 3) := by decide +kernel
theorem dL_partner_10 : decode cL_partner 10 = .ok (.goto 6, 3) := by decide +kernel
theorem dL_partner_13 : decode cL_partner 13 = .ok (.astore_n 3, 1) := by decide +kernel
theorem dL_partner_14 : decode cL_partner 14 = .ok (.iconst 1, 1) := by decide +kernel
theorem dL_partner_15 : decode cL_partner 15 = .ok (.ireturn, 1) := by decide +kernel
theorem dL_partner_16 : decode cL_partner 16 = .ok (.iconst 0, 1) := by decide +kernel
theorem dL_partner_17 : decode cL_partner 17 = .ok (.ireturn, 1) := by decide +kernel
abbrev rm_w_L_partner : Room := { frames := 7, cells := 1, slots := 6, locals := 112 }
set_option maxHeartbeats 4000000 in
set_option maxRecDepth 100000 in
theorem w_L_partner {s0 : State} {l : Launch} {D : va_G} {cy : Nat → ClassId} (G : Gl s0 l D cy) (S : HS) {cn : Cn} (hC : CX (eaOf s0) S cn) (hO : OneO S) (hV10 : vV S 10 0) (a : Int32) : CtrH s0 l D cy yL_partner cL_partner 4 [(0, 10, 13, 19)] (some .int) rm_w_L_partner S [.ref (gG S 10 0), .int a, .ref (gG S 11 0)] (fun v S' => (paK a = 1 ∧ some (.int 1) = v ∧ S = S') ∨ (paK a = 0 ∧ some (.int 0) = v ∧ ∃ S1 : HS, CX (eaOf s0) S1 (cn.1, cn.2.1, cn.2.2.1, cn.2.2.2.1, cn.2.2.2.2.1, cn.2.2.2.2.2.1, sI cn.2.2.2.2.2.2 259 0 a) ∧ KeepB S S1 ∧ S' = (sL S1 176 (Int32.toInt64 (mI cn.2.2.2.2.2.2 259 0))))) := by
  refine proH "CavershamShiftLaw" G rfl rfl (Nat.le_of_ble_eq_true rfl) (fun p e s m below meth c ls X w hT hl => ?_)
  have hx := X.1
  have hb := X.2.1
  have hown := X.2.2.2.1
  have hts := X.2.2.2.2.1
  have hl : lv_has ls 4 [(0, .ref (gG S 10 0)), (1, .int a), (2, .ref (gG S 11 0))] := hl
  refine lv_aload_n hx hb dL_partner_0 rfl (lv_at hl 2 rfl) ?_
  refine lv_aload_n hx hb dL_partner_1 rfl (lv_at hl 0 rfl) ?_
  refine lv_iload_n hx hb dL_partner_2 rfl (lv_at hl 1 rfl) ?_
  refine cVX (S := S) (t := 10) (nA := 1) (As := [.int a]) (rest := [.ref (gG S 11 0)]) X w hl hV10 (k_X10_partner G S hC a) wY_X10_partner wM_L_56 wIn_X10_partner wSe_X10_X10_partner wI_X10 (by decide) rfl (by decide +kernel) rfl rfl dL_partner_3 ⟨Nat.le_of_ble_eq_true rfl, Nat.le_of_ble_eq_true rfl⟩ (Nat.le_of_ble_eq_true rfl) (⟨Nat.le_of_ble_eq_true rfl, Nat.le_of_ble_eq_true rfl⟩) (fun E S1 H locs q9 ce hpx w hce hcv hcl => ?_) (fun v S1 H locs hp w => ?_)
  · obtain ⟨rfl, hE⟩ := hpx
    obtain ⟨rfl, hk9⟩ := hE
    · refine vx_catch hown [] ⟨0, 10, 13, 19⟩ [] (hT.trans rfl) (fun z hz => absurd hz List.not_mem_nil) rfl (by decide) (hts _ wC_L_19) (ca_of X wCa_java_lang_IllegalArgumentException_java_lang_IllegalArgumentException) hce hcv hcl ?_
      refine lv_astore_n (lv' := [(3, .ref q9), (0, .ref (gG S 10 0)), (1, .int a), (2, .ref (gG S 11 0))]) hx hb dL_partner_13 rfl hl (by decide) rfl (fun ls hl => ?_)
      refine lv_iconst (v := 1) hx hb dL_partner_14 (by decide) ?_
      exact rI X w rfl dL_partner_15 (Nat.le_of_ble_eq_true rfl) (Nat.le_of_ble_eq_true rfl) (Or.inl ⟨hk9, rfl, rfl⟩)
  · obtain ⟨hk9, rfl, hC9, hB9⟩ := hp
    have hO1 : OneO S1 := hO.keepB hB9
    have eO1 : gG S 11 0 = gG S1 11 0 := (hB9.G (t := 11) (i := 0) rfl).symm
    refine lv_i2l hx hb dL_partner_6 rfl ?_
    refine rE1 eO1 ?_
    refine pN_n (S := S1) (x := ((mI cn.2.2.2.2.2.2 259 0).toInt64)) X w hO1.1 hO1.2 wFN_L_13 dL_partner_7 (fun H locs w => ?_)
    refine lv_goto (tgt := 16) hx hb dL_partner_10 (by decide) ?_
    refine lv_iconst (v := 0) hx hb dL_partner_16 (by decide) ?_
    exact rI X w rfl dL_partner_17 (Nat.le_of_ble_eq_true rfl) (Nat.le_of_ble_eq_true rfl) (Or.inr (⟨hk9, rfl, S1, hC9, hB9, rfl⟩))

theorem dL_ofStation_0 : decode cL_ofStation 0 = .ok (.aload_n 3, 1) := by decide +kernel
theorem dL_ofStation_1 : decode cL_ofStation 1 = .ok (.aload_n 0, 1) := by decide +kernel
theorem dL_ofStation_2 : decode cL_ofStation 2 = .ok (.iload_n 1, 1) := by decide +kernel
theorem dL_ofStation_3 : decode cL_ofStation 3 = .ok (.iload_n 2, 1) := by decide +kernel
theorem dL_ofStation_4 : decode cL_ofStation 4 = .ok (.invokevirtual 62, 3) := by decide +kernel
theorem dL_ofStation_7 : decode cL_ofStation 7 = .ok (.i2l, 1) := by decide +kernel
theorem dL_ofStation_8 : decode cL_ofStation 8 = .ok (.putfield 13, 3) := by decide +kernel
theorem dL_ofStation_11 : decode cL_ofStation 11 = .ok (.goto 11, 3) := by decide +kernel
theorem dL_ofStation_14 : decode cL_ofStation 14 = .ok (.astore 4, 2) := by decide +kernel
theorem dL_ofStation_16 : decode cL_ofStation 16 = .ok (.iconst 1, 1) := by decide +kernel
theorem dL_ofStation_17 : decode cL_ofStation 17 = .ok (.ireturn, 1) := by decide +kernel
theorem dL_ofStation_18 : decode cL_ofStation 18 = .ok (.astore 4, 2) := by decide +kernel
theorem dL_ofStation_20 : decode cL_ofStation 20 = .ok (.iconst 2, 1) := by decide +kernel
theorem dL_ofStation_21 : decode cL_ofStation 21 = .ok (.ireturn, 1) := by decide +kernel
theorem dL_ofStation_22 : decode cL_ofStation 22 = .ok (.iconst 0, 1) := by decide +kernel
theorem dL_ofStation_23 : decode cL_ofStation 23 = .ok (.ireturn, 1) := by decide +kernel
abbrev rm_w_L_ofStation : Room := { frames := 7, cells := 1, slots := 6, locals := 134 }
set_option maxHeartbeats 4000000 in
set_option maxRecDepth 100000 in
theorem w_L_ofStation {s0 : State} {l : Launch} {D : va_G} {cy : Nat → ClassId} (G : Gl s0 l D cy) (S : HS) {cn : Cn} (hC : CX (eaOf s0) S cn) (hO : OneO S) (hV10 : vV S 10 0) (a b : Int32) : CtrH s0 l D cy yL_ofStation cL_ofStation 5 [(0, 11, 14, 27), (0, 11, 18, 19)] (some .int) rm_w_L_ofStation S [.ref (gG S 10 0), .int a, .int b, .ref (gG S 11 0)] (fun v S' => (dK cn.1 8 a b = 1 ∧ some (.int 1) = v ∧ S = S') ∨ (dK cn.1 8 a b = 2 ∧ some (.int 2) = v ∧ S = S') ∨ (dK cn.1 8 a b = 0 ∧ some (.int 0) = v ∧ ∃ S1 : HS, CX (eaOf s0) S1 cn ∧ KeepB S S1 ∧ S' = (sL S1 176 (Int32.toInt64 (rStaNow cn.2.2.2.2.2.2 cn.1 cn.2.1 cn.2.2.2.2.1 a.toNatClampNeg b.toNatClampNeg))))) := by
  refine proH "CavershamShiftLaw" G rfl rfl (Nat.le_of_ble_eq_true rfl) (fun p e s m below meth c ls X w hT hl => ?_)
  have hx := X.1
  have hb := X.2.1
  have hown := X.2.2.2.1
  have hts := X.2.2.2.2.1
  have hl : lv_has ls 5 [(0, .ref (gG S 10 0)), (1, .int a), (2, .int b), (3, .ref (gG S 11 0))] := hl
  refine lv_aload_n hx hb dL_ofStation_0 rfl (lv_at hl 3 rfl) ?_
  refine lv_aload_n hx hb dL_ofStation_1 rfl (lv_at hl 0 rfl) ?_
  refine lv_iload_n hx hb dL_ofStation_2 rfl (lv_at hl 1 rfl) ?_
  refine lv_iload_n hx hb dL_ofStation_3 rfl (lv_at hl 2 rfl) ?_
  refine cVX (S := S) (t := 10) (nA := 2) (As := [.int a, .int b]) (rest := [.ref (gG S 11 0)]) X w hl hV10 (k_X10_ofStation G S hC a b) wY_X10_ofStation wM_L_62 wIn_X10_ofStation wSe_X10_X10_ofStation wI_X10 (by decide) rfl (by decide +kernel) rfl rfl dL_ofStation_4 ⟨Nat.le_of_ble_eq_true rfl, Nat.le_of_ble_eq_true rfl⟩ (Nat.le_of_ble_eq_true rfl) (⟨Nat.le_of_ble_eq_true rfl, Nat.le_of_ble_eq_true rfl⟩) (fun E S1 H locs q9 ce hpx w hce hcv hcl => ?_) (fun v S1 H locs hp w => ?_)
  · obtain ⟨rfl, hE⟩ := hpx
    rcases hE with ⟨rfl, hk9⟩ | ⟨rfl, hk9⟩
    · refine vx_catch hown [] ⟨0, 11, 14, 27⟩ [⟨0, 11, 18, 19⟩] (hT.trans rfl) (fun z hz => absurd hz List.not_mem_nil) rfl (by decide) (hts _ wC_L_27) (ca_of X wCa_java_lang_IndexOutOfBoundsException_java_lang_IndexOutOfBoundsException) hce hcv hcl ?_
      refine lv_astore (lv' := [(4, .ref q9), (0, .ref (gG S 10 0)), (1, .int a), (2, .int b), (3, .ref (gG S 11 0))]) hx hb dL_ofStation_14 hl (by decide) rfl (fun ls hl => ?_)
      refine lv_iconst (v := 1) hx hb dL_ofStation_16 (by decide) ?_
      exact rI X w rfl dL_ofStation_17 (Nat.le_of_ble_eq_true rfl) (Nat.le_of_ble_eq_true rfl) (Or.inl ⟨hk9, rfl, rfl⟩)
    · refine vx_catch hown [⟨0, 11, 14, 27⟩] ⟨0, 11, 18, 19⟩ [] (hT.trans rfl) (by intro z hz; simp only [List.mem_cons, List.not_mem_nil, or_false] at hz; rcases hz with rfl <;> first | exact Or.inr ⟨by decide, "java/lang/IndexOutOfBoundsException", hts _ wC_L_27, nc_of X nc_IAE_IOB⟩) rfl (by decide) (hts _ wC_L_19) (ca_of X wCa_java_lang_IllegalArgumentException_java_lang_IllegalArgumentException) hce hcv hcl ?_
      refine lv_astore (lv' := [(4, .ref q9), (0, .ref (gG S 10 0)), (1, .int a), (2, .int b), (3, .ref (gG S 11 0))]) hx hb dL_ofStation_18 hl (by decide) rfl (fun ls hl => ?_)
      refine lv_iconst (v := 2) hx hb dL_ofStation_20 (by decide) ?_
      exact rI X w rfl dL_ofStation_21 (Nat.le_of_ble_eq_true rfl) (Nat.le_of_ble_eq_true rfl) (Or.inr (Or.inl ⟨hk9, rfl, rfl⟩))
  · obtain ⟨hk9, rfl, hC9, hB9⟩ := hp
    have hO1 : OneO S1 := hO.keepB hB9
    have eO1 : gG S 11 0 = gG S1 11 0 := (hB9.G (t := 11) (i := 0) rfl).symm
    refine lv_i2l hx hb dL_ofStation_7 rfl ?_
    refine rE1 eO1 ?_
    refine pN_n (S := S1) (x := ((rStaNow cn.2.2.2.2.2.2 cn.1 cn.2.1 cn.2.2.2.2.1 a.toNatClampNeg b.toNatClampNeg).toInt64)) X w hO1.1 hO1.2 wFN_L_13 dL_ofStation_8 (fun H locs w => ?_)
    refine lv_goto (tgt := 22) hx hb dL_ofStation_11 (by decide) ?_
    refine lv_iconst (v := 0) hx hb dL_ofStation_22 (by decide) ?_
    exact rI X w rfl dL_ofStation_23 (Nat.le_of_ble_eq_true rfl) (Nat.le_of_ble_eq_true rfl) (Or.inr (Or.inr (⟨hk9, rfl, S1, hC9, hB9, rfl⟩)))

theorem dL_comes_0 : decode cL_comes 0 = .ok (.aload_n 3, 1) := by decide +kernel
theorem dL_comes_1 : decode cL_comes 1 = .ok (.aload_n 0, 1) := by decide +kernel
theorem dL_comes_2 : decode cL_comes 2 = .ok (.iload_n 1, 1) := by decide +kernel
theorem dL_comes_3 : decode cL_comes 3 = .ok (.iload_n 2, 1) := by decide +kernel
theorem dL_comes_4 : decode cL_comes 4 = .ok (.invokevirtual 65, 3) := by decide +kernel
theorem dL_comes_7 : decode cL_comes 7 = .ok (.i2l, 1) := by decide +kernel
theorem dL_comes_8 : decode cL_comes 8 = .ok (.putfield 13, 3) := by decide +kernel
theorem dL_comes_11 : decode cL_comes 11 = .ok (.goto 7, 3) := by decide +kernel
theorem dL_comes_14 : decode cL_comes 14 = .ok (.astore 4, 2) := by decide +kernel
theorem dL_comes_16 : decode cL_comes 16 = .ok (.iconst 1, 1) := by decide +kernel
theorem dL_comes_17 : decode cL_comes 17 = .ok (.ireturn, 1) := by decide +kernel
theorem dL_comes_18 : decode cL_comes 18 = .ok (.iconst 0, 1) := by decide +kernel
theorem dL_comes_19 : decode cL_comes 19 = .ok (.ireturn, 1) := by decide +kernel
abbrev rm_w_L_comes : Room := { frames := 7, cells := 1, slots := 6, locals := 113 }
set_option maxHeartbeats 4000000 in
set_option maxRecDepth 100000 in
theorem w_L_comes {s0 : State} {l : Launch} {D : va_G} {cy : Nat → ClassId} (G : Gl s0 l D cy) (S : HS) {cn : Cn} (hC : CX (eaOf s0) S cn) (hO : OneO S) (hV10 : vV S 10 0) (a b : Int32) : CtrH s0 l D cy yL_comes cL_comes 5 [(0, 11, 14, 27)] (some .int) rm_w_L_comes S [.ref (gG S 10 0), .int a, .int b, .ref (gG S 11 0)] (fun v S' => (coK cn.1 a b = 1 ∧ some (.int 1) = v ∧ S = S') ∨ (coK cn.1 a b = 0 ∧ some (.int 0) = v ∧ ∃ S1 : HS, CX (eaOf s0) S1 cn ∧ KeepB S S1 ∧ S' = (sL S1 176 (Int32.toInt64 (rComes cn.2.2.2.2.2.2 cn.1 cn.2.1 a.toNatClampNeg b))))) := by
  refine proH "CavershamShiftLaw" G rfl rfl (Nat.le_of_ble_eq_true rfl) (fun p e s m below meth c ls X w hT hl => ?_)
  have hx := X.1
  have hb := X.2.1
  have hown := X.2.2.2.1
  have hts := X.2.2.2.2.1
  have hl : lv_has ls 5 [(0, .ref (gG S 10 0)), (1, .int a), (2, .int b), (3, .ref (gG S 11 0))] := hl
  refine lv_aload_n hx hb dL_comes_0 rfl (lv_at hl 3 rfl) ?_
  refine lv_aload_n hx hb dL_comes_1 rfl (lv_at hl 0 rfl) ?_
  refine lv_iload_n hx hb dL_comes_2 rfl (lv_at hl 1 rfl) ?_
  refine lv_iload_n hx hb dL_comes_3 rfl (lv_at hl 2 rfl) ?_
  refine cVX (S := S) (t := 10) (nA := 2) (As := [.int a, .int b]) (rest := [.ref (gG S 11 0)]) X w hl hV10 (k_X10_comes G S hC a b) wY_X10_comes wM_L_65 wIn_X10_comes wSe_X10_X10_comes wI_X10 (by decide) rfl (by decide +kernel) rfl rfl dL_comes_4 ⟨Nat.le_of_ble_eq_true rfl, Nat.le_of_ble_eq_true rfl⟩ (Nat.le_of_ble_eq_true rfl) (⟨Nat.le_of_ble_eq_true rfl, Nat.le_of_ble_eq_true rfl⟩) (fun E S1 H locs q9 ce hpx w hce hcv hcl => ?_) (fun v S1 H locs hp w => ?_)
  · obtain ⟨rfl, hE⟩ := hpx
    obtain ⟨rfl, hk9⟩ := hE
    · refine vx_catch hown [] ⟨0, 11, 14, 27⟩ [] (hT.trans rfl) (fun z hz => absurd hz List.not_mem_nil) rfl (by decide) (hts _ wC_L_27) (ca_of X wCa_java_lang_IndexOutOfBoundsException_java_lang_IndexOutOfBoundsException) hce hcv hcl ?_
      refine lv_astore (lv' := [(4, .ref q9), (0, .ref (gG S 10 0)), (1, .int a), (2, .int b), (3, .ref (gG S 11 0))]) hx hb dL_comes_14 hl (by decide) rfl (fun ls hl => ?_)
      refine lv_iconst (v := 1) hx hb dL_comes_16 (by decide) ?_
      exact rI X w rfl dL_comes_17 (Nat.le_of_ble_eq_true rfl) (Nat.le_of_ble_eq_true rfl) (Or.inl ⟨hk9, rfl, rfl⟩)
  · obtain ⟨hk9, rfl, hC9, hB9⟩ := hp
    have hO1 : OneO S1 := hO.keepB hB9
    have eO1 : gG S 11 0 = gG S1 11 0 := (hB9.G (t := 11) (i := 0) rfl).symm
    refine lv_i2l hx hb dL_comes_7 rfl ?_
    refine rE1 eO1 ?_
    refine pN_n (S := S1) (x := ((rComes cn.2.2.2.2.2.2 cn.1 cn.2.1 a.toNatClampNeg b).toInt64)) X w hO1.1 hO1.2 wFN_L_13 dL_comes_8 (fun H locs w => ?_)
    refine lv_goto (tgt := 18) hx hb dL_comes_11 (by decide) ?_
    refine lv_iconst (v := 0) hx hb dL_comes_18 (by decide) ?_
    exact rI X w rfl dL_comes_19 (Nat.le_of_ble_eq_true rfl) (Nat.le_of_ble_eq_true rfl) (Or.inr (⟨hk9, rfl, S1, hC9, hB9, rfl⟩))

theorem dL_ofMonitor_0 : decode cL_ofMonitor 0 = .ok (.aload_n 3, 1) := by decide +kernel
theorem dL_ofMonitor_1 : decode cL_ofMonitor 1 = .ok (.aload_n 0, 1) := by decide +kernel
theorem dL_ofMonitor_2 : decode cL_ofMonitor 2 = .ok (.iload_n 1, 1) := by decide +kernel
theorem dL_ofMonitor_3 : decode cL_ofMonitor 3 = .ok (.iload_n 2, 1) := by decide +kernel
theorem dL_ofMonitor_4 : decode cL_ofMonitor 4 = .ok (.invokevirtual 68, 3) := by decide +kernel
theorem dL_ofMonitor_7 : decode cL_ofMonitor 7 = .ok (.i2l, 1) := by decide +kernel
theorem dL_ofMonitor_8 : decode cL_ofMonitor 8 = .ok (.putfield 13, 3) := by decide +kernel
theorem dL_ofMonitor_11 : decode cL_ofMonitor 11 = .ok (.goto 11, 3) := by decide +kernel
theorem dL_ofMonitor_14 : decode cL_ofMonitor 14 = .ok (.astore 4, 2) := by decide +kernel
theorem dL_ofMonitor_16 : decode cL_ofMonitor 16 = .ok (.iconst 1, 1) := by decide +kernel
theorem dL_ofMonitor_17 : decode cL_ofMonitor 17 = .ok (.ireturn, 1) := by decide +kernel
theorem dL_ofMonitor_18 : decode cL_ofMonitor 18 = .ok (.astore 4, 2) := by decide +kernel
theorem dL_ofMonitor_20 : decode cL_ofMonitor 20 = .ok (.iconst 2, 1) := by decide +kernel
theorem dL_ofMonitor_21 : decode cL_ofMonitor 21 = .ok (.ireturn, 1) := by decide +kernel
theorem dL_ofMonitor_22 : decode cL_ofMonitor 22 = .ok (.iconst 0, 1) := by decide +kernel
theorem dL_ofMonitor_23 : decode cL_ofMonitor 23 = .ok (.ireturn, 1) := by decide +kernel
abbrev rm_w_L_ofMonitor : Room := { frames := 7, cells := 1, slots := 6, locals := 133 }
set_option maxHeartbeats 4000000 in
set_option maxRecDepth 100000 in
theorem w_L_ofMonitor {s0 : State} {l : Launch} {D : va_G} {cy : Nat → ClassId} (G : Gl s0 l D cy) (S : HS) {cn : Cn} (hC : CX (eaOf s0) S cn) (hO : OneO S) (hV10 : vV S 10 0) (a b : Int32) : CtrH s0 l D cy yL_ofMonitor cL_ofMonitor 5 [(0, 11, 14, 27), (0, 11, 18, 19)] (some .int) rm_w_L_ofMonitor S [.ref (gG S 10 0), .int a, .int b, .ref (gG S 11 0)] (fun v S' => (dK cn.2.2.1 8 a b = 1 ∧ some (.int 1) = v ∧ S = S') ∨ (dK cn.2.2.1 8 a b = 2 ∧ some (.int 2) = v ∧ S = S') ∨ (dK cn.2.2.1 8 a b = 0 ∧ some (.int 0) = v ∧ ∃ S1 : HS, CX (eaOf s0) S1 cn ∧ KeepB S S1 ∧ S' = (sL S1 176 (Int32.toInt64 (rMonNow cn.2.2.2.2.2.2 a.toNatClampNeg b.toNatClampNeg))))) := by
  refine proH "CavershamShiftLaw" G rfl rfl (Nat.le_of_ble_eq_true rfl) (fun p e s m below meth c ls X w hT hl => ?_)
  have hx := X.1
  have hb := X.2.1
  have hown := X.2.2.2.1
  have hts := X.2.2.2.2.1
  have hl : lv_has ls 5 [(0, .ref (gG S 10 0)), (1, .int a), (2, .int b), (3, .ref (gG S 11 0))] := hl
  refine lv_aload_n hx hb dL_ofMonitor_0 rfl (lv_at hl 3 rfl) ?_
  refine lv_aload_n hx hb dL_ofMonitor_1 rfl (lv_at hl 0 rfl) ?_
  refine lv_iload_n hx hb dL_ofMonitor_2 rfl (lv_at hl 1 rfl) ?_
  refine lv_iload_n hx hb dL_ofMonitor_3 rfl (lv_at hl 2 rfl) ?_
  refine cVX (S := S) (t := 10) (nA := 2) (As := [.int a, .int b]) (rest := [.ref (gG S 11 0)]) X w hl hV10 (k_X10_ofMonitor G S hC a b) wY_X10_ofMonitor wM_L_68 wIn_X10_ofMonitor wSe_X10_X10_ofMonitor wI_X10 (by decide) rfl (by decide +kernel) rfl rfl dL_ofMonitor_4 ⟨Nat.le_of_ble_eq_true rfl, Nat.le_of_ble_eq_true rfl⟩ (Nat.le_of_ble_eq_true rfl) (⟨Nat.le_of_ble_eq_true rfl, Nat.le_of_ble_eq_true rfl⟩) (fun E S1 H locs q9 ce hpx w hce hcv hcl => ?_) (fun v S1 H locs hp w => ?_)
  · obtain ⟨rfl, hE⟩ := hpx
    rcases hE with ⟨rfl, hk9⟩ | ⟨rfl, hk9⟩
    · refine vx_catch hown [] ⟨0, 11, 14, 27⟩ [⟨0, 11, 18, 19⟩] (hT.trans rfl) (fun z hz => absurd hz List.not_mem_nil) rfl (by decide) (hts _ wC_L_27) (ca_of X wCa_java_lang_IndexOutOfBoundsException_java_lang_IndexOutOfBoundsException) hce hcv hcl ?_
      refine lv_astore (lv' := [(4, .ref q9), (0, .ref (gG S 10 0)), (1, .int a), (2, .int b), (3, .ref (gG S 11 0))]) hx hb dL_ofMonitor_14 hl (by decide) rfl (fun ls hl => ?_)
      refine lv_iconst (v := 1) hx hb dL_ofMonitor_16 (by decide) ?_
      exact rI X w rfl dL_ofMonitor_17 (Nat.le_of_ble_eq_true rfl) (Nat.le_of_ble_eq_true rfl) (Or.inl ⟨hk9, rfl, rfl⟩)
    · refine vx_catch hown [⟨0, 11, 14, 27⟩] ⟨0, 11, 18, 19⟩ [] (hT.trans rfl) (by intro z hz; simp only [List.mem_cons, List.not_mem_nil, or_false] at hz; rcases hz with rfl <;> first | exact Or.inr ⟨by decide, "java/lang/IndexOutOfBoundsException", hts _ wC_L_27, nc_of X nc_IAE_IOB⟩) rfl (by decide) (hts _ wC_L_19) (ca_of X wCa_java_lang_IllegalArgumentException_java_lang_IllegalArgumentException) hce hcv hcl ?_
      refine lv_astore (lv' := [(4, .ref q9), (0, .ref (gG S 10 0)), (1, .int a), (2, .int b), (3, .ref (gG S 11 0))]) hx hb dL_ofMonitor_18 hl (by decide) rfl (fun ls hl => ?_)
      refine lv_iconst (v := 2) hx hb dL_ofMonitor_20 (by decide) ?_
      exact rI X w rfl dL_ofMonitor_21 (Nat.le_of_ble_eq_true rfl) (Nat.le_of_ble_eq_true rfl) (Or.inr (Or.inl ⟨hk9, rfl, rfl⟩))
  · obtain ⟨hk9, rfl, hC9, hB9⟩ := hp
    have hO1 : OneO S1 := hO.keepB hB9
    have eO1 : gG S 11 0 = gG S1 11 0 := (hB9.G (t := 11) (i := 0) rfl).symm
    refine lv_i2l hx hb dL_ofMonitor_7 rfl ?_
    refine rE1 eO1 ?_
    refine pN_n (S := S1) (x := ((rMonNow cn.2.2.2.2.2.2 a.toNatClampNeg b.toNatClampNeg).toInt64)) X w hO1.1 hO1.2 wFN_L_13 dL_ofMonitor_8 (fun H locs w => ?_)
    refine lv_goto (tgt := 22) hx hb dL_ofMonitor_11 (by decide) ?_
    refine lv_iconst (v := 0) hx hb dL_ofMonitor_22 (by decide) ?_
    exact rI X w rfl dL_ofMonitor_23 (Nat.le_of_ble_eq_true rfl) (Nat.le_of_ble_eq_true rfl) (Or.inr (Or.inr (⟨hk9, rfl, S1, hC9, hB9, rfl⟩)))

theorem dL_sits_0 : decode cL_sits 0 = .ok (.aload 4, 2) := by decide +kernel
theorem dL_sits_2 : decode cL_sits 2 = .ok (.aload_n 0, 1) := by decide +kernel
theorem dL_sits_3 : decode cL_sits 3 = .ok (.iload_n 1, 1) := by decide +kernel
theorem dL_sits_4 : decode cL_sits 4 = .ok (.iload_n 2, 1) := by decide +kernel
theorem dL_sits_5 : decode cL_sits 5 = .ok (.iload_n 3, 1) := by decide +kernel
theorem dL_sits_6 : decode cL_sits 6 = .ok (.invokevirtual 71, 3) := by decide +kernel
theorem dL_sits_9 : decode cL_sits 9 = .ok (.i2l, 1) := by decide +kernel
theorem dL_sits_10 : decode cL_sits 10 = .ok (.putfield 13, 3) := by decide +kernel
theorem dL_sits_13 : decode cL_sits 13 = .ok (.goto 7, 3) := by decide +kernel
theorem dL_sits_16 : decode cL_sits 16 = .ok (.astore 5, 2) := by decide +kernel
theorem dL_sits_18 : decode cL_sits 18 = .ok (.iconst 1, 1) := by decide +kernel
theorem dL_sits_19 : decode cL_sits 19 = .ok (.ireturn, 1) := by decide +kernel
theorem dL_sits_20 : decode cL_sits 20 = .ok (.iconst 0, 1) := by decide +kernel
theorem dL_sits_21 : decode cL_sits 21 = .ok (.ireturn, 1) := by decide +kernel
abbrev rm_w_L_sits : Room := { frames := 7, cells := 1, slots := 6, locals := 113 }
set_option maxHeartbeats 4000000 in
set_option maxRecDepth 100000 in
theorem w_L_sits {s0 : State} {l : Launch} {D : va_G} {cy : Nat → ClassId} (G : Gl s0 l D cy) (S : HS) {cn : Cn} (hC : CX (eaOf s0) S cn) (hO : OneO S) (hV10 : vV S 10 0) (a b z : Int32) : CtrH s0 l D cy yL_sits cL_sits 6 [(0, 13, 16, 27)] (some .int) rm_w_L_sits S [.ref (gG S 10 0), .int a, .int b, .int z, .ref (gG S 11 0)] (fun v S' => (siK a b = 1 ∧ some (.int 1) = v ∧ S = S') ∨ (siK a b = 0 ∧ some (.int 0) = v ∧ ∃ S1 : HS, CX (eaOf s0) S1 cn ∧ KeepB S S1 ∧ S' = (sL S1 176 (Int32.toInt64 (if z = 0 then mA cn.2.2.2.2.2.2 36 a.toNatClampNeg b.toNatClampNeg else mA cn.2.2.2.2.2.2 37 a.toNatClampNeg b.toNatClampNeg))))) := by
  refine proH "CavershamShiftLaw" G rfl rfl (Nat.le_of_ble_eq_true rfl) (fun p e s m below meth c ls X w hT hl => ?_)
  have hx := X.1
  have hb := X.2.1
  have hown := X.2.2.2.1
  have hts := X.2.2.2.2.1
  have hl : lv_has ls 6 [(0, .ref (gG S 10 0)), (1, .int a), (2, .int b), (3, .int z), (4, .ref (gG S 11 0))] := hl
  refine lv_aload hx hb dL_sits_0 (lv_at hl 4 rfl) ?_
  refine lv_aload_n hx hb dL_sits_2 rfl (lv_at hl 0 rfl) ?_
  refine lv_iload_n hx hb dL_sits_3 rfl (lv_at hl 1 rfl) ?_
  refine lv_iload_n hx hb dL_sits_4 rfl (lv_at hl 2 rfl) ?_
  refine lv_iload_n hx hb dL_sits_5 rfl (lv_at hl 3 rfl) ?_
  refine cVX (S := S) (t := 10) (nA := 3) (As := [.int a, .int b, .int z]) (rest := [.ref (gG S 11 0)]) X w hl hV10 (k_X10_sits G S hC a b z) wY_X10_sits wM_L_71 wIn_X10_sits wSe_X10_X10_sits wI_X10 (by decide) rfl (by decide +kernel) rfl rfl dL_sits_6 ⟨Nat.le_of_ble_eq_true rfl, Nat.le_of_ble_eq_true rfl⟩ (Nat.le_of_ble_eq_true rfl) (⟨Nat.le_of_ble_eq_true rfl, Nat.le_of_ble_eq_true rfl⟩) (fun E S1 H locs q9 ce hpx w hce hcv hcl => ?_) (fun v S1 H locs hp w => ?_)
  · obtain ⟨rfl, hE⟩ := hpx
    obtain ⟨rfl, hk9⟩ := hE
    · refine vx_catch hown [] ⟨0, 13, 16, 27⟩ [] (hT.trans rfl) (fun z hz => absurd hz List.not_mem_nil) rfl (by decide) (hts _ wC_L_27) (ca_of X wCa_java_lang_IndexOutOfBoundsException_java_lang_IndexOutOfBoundsException) hce hcv hcl ?_
      refine lv_astore (lv' := [(5, .ref q9), (0, .ref (gG S 10 0)), (1, .int a), (2, .int b), (3, .int z), (4, .ref (gG S 11 0))]) hx hb dL_sits_16 hl (by decide) rfl (fun ls hl => ?_)
      refine lv_iconst (v := 1) hx hb dL_sits_18 (by decide) ?_
      exact rI X w rfl dL_sits_19 (Nat.le_of_ble_eq_true rfl) (Nat.le_of_ble_eq_true rfl) (Or.inl ⟨hk9, rfl, rfl⟩)
  · obtain ⟨hk9, rfl, hC9, hB9⟩ := hp
    have hO1 : OneO S1 := hO.keepB hB9
    have eO1 : gG S 11 0 = gG S1 11 0 := (hB9.G (t := 11) (i := 0) rfl).symm
    refine lv_i2l hx hb dL_sits_9 rfl ?_
    refine rE1 eO1 ?_
    refine pN_n (S := S1) (x := ((if z = 0 then mA cn.2.2.2.2.2.2 36 a.toNatClampNeg b.toNatClampNeg else mA cn.2.2.2.2.2.2 37 a.toNatClampNeg b.toNatClampNeg).toInt64)) X w hO1.1 hO1.2 wFN_L_13 dL_sits_10 (fun H locs w => ?_)
    refine lv_goto (tgt := 20) hx hb dL_sits_13 (by decide) ?_
    refine lv_iconst (v := 0) hx hb dL_sits_20 (by decide) ?_
    exact rI X w rfl dL_sits_21 (Nat.le_of_ble_eq_true rfl) (Nat.le_of_ble_eq_true rfl) (Or.inr (⟨hk9, rfl, S1, hC9, hB9, rfl⟩))

theorem dL_quality_0 : decode cL_quality 0 = .ok (.aload 4, 2) := by decide +kernel
theorem dL_quality_2 : decode cL_quality 2 = .ok (.aload_n 0, 1) := by decide +kernel
theorem dL_quality_3 : decode cL_quality 3 = .ok (.iload_n 1, 1) := by decide +kernel
theorem dL_quality_4 : decode cL_quality 4 = .ok (.iload_n 2, 1) := by decide +kernel
theorem dL_quality_5 : decode cL_quality 5 = .ok (.iload_n 3, 1) := by decide +kernel
theorem dL_quality_6 : decode cL_quality 6 = .ok (.invokevirtual 75, 3) := by decide +kernel
theorem dL_quality_9 : decode cL_quality 9 = .ok (.i2l, 1) := by decide +kernel
theorem dL_quality_10 : decode cL_quality 10 = .ok (.putfield 13, 3) := by decide +kernel
theorem dL_quality_13 : decode cL_quality 13 = .ok (.goto 7, 3) := by decide +kernel
theorem dL_quality_16 : decode cL_quality 16 = .ok (.astore 5, 2) := by decide +kernel
theorem dL_quality_18 : decode cL_quality 18 = .ok (.iconst 1, 1) := by decide +kernel
theorem dL_quality_19 : decode cL_quality 19 = .ok (.ireturn, 1) := by decide +kernel
theorem dL_quality_20 : decode cL_quality 20 = .ok (.iconst 0, 1) := by decide +kernel
theorem dL_quality_21 : decode cL_quality 21 = .ok (.ireturn, 1) := by decide +kernel
abbrev rm_w_L_quality : Room := { frames := 7, cells := 1, slots := 6, locals := 139 }
set_option maxHeartbeats 4000000 in
set_option maxRecDepth 100000 in
theorem w_L_quality {s0 : State} {l : Launch} {D : va_G} {cy : Nat → ClassId} (G : Gl s0 l D cy) (S : HS) {cn : Cn} (hC : CX (eaOf s0) S cn) (hO : OneO S) (hV10 : vV S 10 0) (a b d : Int32) : CtrH s0 l D cy yL_quality cL_quality 6 [(0, 13, 16, 27)] (some .int) rm_w_L_quality S [.ref (gG S 10 0), .int a, .int b, .int d, .ref (gG S 11 0)] (fun v S' => (quK cn.1 cn.2.2.1 a b d = 1 ∧ some (.int 1) = v ∧ S = S') ∨ (quK cn.1 cn.2.2.1 a b d = 0 ∧ some (.int 0) = v ∧ ∃ S1 : HS, CX (eaOf s0) S1 cn ∧ KeepB S S1 ∧ S' = (sL S1 176 (Int32.toInt64 (rQual cn.2.2.2.2.2.2 cn.1 cn.2.1 a.toNatClampNeg b.toNatClampNeg d))))) := by
  refine proH "CavershamShiftLaw" G rfl rfl (Nat.le_of_ble_eq_true rfl) (fun p e s m below meth c ls X w hT hl => ?_)
  have hx := X.1
  have hb := X.2.1
  have hown := X.2.2.2.1
  have hts := X.2.2.2.2.1
  have hl : lv_has ls 6 [(0, .ref (gG S 10 0)), (1, .int a), (2, .int b), (3, .int d), (4, .ref (gG S 11 0))] := hl
  refine lv_aload hx hb dL_quality_0 (lv_at hl 4 rfl) ?_
  refine lv_aload_n hx hb dL_quality_2 rfl (lv_at hl 0 rfl) ?_
  refine lv_iload_n hx hb dL_quality_3 rfl (lv_at hl 1 rfl) ?_
  refine lv_iload_n hx hb dL_quality_4 rfl (lv_at hl 2 rfl) ?_
  refine lv_iload_n hx hb dL_quality_5 rfl (lv_at hl 3 rfl) ?_
  refine cVX (S := S) (t := 10) (nA := 3) (As := [.int a, .int b, .int d]) (rest := [.ref (gG S 11 0)]) X w hl hV10 (k_X10_quality G S hC a b d) wY_X10_quality wM_L_75 wIn_X10_quality wSe_X10_X10_quality wI_X10 (by decide) rfl (by decide +kernel) rfl rfl dL_quality_6 ⟨Nat.le_of_ble_eq_true rfl, Nat.le_of_ble_eq_true rfl⟩ (Nat.le_of_ble_eq_true rfl) (⟨Nat.le_of_ble_eq_true rfl, Nat.le_of_ble_eq_true rfl⟩) (fun E S1 H locs q9 ce hpx w hce hcv hcl => ?_) (fun v S1 H locs hp w => ?_)
  · obtain ⟨rfl, hE⟩ := hpx
    obtain ⟨rfl, hk9⟩ := hE
    · refine vx_catch hown [] ⟨0, 13, 16, 27⟩ [] (hT.trans rfl) (fun z hz => absurd hz List.not_mem_nil) rfl (by decide) (hts _ wC_L_27) (ca_of X wCa_java_lang_IndexOutOfBoundsException_java_lang_IndexOutOfBoundsException) hce hcv hcl ?_
      refine lv_astore (lv' := [(5, .ref q9), (0, .ref (gG S 10 0)), (1, .int a), (2, .int b), (3, .int d), (4, .ref (gG S 11 0))]) hx hb dL_quality_16 hl (by decide) rfl (fun ls hl => ?_)
      refine lv_iconst (v := 1) hx hb dL_quality_18 (by decide) ?_
      exact rI X w rfl dL_quality_19 (Nat.le_of_ble_eq_true rfl) (Nat.le_of_ble_eq_true rfl) (Or.inl ⟨hk9, rfl, rfl⟩)
  · obtain ⟨hk9, rfl, hC9, hB9⟩ := hp
    have hO1 : OneO S1 := hO.keepB hB9
    have eO1 : gG S 11 0 = gG S1 11 0 := (hB9.G (t := 11) (i := 0) rfl).symm
    refine lv_i2l hx hb dL_quality_9 rfl ?_
    refine rE1 eO1 ?_
    refine pN_n (S := S1) (x := ((rQual cn.2.2.2.2.2.2 cn.1 cn.2.1 a.toNatClampNeg b.toNatClampNeg d).toInt64)) X w hO1.1 hO1.2 wFN_L_13 dL_quality_10 (fun H locs w => ?_)
    refine lv_goto (tgt := 20) hx hb dL_quality_13 (by decide) ?_
    refine lv_iconst (v := 0) hx hb dL_quality_20 (by decide) ?_
    exact rI X w rfl dL_quality_21 (Nat.le_of_ble_eq_true rfl) (Nat.le_of_ble_eq_true rfl) (Or.inr (⟨hk9, rfl, S1, hC9, hB9, rfl⟩))

theorem dL_ofTalk_0 : decode cL_ofTalk 0 = .ok (.aload_n 3, 1) := by decide +kernel
theorem dL_ofTalk_1 : decode cL_ofTalk 1 = .ok (.aload_n 0, 1) := by decide +kernel
theorem dL_ofTalk_2 : decode cL_ofTalk 2 = .ok (.iload_n 1, 1) := by decide +kernel
theorem dL_ofTalk_3 : decode cL_ofTalk 3 = .ok (.iload_n 2, 1) := by decide +kernel
theorem dL_ofTalk_4 : decode cL_ofTalk 4 = .ok (.invokevirtual 78, 3) := by decide +kernel
theorem dL_ofTalk_7 : decode cL_ofTalk 7 = .ok (.i2l, 1) := by decide +kernel
theorem dL_ofTalk_8 : decode cL_ofTalk 8 = .ok (.putfield 13, 3) := by decide +kernel
theorem dL_ofTalk_11 : decode cL_ofTalk 11 = .ok (.goto 11, 3) := by decide +kernel
theorem dL_ofTalk_14 : decode cL_ofTalk 14 = .ok (.astore 4, 2) := by decide +kernel
theorem dL_ofTalk_16 : decode cL_ofTalk 16 = .ok (.iconst 1, 1) := by decide +kernel
theorem dL_ofTalk_17 : decode cL_ofTalk 17 = .ok (.ireturn, 1) := by decide +kernel
theorem dL_ofTalk_18 : decode cL_ofTalk 18 = .ok (.astore 4, 2) := by decide +kernel
theorem dL_ofTalk_20 : decode cL_ofTalk 20 = .ok (.iconst 2, 1) := by decide +kernel
theorem dL_ofTalk_21 : decode cL_ofTalk 21 = .ok (.ireturn, 1) := by decide +kernel
theorem dL_ofTalk_22 : decode cL_ofTalk 22 = .ok (.iconst 0, 1) := by decide +kernel
theorem dL_ofTalk_23 : decode cL_ofTalk 23 = .ok (.ireturn, 1) := by decide +kernel
abbrev rm_w_L_ofTalk : Room := { frames := 7, cells := 1, slots := 6, locals := 113 }
set_option maxHeartbeats 4000000 in
set_option maxRecDepth 100000 in
theorem w_L_ofTalk {s0 : State} {l : Launch} {D : va_G} {cy : Nat → ClassId} (G : Gl s0 l D cy) (S : HS) {cn : Cn} (hC : CX (eaOf s0) S cn) (hO : OneO S) (hV10 : vV S 10 0) (a b : Int32) : CtrH s0 l D cy yL_ofTalk cL_ofTalk 5 [(0, 11, 14, 27), (0, 11, 18, 19)] (some .int) rm_w_L_ofTalk S [.ref (gG S 10 0), .int a, .int b, .ref (gG S 11 0)] (fun v S' => (dK cn.2.2.2.2.1 7 a b = 1 ∧ some (.int 1) = v ∧ S = S') ∨ (dK cn.2.2.2.2.1 7 a b = 2 ∧ some (.int 2) = v ∧ S = S') ∨ (dK cn.2.2.2.2.1 7 a b = 0 ∧ some (.int 0) = v ∧ ∃ S1 : HS, CX (eaOf s0) S1 cn ∧ KeepB S S1 ∧ S' = (sL S1 176 (Int32.toInt64 (rTalkNow cn.2.2.2.2.2.2 a.toNatClampNeg b.toNatClampNeg))))) := by
  refine proH "CavershamShiftLaw" G rfl rfl (Nat.le_of_ble_eq_true rfl) (fun p e s m below meth c ls X w hT hl => ?_)
  have hx := X.1
  have hb := X.2.1
  have hown := X.2.2.2.1
  have hts := X.2.2.2.2.1
  have hl : lv_has ls 5 [(0, .ref (gG S 10 0)), (1, .int a), (2, .int b), (3, .ref (gG S 11 0))] := hl
  refine lv_aload_n hx hb dL_ofTalk_0 rfl (lv_at hl 3 rfl) ?_
  refine lv_aload_n hx hb dL_ofTalk_1 rfl (lv_at hl 0 rfl) ?_
  refine lv_iload_n hx hb dL_ofTalk_2 rfl (lv_at hl 1 rfl) ?_
  refine lv_iload_n hx hb dL_ofTalk_3 rfl (lv_at hl 2 rfl) ?_
  refine cVX (S := S) (t := 10) (nA := 2) (As := [.int a, .int b]) (rest := [.ref (gG S 11 0)]) X w hl hV10 (k_X10_ofTalk G S hC a b) wY_X10_ofTalk wM_L_78 wIn_X10_ofTalk wSe_X10_X10_ofTalk wI_X10 (by decide) rfl (by decide +kernel) rfl rfl dL_ofTalk_4 ⟨Nat.le_of_ble_eq_true rfl, Nat.le_of_ble_eq_true rfl⟩ (Nat.le_of_ble_eq_true rfl) (⟨Nat.le_of_ble_eq_true rfl, Nat.le_of_ble_eq_true rfl⟩) (fun E S1 H locs q9 ce hpx w hce hcv hcl => ?_) (fun v S1 H locs hp w => ?_)
  · obtain ⟨rfl, hE⟩ := hpx
    rcases hE with ⟨rfl, hk9⟩ | ⟨rfl, hk9⟩
    · refine vx_catch hown [] ⟨0, 11, 14, 27⟩ [⟨0, 11, 18, 19⟩] (hT.trans rfl) (fun z hz => absurd hz List.not_mem_nil) rfl (by decide) (hts _ wC_L_27) (ca_of X wCa_java_lang_IndexOutOfBoundsException_java_lang_IndexOutOfBoundsException) hce hcv hcl ?_
      refine lv_astore (lv' := [(4, .ref q9), (0, .ref (gG S 10 0)), (1, .int a), (2, .int b), (3, .ref (gG S 11 0))]) hx hb dL_ofTalk_14 hl (by decide) rfl (fun ls hl => ?_)
      refine lv_iconst (v := 1) hx hb dL_ofTalk_16 (by decide) ?_
      exact rI X w rfl dL_ofTalk_17 (Nat.le_of_ble_eq_true rfl) (Nat.le_of_ble_eq_true rfl) (Or.inl ⟨hk9, rfl, rfl⟩)
    · refine vx_catch hown [⟨0, 11, 14, 27⟩] ⟨0, 11, 18, 19⟩ [] (hT.trans rfl) (by intro z hz; simp only [List.mem_cons, List.not_mem_nil, or_false] at hz; rcases hz with rfl <;> first | exact Or.inr ⟨by decide, "java/lang/IndexOutOfBoundsException", hts _ wC_L_27, nc_of X nc_IAE_IOB⟩) rfl (by decide) (hts _ wC_L_19) (ca_of X wCa_java_lang_IllegalArgumentException_java_lang_IllegalArgumentException) hce hcv hcl ?_
      refine lv_astore (lv' := [(4, .ref q9), (0, .ref (gG S 10 0)), (1, .int a), (2, .int b), (3, .ref (gG S 11 0))]) hx hb dL_ofTalk_18 hl (by decide) rfl (fun ls hl => ?_)
      refine lv_iconst (v := 2) hx hb dL_ofTalk_20 (by decide) ?_
      exact rI X w rfl dL_ofTalk_21 (Nat.le_of_ble_eq_true rfl) (Nat.le_of_ble_eq_true rfl) (Or.inr (Or.inl ⟨hk9, rfl, rfl⟩))
  · obtain ⟨hk9, rfl, hC9, hB9⟩ := hp
    have hO1 : OneO S1 := hO.keepB hB9
    have eO1 : gG S 11 0 = gG S1 11 0 := (hB9.G (t := 11) (i := 0) rfl).symm
    refine lv_i2l hx hb dL_ofTalk_7 rfl ?_
    refine rE1 eO1 ?_
    refine pN_n (S := S1) (x := ((rTalkNow cn.2.2.2.2.2.2 a.toNatClampNeg b.toNatClampNeg).toInt64)) X w hO1.1 hO1.2 wFN_L_13 dL_ofTalk_8 (fun H locs w => ?_)
    refine lv_goto (tgt := 22) hx hb dL_ofTalk_11 (by decide) ?_
    refine lv_iconst (v := 0) hx hb dL_ofTalk_22 (by decide) ?_
    exact rI X w rfl dL_ofTalk_23 (Nat.le_of_ble_eq_true rfl) (Nat.le_of_ble_eq_true rfl) (Or.inr (Or.inr (⟨hk9, rfl, S1, hC9, hB9, rfl⟩)))

theorem dL_ofReport_0 : decode cL_ofReport 0 = .ok (.aload_n 3, 1) := by decide +kernel
theorem dL_ofReport_1 : decode cL_ofReport 1 = .ok (.aload_n 0, 1) := by decide +kernel
theorem dL_ofReport_2 : decode cL_ofReport 2 = .ok (.iload_n 1, 1) := by decide +kernel
theorem dL_ofReport_3 : decode cL_ofReport 3 = .ok (.iload_n 2, 1) := by decide +kernel
theorem dL_ofReport_4 : decode cL_ofReport 4 = .ok (.invokevirtual 81, 3) := by decide +kernel
theorem dL_ofReport_7 : decode cL_ofReport 7 = .ok (.i2l, 1) := by decide +kernel
theorem dL_ofReport_8 : decode cL_ofReport 8 = .ok (.putfield 13, 3) := by decide +kernel
theorem dL_ofReport_11 : decode cL_ofReport 11 = .ok (.goto 11, 3) := by decide +kernel
theorem dL_ofReport_14 : decode cL_ofReport 14 = .ok (.astore 4, 2) := by decide +kernel
theorem dL_ofReport_16 : decode cL_ofReport 16 = .ok (.iconst 1, 1) := by decide +kernel
theorem dL_ofReport_17 : decode cL_ofReport 17 = .ok (.ireturn, 1) := by decide +kernel
theorem dL_ofReport_18 : decode cL_ofReport 18 = .ok (.astore 4, 2) := by decide +kernel
theorem dL_ofReport_20 : decode cL_ofReport 20 = .ok (.iconst 2, 1) := by decide +kernel
theorem dL_ofReport_21 : decode cL_ofReport 21 = .ok (.ireturn, 1) := by decide +kernel
theorem dL_ofReport_22 : decode cL_ofReport 22 = .ok (.iconst 0, 1) := by decide +kernel
theorem dL_ofReport_23 : decode cL_ofReport 23 = .ok (.ireturn, 1) := by decide +kernel
abbrev rm_w_L_ofReport : Room := { frames := 7, cells := 1, slots := 6, locals := 113 }
set_option maxHeartbeats 4000000 in
set_option maxRecDepth 100000 in
theorem w_L_ofReport {s0 : State} {l : Launch} {D : va_G} {cy : Nat → ClassId} (G : Gl s0 l D cy) (S : HS) {cn : Cn} (hC : CX (eaOf s0) S cn) (hO : OneO S) (hV10 : vV S 10 0) (a b : Int32) : CtrH s0 l D cy yL_ofReport cL_ofReport 5 [(0, 11, 14, 27), (0, 11, 18, 19)] (some .int) rm_w_L_ofReport S [.ref (gG S 10 0), .int a, .int b, .ref (gG S 11 0)] (fun v S' => (dK cn.2.2.2.2.1 11 a b = 1 ∧ some (.int 1) = v ∧ S = S') ∨ (dK cn.2.2.2.2.1 11 a b = 2 ∧ some (.int 2) = v ∧ S = S') ∨ (dK cn.2.2.2.2.1 11 a b = 0 ∧ some (.int 0) = v ∧ ∃ S1 : HS, CX (eaOf s0) S1 cn ∧ KeepB S S1 ∧ S' = (sL S1 176 (Int32.toInt64 (if mI cn.2.2.2.2.2.2 247 a.toNatClampNeg = -1 then -2 else rRepNow cn.2.2.2.2.2.2 a.toNatClampNeg b.toNatClampNeg))))) := by
  refine proH "CavershamShiftLaw" G rfl rfl (Nat.le_of_ble_eq_true rfl) (fun p e s m below meth c ls X w hT hl => ?_)
  have hx := X.1
  have hb := X.2.1
  have hown := X.2.2.2.1
  have hts := X.2.2.2.2.1
  have hl : lv_has ls 5 [(0, .ref (gG S 10 0)), (1, .int a), (2, .int b), (3, .ref (gG S 11 0))] := hl
  refine lv_aload_n hx hb dL_ofReport_0 rfl (lv_at hl 3 rfl) ?_
  refine lv_aload_n hx hb dL_ofReport_1 rfl (lv_at hl 0 rfl) ?_
  refine lv_iload_n hx hb dL_ofReport_2 rfl (lv_at hl 1 rfl) ?_
  refine lv_iload_n hx hb dL_ofReport_3 rfl (lv_at hl 2 rfl) ?_
  refine cVX (S := S) (t := 10) (nA := 2) (As := [.int a, .int b]) (rest := [.ref (gG S 11 0)]) X w hl hV10 (k_X10_ofReport G S hC a b) wY_X10_ofReport wM_L_81 wIn_X10_ofReport wSe_X10_X10_ofReport wI_X10 (by decide) rfl (by decide +kernel) rfl rfl dL_ofReport_4 ⟨Nat.le_of_ble_eq_true rfl, Nat.le_of_ble_eq_true rfl⟩ (Nat.le_of_ble_eq_true rfl) (⟨Nat.le_of_ble_eq_true rfl, Nat.le_of_ble_eq_true rfl⟩) (fun E S1 H locs q9 ce hpx w hce hcv hcl => ?_) (fun v S1 H locs hp w => ?_)
  · obtain ⟨rfl, hE⟩ := hpx
    rcases hE with ⟨rfl, hk9⟩ | ⟨rfl, hk9⟩
    · refine vx_catch hown [] ⟨0, 11, 14, 27⟩ [⟨0, 11, 18, 19⟩] (hT.trans rfl) (fun z hz => absurd hz List.not_mem_nil) rfl (by decide) (hts _ wC_L_27) (ca_of X wCa_java_lang_IndexOutOfBoundsException_java_lang_IndexOutOfBoundsException) hce hcv hcl ?_
      refine lv_astore (lv' := [(4, .ref q9), (0, .ref (gG S 10 0)), (1, .int a), (2, .int b), (3, .ref (gG S 11 0))]) hx hb dL_ofReport_14 hl (by decide) rfl (fun ls hl => ?_)
      refine lv_iconst (v := 1) hx hb dL_ofReport_16 (by decide) ?_
      exact rI X w rfl dL_ofReport_17 (Nat.le_of_ble_eq_true rfl) (Nat.le_of_ble_eq_true rfl) (Or.inl ⟨hk9, rfl, rfl⟩)
    · refine vx_catch hown [⟨0, 11, 14, 27⟩] ⟨0, 11, 18, 19⟩ [] (hT.trans rfl) (by intro z hz; simp only [List.mem_cons, List.not_mem_nil, or_false] at hz; rcases hz with rfl <;> first | exact Or.inr ⟨by decide, "java/lang/IndexOutOfBoundsException", hts _ wC_L_27, nc_of X nc_IAE_IOB⟩) rfl (by decide) (hts _ wC_L_19) (ca_of X wCa_java_lang_IllegalArgumentException_java_lang_IllegalArgumentException) hce hcv hcl ?_
      refine lv_astore (lv' := [(4, .ref q9), (0, .ref (gG S 10 0)), (1, .int a), (2, .int b), (3, .ref (gG S 11 0))]) hx hb dL_ofReport_18 hl (by decide) rfl (fun ls hl => ?_)
      refine lv_iconst (v := 2) hx hb dL_ofReport_20 (by decide) ?_
      exact rI X w rfl dL_ofReport_21 (Nat.le_of_ble_eq_true rfl) (Nat.le_of_ble_eq_true rfl) (Or.inr (Or.inl ⟨hk9, rfl, rfl⟩))
  · obtain ⟨hk9, rfl, hC9, hB9⟩ := hp
    have hO1 : OneO S1 := hO.keepB hB9
    have eO1 : gG S 11 0 = gG S1 11 0 := (hB9.G (t := 11) (i := 0) rfl).symm
    refine lv_i2l hx hb dL_ofReport_7 rfl ?_
    refine rE1 eO1 ?_
    refine pN_n (S := S1) (x := ((if mI cn.2.2.2.2.2.2 247 a.toNatClampNeg = -1 then -2 else rRepNow cn.2.2.2.2.2.2 a.toNatClampNeg b.toNatClampNeg).toInt64)) X w hO1.1 hO1.2 wFN_L_13 dL_ofReport_8 (fun H locs w => ?_)
    refine lv_goto (tgt := 22) hx hb dL_ofReport_11 (by decide) ?_
    refine lv_iconst (v := 0) hx hb dL_ofReport_22 (by decide) ?_
    exact rI X w rfl dL_ofReport_23 (Nat.le_of_ble_eq_true rfl) (Nat.le_of_ble_eq_true rfl) (Or.inr (Or.inr (⟨hk9, rfl, S1, hC9, hB9, rfl⟩)))

theorem dL_got_0 : decode cL_got 0 = .ok (.aload_n 3, 1) := by decide +kernel
theorem dL_got_1 : decode cL_got 1 = .ok (.aload_n 0, 1) := by decide +kernel
theorem dL_got_2 : decode cL_got 2 = .ok (.iload_n 1, 1) := by decide +kernel
theorem dL_got_3 : decode cL_got 3 = .ok (.iload_n 2, 1) := by decide +kernel
theorem dL_got_4 : decode cL_got 4 = .ok (.invokevirtual 84, 3) := by decide +kernel
theorem dL_got_7 : decode cL_got 7 = .ok (.i2l, 1) := by decide +kernel
theorem dL_got_8 : decode cL_got 8 = .ok (.putfield 13, 3) := by decide +kernel
theorem dL_got_11 : decode cL_got 11 = .ok (.goto 7, 3) := by decide +kernel
theorem dL_got_14 : decode cL_got 14 = .ok (.astore 4, 2) := by decide +kernel
theorem dL_got_16 : decode cL_got 16 = .ok (.iconst 1, 1) := by decide +kernel
theorem dL_got_17 : decode cL_got 17 = .ok (.ireturn, 1) := by decide +kernel
theorem dL_got_18 : decode cL_got 18 = .ok (.iconst 0, 1) := by decide +kernel
theorem dL_got_19 : decode cL_got 19 = .ok (.ireturn, 1) := by decide +kernel
abbrev rm_w_L_got : Room := { frames := 7, cells := 1, slots := 6, locals := 114 }
set_option maxHeartbeats 4000000 in
set_option maxRecDepth 100000 in
theorem w_L_got {s0 : State} {l : Launch} {D : va_G} {cy : Nat → ClassId} (G : Gl s0 l D cy) (S : HS) {cn : Cn} (hC : CX (eaOf s0) S cn) (hO : OneO S) (hV10 : vV S 10 0) (a b : Int32) : CtrH s0 l D cy yL_got cL_got 5 [(0, 11, 14, 27)] (some .int) rm_w_L_got S [.ref (gG S 10 0), .int a, .int b, .ref (gG S 11 0)] (fun v S' => (goK cn.2.2.2.1 cn.2.2.2.2.1 a b = 1 ∧ some (.int 1) = v ∧ S = S') ∨ (goK cn.2.2.2.1 cn.2.2.2.2.1 a b = 0 ∧ some (.int 0) = v ∧ ∃ S1 : HS, CX (eaOf s0) S1 cn ∧ KeepB S S1 ∧ S' = (sL S1 176 (Int32.toInt64 (mA cn.2.2.2.2.2.2 35 a.toNatClampNeg b.toNatClampNeg))))) := by
  refine proH "CavershamShiftLaw" G rfl rfl (Nat.le_of_ble_eq_true rfl) (fun p e s m below meth c ls X w hT hl => ?_)
  have hx := X.1
  have hb := X.2.1
  have hown := X.2.2.2.1
  have hts := X.2.2.2.2.1
  have hl : lv_has ls 5 [(0, .ref (gG S 10 0)), (1, .int a), (2, .int b), (3, .ref (gG S 11 0))] := hl
  refine lv_aload_n hx hb dL_got_0 rfl (lv_at hl 3 rfl) ?_
  refine lv_aload_n hx hb dL_got_1 rfl (lv_at hl 0 rfl) ?_
  refine lv_iload_n hx hb dL_got_2 rfl (lv_at hl 1 rfl) ?_
  refine lv_iload_n hx hb dL_got_3 rfl (lv_at hl 2 rfl) ?_
  refine cVX (S := S) (t := 10) (nA := 2) (As := [.int a, .int b]) (rest := [.ref (gG S 11 0)]) X w hl hV10 (k_X10_got G S hC a b) wY_X10_got wM_L_84 wIn_X10_got wSe_X10_X10_got wI_X10 (by decide) rfl (by decide +kernel) rfl rfl dL_got_4 ⟨Nat.le_of_ble_eq_true rfl, Nat.le_of_ble_eq_true rfl⟩ (Nat.le_of_ble_eq_true rfl) (⟨Nat.le_of_ble_eq_true rfl, Nat.le_of_ble_eq_true rfl⟩) (fun E S1 H locs q9 ce hpx w hce hcv hcl => ?_) (fun v S1 H locs hp w => ?_)
  · obtain ⟨rfl, hE⟩ := hpx
    obtain ⟨rfl, hk9⟩ := hE
    · refine vx_catch hown [] ⟨0, 11, 14, 27⟩ [] (hT.trans rfl) (fun z hz => absurd hz List.not_mem_nil) rfl (by decide) (hts _ wC_L_27) (ca_of X wCa_java_lang_IndexOutOfBoundsException_java_lang_IndexOutOfBoundsException) hce hcv hcl ?_
      refine lv_astore (lv' := [(4, .ref q9), (0, .ref (gG S 10 0)), (1, .int a), (2, .int b), (3, .ref (gG S 11 0))]) hx hb dL_got_14 hl (by decide) rfl (fun ls hl => ?_)
      refine lv_iconst (v := 1) hx hb dL_got_16 (by decide) ?_
      exact rI X w rfl dL_got_17 (Nat.le_of_ble_eq_true rfl) (Nat.le_of_ble_eq_true rfl) (Or.inl ⟨hk9, rfl, rfl⟩)
  · obtain ⟨hk9, rfl, hC9, hB9⟩ := hp
    have hO1 : OneO S1 := hO.keepB hB9
    have eO1 : gG S 11 0 = gG S1 11 0 := (hB9.G (t := 11) (i := 0) rfl).symm
    refine lv_i2l hx hb dL_got_7 rfl ?_
    refine rE1 eO1 ?_
    refine pN_n (S := S1) (x := ((mA cn.2.2.2.2.2.2 35 a.toNatClampNeg b.toNatClampNeg).toInt64)) X w hO1.1 hO1.2 wFN_L_13 dL_got_8 (fun H locs w => ?_)
    refine lv_goto (tgt := 18) hx hb dL_got_11 (by decide) ?_
    refine lv_iconst (v := 0) hx hb dL_got_18 (by decide) ?_
    exact rI X w rfl dL_got_19 (Nat.le_of_ble_eq_true rfl) (Nat.le_of_ble_eq_true rfl) (Or.inr (⟨hk9, rfl, S1, hC9, hB9, rfl⟩))

theorem dL_ofReader_0 : decode cL_ofReader 0 = .ok (.aload_n 3, 1) := by decide +kernel
theorem dL_ofReader_1 : decode cL_ofReader 1 = .ok (.aload_n 0, 1) := by decide +kernel
theorem dL_ofReader_2 : decode cL_ofReader 2 = .ok (.iload_n 1, 1) := by decide +kernel
theorem dL_ofReader_3 : decode cL_ofReader 3 = .ok (.iload_n 2, 1) := by decide +kernel
theorem dL_ofReader_4 : decode cL_ofReader 4 = .ok (.invokevirtual 87, 3) := by decide +kernel
theorem dL_ofReader_7 : decode cL_ofReader 7 = .ok (.i2l, 1) := by decide +kernel
theorem dL_ofReader_8 : decode cL_ofReader 8 = .ok (.putfield 13, 3) := by decide +kernel
theorem dL_ofReader_11 : decode cL_ofReader 11 = .ok (.goto 11, 3) := by decide +kernel
theorem dL_ofReader_14 : decode cL_ofReader 14 = .ok (.astore 4, 2) := by decide +kernel
theorem dL_ofReader_16 : decode cL_ofReader 16 = .ok (.iconst 1, 1) := by decide +kernel
theorem dL_ofReader_17 : decode cL_ofReader 17 = .ok (.ireturn, 1) := by decide +kernel
theorem dL_ofReader_18 : decode cL_ofReader 18 = .ok (.astore 4, 2) := by decide +kernel
theorem dL_ofReader_20 : decode cL_ofReader 20 = .ok (.iconst 2, 1) := by decide +kernel
theorem dL_ofReader_21 : decode cL_ofReader 21 = .ok (.ireturn, 1) := by decide +kernel
theorem dL_ofReader_22 : decode cL_ofReader 22 = .ok (.iconst 0, 1) := by decide +kernel
theorem dL_ofReader_23 : decode cL_ofReader 23 = .ok (.ireturn, 1) := by decide +kernel
abbrev rm_w_L_ofReader : Room := { frames := 7, cells := 1, slots := 6, locals := 133 }
set_option maxHeartbeats 4000000 in
set_option maxRecDepth 100000 in
theorem w_L_ofReader {s0 : State} {l : Launch} {D : va_G} {cy : Nat → ClassId} (G : Gl s0 l D cy) (S : HS) {cn : Cn} (hC : CX (eaOf s0) S cn) (hO : OneO S) (hV10 : vV S 10 0) (a b : Int32) : CtrH s0 l D cy yL_ofReader cL_ofReader 5 [(0, 11, 14, 27), (0, 11, 18, 19)] (some .int) rm_w_L_ofReader S [.ref (gG S 10 0), .int a, .int b, .ref (gG S 11 0)] (fun v S' => (dK cn.2.2.2.1 4 a b = 1 ∧ some (.int 1) = v ∧ S = S') ∨ (dK cn.2.2.2.1 4 a b = 2 ∧ some (.int 2) = v ∧ S = S') ∨ (dK cn.2.2.2.1 4 a b = 0 ∧ some (.int 0) = v ∧ ∃ S1 : HS, CX (eaOf s0) S1 cn ∧ KeepB S S1 ∧ S' = (sL S1 176 (Int32.toInt64 (rReaNow cn.2.2.2.2.2.2 cn.2.2.2.2.1 a.toNatClampNeg b.toNatClampNeg))))) := by
  refine proH "CavershamShiftLaw" G rfl rfl (Nat.le_of_ble_eq_true rfl) (fun p e s m below meth c ls X w hT hl => ?_)
  have hx := X.1
  have hb := X.2.1
  have hown := X.2.2.2.1
  have hts := X.2.2.2.2.1
  have hl : lv_has ls 5 [(0, .ref (gG S 10 0)), (1, .int a), (2, .int b), (3, .ref (gG S 11 0))] := hl
  refine lv_aload_n hx hb dL_ofReader_0 rfl (lv_at hl 3 rfl) ?_
  refine lv_aload_n hx hb dL_ofReader_1 rfl (lv_at hl 0 rfl) ?_
  refine lv_iload_n hx hb dL_ofReader_2 rfl (lv_at hl 1 rfl) ?_
  refine lv_iload_n hx hb dL_ofReader_3 rfl (lv_at hl 2 rfl) ?_
  refine cVX (S := S) (t := 10) (nA := 2) (As := [.int a, .int b]) (rest := [.ref (gG S 11 0)]) X w hl hV10 (k_X10_ofReader G S hC a b) wY_X10_ofReader wM_L_87 wIn_X10_ofReader wSe_X10_X10_ofReader wI_X10 (by decide) rfl (by decide +kernel) rfl rfl dL_ofReader_4 ⟨Nat.le_of_ble_eq_true rfl, Nat.le_of_ble_eq_true rfl⟩ (Nat.le_of_ble_eq_true rfl) (⟨Nat.le_of_ble_eq_true rfl, Nat.le_of_ble_eq_true rfl⟩) (fun E S1 H locs q9 ce hpx w hce hcv hcl => ?_) (fun v S1 H locs hp w => ?_)
  · obtain ⟨rfl, hE⟩ := hpx
    rcases hE with ⟨rfl, hk9⟩ | ⟨rfl, hk9⟩
    · refine vx_catch hown [] ⟨0, 11, 14, 27⟩ [⟨0, 11, 18, 19⟩] (hT.trans rfl) (fun z hz => absurd hz List.not_mem_nil) rfl (by decide) (hts _ wC_L_27) (ca_of X wCa_java_lang_IndexOutOfBoundsException_java_lang_IndexOutOfBoundsException) hce hcv hcl ?_
      refine lv_astore (lv' := [(4, .ref q9), (0, .ref (gG S 10 0)), (1, .int a), (2, .int b), (3, .ref (gG S 11 0))]) hx hb dL_ofReader_14 hl (by decide) rfl (fun ls hl => ?_)
      refine lv_iconst (v := 1) hx hb dL_ofReader_16 (by decide) ?_
      exact rI X w rfl dL_ofReader_17 (Nat.le_of_ble_eq_true rfl) (Nat.le_of_ble_eq_true rfl) (Or.inl ⟨hk9, rfl, rfl⟩)
    · refine vx_catch hown [⟨0, 11, 14, 27⟩] ⟨0, 11, 18, 19⟩ [] (hT.trans rfl) (by intro z hz; simp only [List.mem_cons, List.not_mem_nil, or_false] at hz; rcases hz with rfl <;> first | exact Or.inr ⟨by decide, "java/lang/IndexOutOfBoundsException", hts _ wC_L_27, nc_of X nc_IAE_IOB⟩) rfl (by decide) (hts _ wC_L_19) (ca_of X wCa_java_lang_IllegalArgumentException_java_lang_IllegalArgumentException) hce hcv hcl ?_
      refine lv_astore (lv' := [(4, .ref q9), (0, .ref (gG S 10 0)), (1, .int a), (2, .int b), (3, .ref (gG S 11 0))]) hx hb dL_ofReader_18 hl (by decide) rfl (fun ls hl => ?_)
      refine lv_iconst (v := 2) hx hb dL_ofReader_20 (by decide) ?_
      exact rI X w rfl dL_ofReader_21 (Nat.le_of_ble_eq_true rfl) (Nat.le_of_ble_eq_true rfl) (Or.inr (Or.inl ⟨hk9, rfl, rfl⟩))
  · obtain ⟨hk9, rfl, hC9, hB9⟩ := hp
    have hO1 : OneO S1 := hO.keepB hB9
    have eO1 : gG S 11 0 = gG S1 11 0 := (hB9.G (t := 11) (i := 0) rfl).symm
    refine lv_i2l hx hb dL_ofReader_7 rfl ?_
    refine rE1 eO1 ?_
    refine pN_n (S := S1) (x := ((rReaNow cn.2.2.2.2.2.2 cn.2.2.2.2.1 a.toNatClampNeg b.toNatClampNeg).toInt64)) X w hO1.1 hO1.2 wFN_L_13 dL_ofReader_8 (fun H locs w => ?_)
    refine lv_goto (tgt := 22) hx hb dL_ofReader_11 (by decide) ?_
    refine lv_iconst (v := 0) hx hb dL_ofReader_22 (by decide) ?_
    exact rI X w rfl dL_ofReader_23 (Nat.le_of_ble_eq_true rfl) (Nat.le_of_ble_eq_true rfl) (Or.inr (Or.inr (⟨hk9, rfl, S1, hC9, hB9, rfl⟩)))

theorem dL_used_0 : decode cL_used 0 = .ok (.aload 5, 2) := by decide +kernel
theorem dL_used_2 : decode cL_used 2 = .ok (.aload_n 0, 1) := by decide +kernel
theorem dL_used_3 : decode cL_used 3 = .ok (.iload_n 1, 1) := by decide +kernel
theorem dL_used_4 : decode cL_used 4 = .ok (.iload_n 2, 1) := by decide +kernel
theorem dL_used_5 : decode cL_used 5 = .ok (.iload_n 3, 1) := by decide +kernel
theorem dL_used_6 : decode cL_used 6 = .ok (.iload 4, 2) := by decide +kernel
theorem dL_used_8 : decode cL_used 8 = .ok (.invokevirtual 90, 3) := by decide +kernel
theorem dL_used_11 : decode cL_used 11 = .ok (.i2l, 1) := by decide +kernel
theorem dL_used_12 : decode cL_used 12 = .ok (.putfield 13, 3) := by decide +kernel
theorem dL_used_15 : decode cL_used 15 = .ok (.goto 7, 3) := by decide +kernel
theorem dL_used_18 : decode cL_used 18 = .ok (.astore 6, 2) := by decide +kernel
theorem dL_used_20 : decode cL_used 20 = .ok (.iconst 1, 1) := by decide +kernel
theorem dL_used_21 : decode cL_used 21 = .ok (.ireturn, 1) := by decide +kernel
theorem dL_used_22 : decode cL_used 22 = .ok (.iconst 0, 1) := by decide +kernel
theorem dL_used_23 : decode cL_used 23 = .ok (.ireturn, 1) := by decide +kernel
abbrev rm_w_L_used : Room := { frames := 7, cells := 1, slots := 6, locals := 116 }
set_option maxHeartbeats 4000000 in
set_option maxRecDepth 100000 in
theorem w_L_used {s0 : State} {l : Launch} {D : va_G} {cy : Nat → ClassId} (G : Gl s0 l D cy) (S : HS) {cn : Cn} (hC : CX (eaOf s0) S cn) (hO : OneO S) (hV10 : vV S 10 0) (a b d e_ : Int32) : CtrH s0 l D cy yL_used cL_used 7 [(0, 15, 18, 27)] (some .int) rm_w_L_used S [.ref (gG S 10 0), .int a, .int b, .int d, .int e_, .ref (gG S 11 0)] (fun v S' => (usK a b = 1 ∧ some (.int 1) = v ∧ S = S') ∨ (usK a b = 0 ∧ some (.int 0) = v ∧ ∃ S1 : HS, CX (eaOf s0) S1 cn ∧ KeepB S S1 ∧ S' = (sL S1 176 (Int32.toInt64 (rUsed cn.2.2.2.2.2.2 cn.2.2.2.2.1 a b d e_))))) := by
  refine proH "CavershamShiftLaw" G rfl rfl (Nat.le_of_ble_eq_true rfl) (fun p e s m below meth c ls X w hT hl => ?_)
  have hx := X.1
  have hb := X.2.1
  have hown := X.2.2.2.1
  have hts := X.2.2.2.2.1
  have hl : lv_has ls 7 [(0, .ref (gG S 10 0)), (1, .int a), (2, .int b), (3, .int d), (4, .int e_), (5, .ref (gG S 11 0))] := hl
  refine lv_aload hx hb dL_used_0 (lv_at hl 5 rfl) ?_
  refine lv_aload_n hx hb dL_used_2 rfl (lv_at hl 0 rfl) ?_
  refine lv_iload_n hx hb dL_used_3 rfl (lv_at hl 1 rfl) ?_
  refine lv_iload_n hx hb dL_used_4 rfl (lv_at hl 2 rfl) ?_
  refine lv_iload_n hx hb dL_used_5 rfl (lv_at hl 3 rfl) ?_
  refine lv_iload hx hb dL_used_6 (lv_at hl 4 rfl) ?_
  refine cVX (S := S) (t := 10) (nA := 4) (As := [.int a, .int b, .int d, .int e_]) (rest := [.ref (gG S 11 0)]) X w hl hV10 (k_X10_used G S hC a b d e_) wY_X10_used wM_L_90 wIn_X10_used wSe_X10_X10_used wI_X10 (by decide) rfl (by decide +kernel) rfl rfl dL_used_8 ⟨Nat.le_of_ble_eq_true rfl, Nat.le_of_ble_eq_true rfl⟩ (Nat.le_of_ble_eq_true rfl) (⟨Nat.le_of_ble_eq_true rfl, Nat.le_of_ble_eq_true rfl⟩) (fun E S1 H locs q9 ce hpx w hce hcv hcl => ?_) (fun v S1 H locs hp w => ?_)
  · obtain ⟨rfl, hE⟩ := hpx
    obtain ⟨rfl, hk9⟩ := hE
    · refine vx_catch hown [] ⟨0, 15, 18, 27⟩ [] (hT.trans rfl) (fun z hz => absurd hz List.not_mem_nil) rfl (by decide) (hts _ wC_L_27) (ca_of X wCa_java_lang_IndexOutOfBoundsException_java_lang_IndexOutOfBoundsException) hce hcv hcl ?_
      refine lv_astore (lv' := [(6, .ref q9), (0, .ref (gG S 10 0)), (1, .int a), (2, .int b), (3, .int d), (4, .int e_), (5, .ref (gG S 11 0))]) hx hb dL_used_18 hl (by decide) rfl (fun ls hl => ?_)
      refine lv_iconst (v := 1) hx hb dL_used_20 (by decide) ?_
      exact rI X w rfl dL_used_21 (Nat.le_of_ble_eq_true rfl) (Nat.le_of_ble_eq_true rfl) (Or.inl ⟨hk9, rfl, rfl⟩)
  · obtain ⟨hk9, rfl, hC9, hB9⟩ := hp
    have hO1 : OneO S1 := hO.keepB hB9
    have eO1 : gG S 11 0 = gG S1 11 0 := (hB9.G (t := 11) (i := 0) rfl).symm
    refine lv_i2l hx hb dL_used_11 rfl ?_
    refine rE1 eO1 ?_
    refine pN_n (S := S1) (x := ((rUsed cn.2.2.2.2.2.2 cn.2.2.2.2.1 a b d e_).toInt64)) X w hO1.1 hO1.2 wFN_L_13 dL_used_12 (fun H locs w => ?_)
    refine lv_goto (tgt := 22) hx hb dL_used_15 (by decide) ?_
    refine lv_iconst (v := 0) hx hb dL_used_22 (by decide) ?_
    exact rI X w rfl dL_used_23 (Nat.le_of_ble_eq_true rfl) (Nat.le_of_ble_eq_true rfl) (Or.inr (⟨hk9, rfl, S1, hC9, hB9, rfl⟩))

theorem dL_gone_0 : decode cL_gone 0 = .ok (.aload_n 2, 1) := by decide +kernel
theorem dL_gone_1 : decode cL_gone 1 = .ok (.aload_n 0, 1) := by decide +kernel
theorem dL_gone_2 : decode cL_gone 2 = .ok (.iload_n 1, 1) := by decide +kernel
theorem dL_gone_3 : decode cL_gone 3 = .ok (.invokevirtual 93, 3) := by decide +kernel
theorem dL_gone_6 : decode cL_gone 6 = .ok (.i2l, 1) := by decide +kernel
theorem dL_gone_7 : decode cL_gone 7 = .ok (.putfield 13, 3) := by decide +kernel
theorem dL_gone_10 : decode cL_gone 10 = .ok (.goto 6, 3) := by decide +kernel
theorem dL_gone_13 : decode cL_gone 13 = .ok (.astore_n 3, 1) := by decide +kernel
theorem dL_gone_14 : decode cL_gone 14 = .ok (.iconst 1, 1) := by decide +kernel
theorem dL_gone_15 : decode cL_gone 15 = .ok (.ireturn, 1) := by decide +kernel
theorem dL_gone_16 : decode cL_gone 16 = .ok (.iconst 0, 1) := by decide +kernel
theorem dL_gone_17 : decode cL_gone 17 = .ok (.ireturn, 1) := by decide +kernel
abbrev rm_w_L_gone : Room := { frames := 7, cells := 1, slots := 6, locals := 138 }
set_option maxHeartbeats 4000000 in
set_option maxRecDepth 100000 in
theorem w_L_gone {s0 : State} {l : Launch} {D : va_G} {cy : Nat → ClassId} (G : Gl s0 l D cy) (S : HS) {cn : Cn} (hC : CX (eaOf s0) S cn) (hO : OneO S) (hV10 : vV S 10 0) (a : Int32) : CtrH s0 l D cy yL_gone cL_gone 4 [(0, 10, 13, 27)] (some .int) rm_w_L_gone S [.ref (gG S 10 0), .int a, .ref (gG S 11 0)] (fun v S' => (laK a 5 = 1 ∧ some (.int 1) = v ∧ S = S') ∨ (laK a 5 = 0 ∧ some (.int 0) = v ∧ ∃ S1 : HS, CX (eaOf s0) S1 cn ∧ KeepB S S1 ∧ S' = (sL S1 176 (Int32.toInt64 (rGone cn.2.2.2.2.2.2 cn.2.2.2.2.1 a 16))))) := by
  refine proH "CavershamShiftLaw" G rfl rfl (Nat.le_of_ble_eq_true rfl) (fun p e s m below meth c ls X w hT hl => ?_)
  have hx := X.1
  have hb := X.2.1
  have hown := X.2.2.2.1
  have hts := X.2.2.2.2.1
  have hl : lv_has ls 4 [(0, .ref (gG S 10 0)), (1, .int a), (2, .ref (gG S 11 0))] := hl
  refine lv_aload_n hx hb dL_gone_0 rfl (lv_at hl 2 rfl) ?_
  refine lv_aload_n hx hb dL_gone_1 rfl (lv_at hl 0 rfl) ?_
  refine lv_iload_n hx hb dL_gone_2 rfl (lv_at hl 1 rfl) ?_
  refine cVX (S := S) (t := 10) (nA := 1) (As := [.int a]) (rest := [.ref (gG S 11 0)]) X w hl hV10 (k_X10_gone G S hC a) wY_X10_gone wM_L_93 wIn_X10_gone wSe_X10_X10_gone wI_X10 (by decide) rfl (by decide +kernel) rfl rfl dL_gone_3 ⟨Nat.le_of_ble_eq_true rfl, Nat.le_of_ble_eq_true rfl⟩ (Nat.le_of_ble_eq_true rfl) (⟨Nat.le_of_ble_eq_true rfl, Nat.le_of_ble_eq_true rfl⟩) (fun E S1 H locs q9 ce hpx w hce hcv hcl => ?_) (fun v S1 H locs hp w => ?_)
  · obtain ⟨rfl, hE⟩ := hpx
    obtain ⟨rfl, hk9⟩ := hE
    · refine vx_catch hown [] ⟨0, 10, 13, 27⟩ [] (hT.trans rfl) (fun z hz => absurd hz List.not_mem_nil) rfl (by decide) (hts _ wC_L_27) (ca_of X wCa_java_lang_IndexOutOfBoundsException_java_lang_IndexOutOfBoundsException) hce hcv hcl ?_
      refine lv_astore_n (lv' := [(3, .ref q9), (0, .ref (gG S 10 0)), (1, .int a), (2, .ref (gG S 11 0))]) hx hb dL_gone_13 rfl hl (by decide) rfl (fun ls hl => ?_)
      refine lv_iconst (v := 1) hx hb dL_gone_14 (by decide) ?_
      exact rI X w rfl dL_gone_15 (Nat.le_of_ble_eq_true rfl) (Nat.le_of_ble_eq_true rfl) (Or.inl ⟨hk9, rfl, rfl⟩)
  · obtain ⟨hk9, rfl, hC9, hB9⟩ := hp
    have hO1 : OneO S1 := hO.keepB hB9
    have eO1 : gG S 11 0 = gG S1 11 0 := (hB9.G (t := 11) (i := 0) rfl).symm
    refine lv_i2l hx hb dL_gone_6 rfl ?_
    refine rE1 eO1 ?_
    refine pN_n (S := S1) (x := ((rGone cn.2.2.2.2.2.2 cn.2.2.2.2.1 a 16).toInt64)) X w hO1.1 hO1.2 wFN_L_13 dL_gone_7 (fun H locs w => ?_)
    refine lv_goto (tgt := 16) hx hb dL_gone_10 (by decide) ?_
    refine lv_iconst (v := 0) hx hb dL_gone_16 (by decide) ?_
    exact rI X w rfl dL_gone_17 (Nat.le_of_ble_eq_true rfl) (Nat.le_of_ble_eq_true rfl) (Or.inr (⟨hk9, rfl, S1, hC9, hB9, rfl⟩))

theorem dL_first_0 : decode cL_first 0 = .ok (.aload_n 2, 1) := by decide +kernel
theorem dL_first_1 : decode cL_first 1 = .ok (.aload_n 0, 1) := by decide +kernel
theorem dL_first_2 : decode cL_first 2 = .ok (.iload_n 1, 1) := by decide +kernel
theorem dL_first_3 : decode cL_first 3 = .ok (.invokevirtual 96, 3) := by decide +kernel
theorem dL_first_6 : decode cL_first 6 = .ok (.i2l, 1) := by decide +kernel
theorem dL_first_7 : decode cL_first 7 = .ok (.putfield 13, 3) := by decide +kernel
theorem dL_first_10 : decode cL_first 10 = .ok (.goto 6, 3) := by decide +kernel
theorem dL_first_13 : decode cL_first 13 = .ok (.astore_n 3, 1) := by decide +kernel
theorem dL_first_14 : decode cL_first 14 = .ok (.iconst 1, 1) := by decide +kernel
theorem dL_first_15 : decode cL_first 15 = .ok (.ireturn, 1) := by decide +kernel
theorem dL_first_16 : decode cL_first 16 = .ok (.iconst 0, 1) := by decide +kernel
theorem dL_first_17 : decode cL_first 17 = .ok (.ireturn, 1) := by decide +kernel
abbrev rm_w_L_first : Room := { frames := 7, cells := 1, slots := 6, locals := 111 }
set_option maxHeartbeats 4000000 in
set_option maxRecDepth 100000 in
theorem w_L_first {s0 : State} {l : Launch} {D : va_G} {cy : Nat → ClassId} (G : Gl s0 l D cy) (S : HS) {cn : Cn} (hC : CX (eaOf s0) S cn) (hO : OneO S) (hV10 : vV S 10 0) (a : Int32) : CtrH s0 l D cy yL_first cL_first 4 [(0, 10, 13, 27)] (some .int) rm_w_L_first S [.ref (gG S 10 0), .int a, .ref (gG S 11 0)] (fun v S' => (laK a 15 = 1 ∧ some (.int 1) = v ∧ S = S') ∨ (laK a 15 = 0 ∧ some (.int 0) = v ∧ ∃ S1 : HS, CX (eaOf s0) S1 cn ∧ KeepB S S1 ∧ S' = (sL S1 176 (Int32.toInt64 (rFirst cn.2.2.2.2.2.2 a cn.2.2.2.2.1))))) := by
  refine proH "CavershamShiftLaw" G rfl rfl (Nat.le_of_ble_eq_true rfl) (fun p e s m below meth c ls X w hT hl => ?_)
  have hx := X.1
  have hb := X.2.1
  have hown := X.2.2.2.1
  have hts := X.2.2.2.2.1
  have hl : lv_has ls 4 [(0, .ref (gG S 10 0)), (1, .int a), (2, .ref (gG S 11 0))] := hl
  refine lv_aload_n hx hb dL_first_0 rfl (lv_at hl 2 rfl) ?_
  refine lv_aload_n hx hb dL_first_1 rfl (lv_at hl 0 rfl) ?_
  refine lv_iload_n hx hb dL_first_2 rfl (lv_at hl 1 rfl) ?_
  refine cVX (S := S) (t := 10) (nA := 1) (As := [.int a]) (rest := [.ref (gG S 11 0)]) X w hl hV10 (k_X10_first G S hC a) wY_X10_first wM_L_96 wIn_X10_first wSe_X10_X10_first wI_X10 (by decide) rfl (by decide +kernel) rfl rfl dL_first_3 ⟨Nat.le_of_ble_eq_true rfl, Nat.le_of_ble_eq_true rfl⟩ (Nat.le_of_ble_eq_true rfl) (⟨Nat.le_of_ble_eq_true rfl, Nat.le_of_ble_eq_true rfl⟩) (fun E S1 H locs q9 ce hpx w hce hcv hcl => ?_) (fun v S1 H locs hp w => ?_)
  · obtain ⟨rfl, hE⟩ := hpx
    obtain ⟨rfl, hk9⟩ := hE
    · refine vx_catch hown [] ⟨0, 10, 13, 27⟩ [] (hT.trans rfl) (fun z hz => absurd hz List.not_mem_nil) rfl (by decide) (hts _ wC_L_27) (ca_of X wCa_java_lang_IndexOutOfBoundsException_java_lang_IndexOutOfBoundsException) hce hcv hcl ?_
      refine lv_astore_n (lv' := [(3, .ref q9), (0, .ref (gG S 10 0)), (1, .int a), (2, .ref (gG S 11 0))]) hx hb dL_first_13 rfl hl (by decide) rfl (fun ls hl => ?_)
      refine lv_iconst (v := 1) hx hb dL_first_14 (by decide) ?_
      exact rI X w rfl dL_first_15 (Nat.le_of_ble_eq_true rfl) (Nat.le_of_ble_eq_true rfl) (Or.inl ⟨hk9, rfl, rfl⟩)
  · obtain ⟨hk9, rfl, hC9, hB9⟩ := hp
    have hO1 : OneO S1 := hO.keepB hB9
    have eO1 : gG S 11 0 = gG S1 11 0 := (hB9.G (t := 11) (i := 0) rfl).symm
    refine lv_i2l hx hb dL_first_6 rfl ?_
    refine rE1 eO1 ?_
    refine pN_n (S := S1) (x := ((rFirst cn.2.2.2.2.2.2 a cn.2.2.2.2.1).toInt64)) X w hO1.1 hO1.2 wFN_L_13 dL_first_7 (fun H locs w => ?_)
    refine lv_goto (tgt := 16) hx hb dL_first_10 (by decide) ?_
    refine lv_iconst (v := 0) hx hb dL_first_16 (by decide) ?_
    exact rI X w rfl dL_first_17 (Nat.le_of_ble_eq_true rfl) (Nat.le_of_ble_eq_true rfl) (Or.inr (⟨hk9, rfl, S1, hC9, hB9, rfl⟩))

theorem dL_clarity_0 : decode cL_clarity 0 = .ok (.aload_n 2, 1) := by decide +kernel
theorem dL_clarity_1 : decode cL_clarity 1 = .ok (.aload_n 0, 1) := by decide +kernel
theorem dL_clarity_2 : decode cL_clarity 2 = .ok (.iload_n 1, 1) := by decide +kernel
theorem dL_clarity_3 : decode cL_clarity 3 = .ok (.invokevirtual 99, 3) := by decide +kernel
theorem dL_clarity_6 : decode cL_clarity 6 = .ok (.putfield 103, 3) := by decide +kernel
theorem dL_clarity_9 : decode cL_clarity 9 = .ok (.goto 6, 3) := by decide +kernel
theorem dL_clarity_12 : decode cL_clarity 12 = .ok (.astore_n 3, 1) := by decide +kernel
theorem dL_clarity_13 : decode cL_clarity 13 = .ok (.iconst 1, 1) := by decide +kernel
theorem dL_clarity_14 : decode cL_clarity 14 = .ok (.ireturn, 1) := by decide +kernel
theorem dL_clarity_15 : decode cL_clarity 15 = .ok (.iconst 0, 1) := by decide +kernel
theorem dL_clarity_16 : decode cL_clarity 16 = .ok (.ireturn, 1) := by decide +kernel
abbrev rm_w_L_clarity : Room := { frames := 7, cells := 1, slots := 6, locals := 111 }
set_option maxHeartbeats 4000000 in
set_option maxRecDepth 100000 in
theorem w_L_clarity {s0 : State} {l : Launch} {D : va_G} {cy : Nat → ClassId} (G : Gl s0 l D cy) (S : HS) {cn : Cn} (hC : CX (eaOf s0) S cn) (hO : OneO S) (hV10 : vV S 10 0) (a : Int32) : CtrH s0 l D cy yL_clarity cL_clarity 4 [(0, 9, 12, 27)] (some .int) rm_w_L_clarity S [.ref (gG S 10 0), .int a, .ref (gG S 11 0)] (fun v S' => (laK a 5 = 1 ∧ some (.int 1) = v ∧ S = S') ∨ (laK a 5 = 0 ∧ some (.int 0) = v ∧ ∃ S1 : HS, CX (eaOf s0) S1 cn ∧ KeepB S S1 ∧ S' = (sD S1 177 (rMean cn.2.2.2.2.2.2 cn.2.2.2.2.1 a)))) := by
  refine proH "CavershamShiftLaw" G rfl rfl (Nat.le_of_ble_eq_true rfl) (fun p e s m below meth c ls X w hT hl => ?_)
  have hx := X.1
  have hb := X.2.1
  have hown := X.2.2.2.1
  have hts := X.2.2.2.2.1
  have hl : lv_has ls 4 [(0, .ref (gG S 10 0)), (1, .int a), (2, .ref (gG S 11 0))] := hl
  refine lv_aload_n hx hb dL_clarity_0 rfl (lv_at hl 2 rfl) ?_
  refine lv_aload_n hx hb dL_clarity_1 rfl (lv_at hl 0 rfl) ?_
  refine lv_iload_n hx hb dL_clarity_2 rfl (lv_at hl 1 rfl) ?_
  refine cVX (S := S) (t := 10) (nA := 1) (As := [.int a]) (rest := [.ref (gG S 11 0)]) X w hl hV10 (k_X10_clarity G S hC a) wY_X10_clarity wM_L_99 wIn_X10_clarity wSe_X10_X10_clarity wI_X10 (by decide) rfl (by decide +kernel) rfl rfl dL_clarity_3 ⟨Nat.le_of_ble_eq_true rfl, Nat.le_of_ble_eq_true rfl⟩ (Nat.le_of_ble_eq_true rfl) (⟨Nat.le_of_ble_eq_true rfl, Nat.le_of_ble_eq_true rfl⟩) (fun E S1 H locs q9 ce hpx w hce hcv hcl => ?_) (fun v S1 H locs hp w => ?_)
  · obtain ⟨rfl, hE⟩ := hpx
    obtain ⟨rfl, hk9⟩ := hE
    · refine vx_catch hown [] ⟨0, 9, 12, 27⟩ [] (hT.trans rfl) (fun z hz => absurd hz List.not_mem_nil) rfl (by decide) (hts _ wC_L_27) (ca_of X wCa_java_lang_IndexOutOfBoundsException_java_lang_IndexOutOfBoundsException) hce hcv hcl ?_
      refine lv_astore_n (lv' := [(3, .ref q9), (0, .ref (gG S 10 0)), (1, .int a), (2, .ref (gG S 11 0))]) hx hb dL_clarity_12 rfl hl (by decide) rfl (fun ls hl => ?_)
      refine lv_iconst (v := 1) hx hb dL_clarity_13 (by decide) ?_
      exact rI X w rfl dL_clarity_14 (Nat.le_of_ble_eq_true rfl) (Nat.le_of_ble_eq_true rfl) (Or.inl ⟨hk9, rfl, rfl⟩)
  · obtain ⟨hk9, rfl, hC9, hB9⟩ := hp
    have hO1 : OneO S1 := hO.keepB hB9
    have eO1 : gG S 11 0 = gG S1 11 0 := (hB9.G (t := 11) (i := 0) rfl).symm
    refine rE1 eO1 ?_
    refine pN_d (S := S1) (x := (rMean cn.2.2.2.2.2.2 cn.2.2.2.2.1 a)) X w hO1.1 hO1.2 wFN_L_103 dL_clarity_6 (fun H locs w => ?_)
    refine lv_goto (tgt := 15) hx hb dL_clarity_9 (by decide) ?_
    refine lv_iconst (v := 0) hx hb dL_clarity_15 (by decide) ?_
    exact rI X w rfl dL_clarity_16 (Nat.le_of_ble_eq_true rfl) (Nat.le_of_ble_eq_true rfl) (Or.inr (⟨hk9, rfl, S1, hC9, hB9, rfl⟩))

theorem dL_desk_0 : decode cL_desk 0 = .ok (.aload_n 2, 1) := by decide +kernel
theorem dL_desk_1 : decode cL_desk 1 = .ok (.aload_n 0, 1) := by decide +kernel
theorem dL_desk_2 : decode cL_desk 2 = .ok (.iload_n 1, 1) := by decide +kernel
theorem dL_desk_3 : decode cL_desk 3 = .ok (.invokevirtual 107, 3) := by decide +kernel
theorem dL_desk_6 : decode cL_desk 6 = .ok (.i2l, 1) := by decide +kernel
theorem dL_desk_7 : decode cL_desk 7 = .ok (.putfield 13, 3) := by decide +kernel
theorem dL_desk_10 : decode cL_desk 10 = .ok (.goto 6, 3) := by decide +kernel
theorem dL_desk_13 : decode cL_desk 13 = .ok (.astore_n 3, 1) := by decide +kernel
theorem dL_desk_14 : decode cL_desk 14 = .ok (.iconst 1, 1) := by decide +kernel
theorem dL_desk_15 : decode cL_desk 15 = .ok (.ireturn, 1) := by decide +kernel
theorem dL_desk_16 : decode cL_desk 16 = .ok (.iconst 0, 1) := by decide +kernel
theorem dL_desk_17 : decode cL_desk 17 = .ok (.ireturn, 1) := by decide +kernel
abbrev rm_w_L_desk : Room := { frames := 7, cells := 1, slots := 6, locals := 129 }
set_option maxHeartbeats 4000000 in
set_option maxRecDepth 100000 in
theorem w_L_desk {s0 : State} {l : Launch} {D : va_G} {cy : Nat → ClassId} (G : Gl s0 l D cy) (S : HS) {cn : Cn} (hC : CX (eaOf s0) S cn) (hO : OneO S) (hV10 : vV S 10 0) (a : Int32) : CtrH s0 l D cy yL_desk cL_desk 4 [(0, 10, 13, 19)] (some .int) rm_w_L_desk S [.ref (gG S 10 0), .int a, .ref (gG S 11 0)] (fun v S' => (laK a 18 = 1 ∧ some (.int 1) = v ∧ S = S') ∨ (laK a 18 = 0 ∧ some (.int 0) = v ∧ ∃ S1 : HS, CX (eaOf s0) S1 cn ∧ KeepB S S1 ∧ S' = (sL S1 176 (Int32.toInt64 (rDesk cn.2.2.2.2.2.2 cn.1 cn.2.1 cn.2.2.1 cn.2.2.2.1 cn.2.2.2.2.1 (mI S 165 0) a.toNatClampNeg))))) := by
  refine proH "CavershamShiftLaw" G rfl rfl (Nat.le_of_ble_eq_true rfl) (fun p e s m below meth c ls X w hT hl => ?_)
  have hx := X.1
  have hb := X.2.1
  have hown := X.2.2.2.1
  have hts := X.2.2.2.2.1
  have hl : lv_has ls 4 [(0, .ref (gG S 10 0)), (1, .int a), (2, .ref (gG S 11 0))] := hl
  refine lv_aload_n hx hb dL_desk_0 rfl (lv_at hl 2 rfl) ?_
  refine lv_aload_n hx hb dL_desk_1 rfl (lv_at hl 0 rfl) ?_
  refine lv_iload_n hx hb dL_desk_2 rfl (lv_at hl 1 rfl) ?_
  refine cVX (S := S) (t := 10) (nA := 1) (As := [.int a]) (rest := [.ref (gG S 11 0)]) X w hl hV10 (k_X10_desk G S hC a) wY_X10_desk wM_L_107 wIn_X10_desk wSe_X10_X10_desk wI_X10 (by decide) rfl (by decide +kernel) rfl rfl dL_desk_3 ⟨Nat.le_of_ble_eq_true rfl, Nat.le_of_ble_eq_true rfl⟩ (Nat.le_of_ble_eq_true rfl) (⟨Nat.le_of_ble_eq_true rfl, Nat.le_of_ble_eq_true rfl⟩) (fun E S1 H locs q9 ce hpx w hce hcv hcl => ?_) (fun v S1 H locs hp w => ?_)
  · obtain ⟨rfl, hE⟩ := hpx
    obtain ⟨rfl, hk9⟩ := hE
    · refine vx_catch hown [] ⟨0, 10, 13, 19⟩ [] (hT.trans rfl) (fun z hz => absurd hz List.not_mem_nil) rfl (by decide) (hts _ wC_L_19) (ca_of X wCa_java_lang_IllegalArgumentException_java_lang_IllegalArgumentException) hce hcv hcl ?_
      refine lv_astore_n (lv' := [(3, .ref q9), (0, .ref (gG S 10 0)), (1, .int a), (2, .ref (gG S 11 0))]) hx hb dL_desk_13 rfl hl (by decide) rfl (fun ls hl => ?_)
      refine lv_iconst (v := 1) hx hb dL_desk_14 (by decide) ?_
      exact rI X w rfl dL_desk_15 (Nat.le_of_ble_eq_true rfl) (Nat.le_of_ble_eq_true rfl) (Or.inl ⟨hk9, rfl, rfl⟩)
  · obtain ⟨hk9, rfl, hC9, hB9⟩ := hp
    have hO1 : OneO S1 := hO.keepB hB9
    have eO1 : gG S 11 0 = gG S1 11 0 := (hB9.G (t := 11) (i := 0) rfl).symm
    refine lv_i2l hx hb dL_desk_6 rfl ?_
    refine rE1 eO1 ?_
    refine pN_n (S := S1) (x := ((rDesk cn.2.2.2.2.2.2 cn.1 cn.2.1 cn.2.2.1 cn.2.2.2.1 cn.2.2.2.2.1 (mI S 165 0) a.toNatClampNeg).toInt64)) X w hO1.1 hO1.2 wFN_L_13 dL_desk_7 (fun H locs w => ?_)
    refine lv_goto (tgt := 16) hx hb dL_desk_10 (by decide) ?_
    refine lv_iconst (v := 0) hx hb dL_desk_16 (by decide) ?_
    exact rI X w rfl dL_desk_17 (Nat.le_of_ble_eq_true rfl) (Nat.le_of_ble_eq_true rfl) (Or.inr (⟨hk9, rfl, S1, hC9, hB9, rfl⟩))

theorem dL_tell_0 : decode cL_tell 0 = .ok (.aload_n 2, 1) := by decide +kernel
theorem dL_tell_1 : decode cL_tell 1 = .ok (.aload_n 0, 1) := by decide +kernel
theorem dL_tell_2 : decode cL_tell 2 = .ok (.iload_n 1, 1) := by decide +kernel
theorem dL_tell_3 : decode cL_tell 3 = .ok (.invokevirtual 110, 3) := by decide +kernel
theorem dL_tell_6 : decode cL_tell 6 = .ok (.putfield 114, 3) := by decide +kernel
theorem dL_tell_9 : decode cL_tell 9 = .ok (.goto 6, 3) := by decide +kernel
theorem dL_tell_12 : decode cL_tell 12 = .ok (.astore_n 3, 1) := by decide +kernel
theorem dL_tell_13 : decode cL_tell 13 = .ok (.iconst 1, 1) := by decide +kernel
theorem dL_tell_14 : decode cL_tell 14 = .ok (.ireturn, 1) := by decide +kernel
theorem dL_tell_15 : decode cL_tell 15 = .ok (.iconst 0, 1) := by decide +kernel
theorem dL_tell_16 : decode cL_tell 16 = .ok (.ireturn, 1) := by decide +kernel
abbrev rm_w_L_tell : Room := { frames := 7, cells := 12, slots := 1900, locals := 178 }
set_option maxHeartbeats 4000000 in
set_option maxRecDepth 100000 in
theorem w_L_tell {s0 : State} {l : Launch} {D : va_G} {cy : Nat → ClassId} (G : Gl s0 l D cy) (S : HS) {cn : Cn} (hC : CX (eaOf s0) S cn) (hO : OneO S) (hZs : Zs S) (hV10 : vV S 10 0) (a : Int32) : CtrH s0 l D cy yL_tell cL_tell 4 [(0, 9, 12, 27)] (some .int) rm_w_L_tell S [.ref (gG S 10 0), .int a, .ref (gG S 11 0)] (PW s0 S cn) := by
  refine proH "CavershamShiftLaw" G rfl rfl (Nat.le_of_ble_eq_true rfl) (fun p e s m below meth c ls X w hT hl => ?_)
  have hx := X.1
  have hb := X.2.1
  have hown := X.2.2.2.1
  have hts := X.2.2.2.2.1
  have hl : lv_has ls 4 [(0, .ref (gG S 10 0)), (1, .int a), (2, .ref (gG S 11 0))] := hl
  refine lv_aload_n hx hb dL_tell_0 rfl (lv_at hl 2 rfl) ?_
  refine lv_aload_n hx hb dL_tell_1 rfl (lv_at hl 0 rfl) ?_
  refine lv_iload_n hx hb dL_tell_2 rfl (lv_at hl 1 rfl) ?_
  refine cVX (S := S) (t := 10) (nA := 1) (As := [.int a]) (rest := [.ref (gG S 11 0)]) X w hl hV10 (k_X10_tell G S hC hZs a) wY_X10_tell wM_L_110 wIn_X10_tell wSe_X10_X10_tell wI_X10 (by decide) rfl (by decide +kernel) rfl rfl dL_tell_3 ⟨Nat.le_of_ble_eq_true rfl, Nat.le_of_ble_eq_true rfl⟩ (Nat.le_of_ble_eq_true rfl) (⟨Nat.le_of_ble_eq_true rfl, Nat.le_of_ble_eq_true rfl⟩) (fun E S1 H locs q9 ce hpx w hce hcv hcl => ?_) (fun v S1 H locs hp w => ?_)
  · obtain ⟨hE, hC1, hk1⟩ := hpx
    have hs1 : StpL s0 cn S S1 := StpL.ofC hC1 hk1 (Or.inl rfl)
    have hE : E = "java/lang/IndexOutOfBoundsException" := by simpa using hE
    subst hE
    · refine vx_catch hown [] ⟨0, 9, 12, 27⟩ [] (hT.trans rfl) (fun z hz => absurd hz List.not_mem_nil) rfl (by decide) (hts _ wC_L_27) (ca_of X wCa_java_lang_IndexOutOfBoundsException_java_lang_IndexOutOfBoundsException) hce hcv hcl ?_
      refine lv_astore_n (lv' := [(3, .ref q9), (0, .ref (gG S 10 0)), (1, .int a), (2, .ref (gG S 11 0))]) hx hb dL_tell_12 rfl hl (by decide) rfl (fun ls hl => ?_)
      refine lv_iconst (v := 1) hx hb dL_tell_13 (by decide) ?_
      exact rI X w rfl dL_tell_14 (Nat.le_of_ble_eq_true rfl) (Nat.le_of_ble_eq_true rfl) (⟨⟨_, rfl⟩, hs1⟩)
  · obtain ⟨⟨x9, rfl⟩, hC1, hk1⟩ := hp
    have hO1 : OneO S1 := ⟨by rw [hk1.V (t := 11) (i := 0) rfl]; exact hO.1, fun j hj => hO.2 j (by rw [hk1.V (t := 11) (i := j) rfl] at hj; exact hj)⟩
    refine rE1 ((hk1.G (t := 11) (i := 0) rfl).symm) ?_
    refine pN_s (S := S1) (x := x9) X w hO1.1 hO1.2 wFN_L_114 dL_tell_6 (fun H locs w => ?_)
    have hs1 : StpL s0 cn S (sR S1 178 0 (some x9)) := StpL.ofC hC1 hk1 (Or.inr (Or.inr (Or.inr ⟨_, rfl⟩)))
    refine lv_goto (tgt := 15) hx hb dL_tell_9 (by decide) ?_
    refine lv_iconst (v := 0) hx hb dL_tell_15 (by decide) ?_
    exact rI X w rfl dL_tell_16 (Nat.le_of_ble_eq_true rfl) (Nat.le_of_ble_eq_true rfl) (⟨⟨_, rfl⟩, hs1⟩)

theorem dL_best_0 : decode cL_best 0 = .ok (.aload_n 2, 1) := by decide +kernel
theorem dL_best_1 : decode cL_best 1 = .ok (.aload_n 0, 1) := by decide +kernel
theorem dL_best_2 : decode cL_best 2 = .ok (.iload_n 1, 1) := by decide +kernel
theorem dL_best_3 : decode cL_best 3 = .ok (.invokevirtual 118, 3) := by decide +kernel
theorem dL_best_6 : decode cL_best 6 = .ok (.i2l, 1) := by decide +kernel
theorem dL_best_7 : decode cL_best 7 = .ok (.putfield 13, 3) := by decide +kernel
theorem dL_best_10 : decode cL_best 10 = .ok (.goto 6, 3) := by decide +kernel
theorem dL_best_13 : decode cL_best 13 = .ok (.astore_n 3, 1) := by decide +kernel
theorem dL_best_14 : decode cL_best 14 = .ok (.iconst 1, 1) := by decide +kernel
theorem dL_best_15 : decode cL_best 15 = .ok (.ireturn, 1) := by decide +kernel
theorem dL_best_16 : decode cL_best 16 = .ok (.iconst 0, 1) := by decide +kernel
theorem dL_best_17 : decode cL_best 17 = .ok (.ireturn, 1) := by decide +kernel
abbrev rm_w_L_best : Room := { frames := 8, cells := 1, slots := 6, locals := 180 }
set_option maxHeartbeats 4000000 in
set_option maxRecDepth 100000 in
theorem w_L_best {s0 : State} {l : Launch} {D : va_G} {cy : Nat → ClassId} (G : Gl s0 l D cy) (S : HS) {cn : Cn} (hC : CX (eaOf s0) S cn) (hO : OneO S) (hV10 : vV S 10 0) (a : Int32) : CtrH s0 l D cy yL_best cL_best 4 [(0, 10, 13, 27)] (some .int) rm_w_L_best S [.ref (gG S 10 0), .int a, .ref (gG S 11 0)] (fun v S' => (laK a 23 = 1 ∧ some (.int 1) = v ∧ S = S') ∨ (laK a 23 = 0 ∧ some (.int 0) = v ∧ ∃ S1 : HS, CX (eaOf s0) S1 cn ∧ KeepB S S1 ∧ S' = (sL S1 176 (Int32.toInt64 (nI (bG (bQ cn.2.2.2.2.2.2 cn.1 cn.2.1 cn.2.2.1 a) 3 nF nF)))))) := by
  refine proH "CavershamShiftLaw" G rfl rfl (Nat.le_of_ble_eq_true rfl) (fun p e s m below meth c ls X w hT hl => ?_)
  have hx := X.1
  have hb := X.2.1
  have hown := X.2.2.2.1
  have hts := X.2.2.2.2.1
  have hl : lv_has ls 4 [(0, .ref (gG S 10 0)), (1, .int a), (2, .ref (gG S 11 0))] := hl
  refine lv_aload_n hx hb dL_best_0 rfl (lv_at hl 2 rfl) ?_
  refine lv_aload_n hx hb dL_best_1 rfl (lv_at hl 0 rfl) ?_
  refine lv_iload_n hx hb dL_best_2 rfl (lv_at hl 1 rfl) ?_
  refine cVX (S := S) (t := 10) (nA := 1) (As := [.int a]) (rest := [.ref (gG S 11 0)]) X w hl hV10 (k_X10_best G S hC a) wY_X10_best wM_L_118 wIn_X10_best wSe_X10_X10_best wI_X10 (by decide) rfl (by decide +kernel) rfl rfl dL_best_3 ⟨Nat.le_of_ble_eq_true rfl, Nat.le_of_ble_eq_true rfl⟩ (Nat.le_of_ble_eq_true rfl) (⟨Nat.le_of_ble_eq_true rfl, Nat.le_of_ble_eq_true rfl⟩) (fun E S1 H locs q9 ce hpx w hce hcv hcl => ?_) (fun v S1 H locs hp w => ?_)
  · obtain ⟨rfl, hE⟩ := hpx
    obtain ⟨rfl, hk9⟩ := hE
    · refine vx_catch hown [] ⟨0, 10, 13, 27⟩ [] (hT.trans rfl) (fun z hz => absurd hz List.not_mem_nil) rfl (by decide) (hts _ wC_L_27) (ca_of X wCa_java_lang_IndexOutOfBoundsException_java_lang_IndexOutOfBoundsException) hce hcv hcl ?_
      refine lv_astore_n (lv' := [(3, .ref q9), (0, .ref (gG S 10 0)), (1, .int a), (2, .ref (gG S 11 0))]) hx hb dL_best_13 rfl hl (by decide) rfl (fun ls hl => ?_)
      refine lv_iconst (v := 1) hx hb dL_best_14 (by decide) ?_
      exact rI X w rfl dL_best_15 (Nat.le_of_ble_eq_true rfl) (Nat.le_of_ble_eq_true rfl) (Or.inl ⟨hk9, rfl, rfl⟩)
  · obtain ⟨hk9, rfl, hC9, hB9⟩ := hp
    have hO1 : OneO S1 := hO.keepB hB9
    have eO1 : gG S 11 0 = gG S1 11 0 := (hB9.G (t := 11) (i := 0) rfl).symm
    refine lv_i2l hx hb dL_best_6 rfl ?_
    refine rE1 eO1 ?_
    refine pN_n (S := S1) (x := ((nI (bG (bQ cn.2.2.2.2.2.2 cn.1 cn.2.1 cn.2.2.1 a) 3 nF nF)).toInt64)) X w hO1.1 hO1.2 wFN_L_13 dL_best_7 (fun H locs w => ?_)
    refine lv_goto (tgt := 16) hx hb dL_best_10 (by decide) ?_
    refine lv_iconst (v := 0) hx hb dL_best_16 (by decide) ?_
    exact rI X w rfl dL_best_17 (Nat.le_of_ble_eq_true rfl) (Nat.le_of_ble_eq_true rfl) (Or.inr (⟨hk9, rfl, S1, hC9, hB9, rfl⟩))

theorem dL_bestAt_0 : decode cL_bestAt 0 = .ok (.aload 4, 2) := by decide +kernel
theorem dL_bestAt_2 : decode cL_bestAt 2 = .ok (.aload_n 0, 1) := by decide +kernel
theorem dL_bestAt_3 : decode cL_bestAt 3 = .ok (.iload_n 1, 1) := by decide +kernel
theorem dL_bestAt_4 : decode cL_bestAt 4 = .ok (.iload_n 2, 1) := by decide +kernel
theorem dL_bestAt_5 : decode cL_bestAt 5 = .ok (.iload_n 3, 1) := by decide +kernel
theorem dL_bestAt_6 : decode cL_bestAt 6 = .ok (.invokevirtual 121, 3) := by decide +kernel
theorem dL_bestAt_9 : decode cL_bestAt 9 = .ok (.i2l, 1) := by decide +kernel
theorem dL_bestAt_10 : decode cL_bestAt 10 = .ok (.putfield 13, 3) := by decide +kernel
theorem dL_bestAt_13 : decode cL_bestAt 13 = .ok (.goto 7, 3) := by decide +kernel
theorem dL_bestAt_16 : decode cL_bestAt 16 = .ok (.astore 5, 2) := by decide +kernel
theorem dL_bestAt_18 : decode cL_bestAt 18 = .ok (.iconst 1, 1) := by decide +kernel
theorem dL_bestAt_19 : decode cL_bestAt 19 = .ok (.ireturn, 1) := by decide +kernel
theorem dL_bestAt_20 : decode cL_bestAt 20 = .ok (.iconst 0, 1) := by decide +kernel
theorem dL_bestAt_21 : decode cL_bestAt 21 = .ok (.ireturn, 1) := by decide +kernel
abbrev rm_w_L_bestAt : Room := { frames := 8, cells := 1, slots := 6, locals := 187 }
set_option maxHeartbeats 4000000 in
set_option maxRecDepth 100000 in
theorem w_L_bestAt {s0 : State} {l : Launch} {D : va_G} {cy : Nat → ClassId} (G : Gl s0 l D cy) (S : HS) {cn : Cn} (hC : CX (eaOf s0) S cn) (hO : OneO S) (hV10 : vV S 10 0) (a b z : Int32) : CtrH s0 l D cy yL_bestAt cL_bestAt 6 [(0, 13, 16, 27)] (some .int) rm_w_L_bestAt S [.ref (gG S 10 0), .int a, .int b, .int z, .ref (gG S 11 0)] (fun v S' => (siK a b = 1 ∧ some (.int 1) = v ∧ S = S') ∨ (siK a b = 0 ∧ some (.int 0) = v ∧ ∃ S1 : HS, CX (eaOf s0) S1 cn ∧ KeepB S S1 ∧ S' = (sL S1 176 (Int32.toInt64 (if z = 0 then rS (bCk (bQ cn.2.2.2.2.2.2 cn.1 cn.2.1 cn.2.2.1 a) b.toNatClampNeg) else rM (bCk (bQ cn.2.2.2.2.2.2 cn.1 cn.2.1 cn.2.2.1 a) b.toNatClampNeg)))))) := by
  refine proH "CavershamShiftLaw" G rfl rfl (Nat.le_of_ble_eq_true rfl) (fun p e s m below meth c ls X w hT hl => ?_)
  have hx := X.1
  have hb := X.2.1
  have hown := X.2.2.2.1
  have hts := X.2.2.2.2.1
  have hl : lv_has ls 6 [(0, .ref (gG S 10 0)), (1, .int a), (2, .int b), (3, .int z), (4, .ref (gG S 11 0))] := hl
  refine lv_aload hx hb dL_bestAt_0 (lv_at hl 4 rfl) ?_
  refine lv_aload_n hx hb dL_bestAt_2 rfl (lv_at hl 0 rfl) ?_
  refine lv_iload_n hx hb dL_bestAt_3 rfl (lv_at hl 1 rfl) ?_
  refine lv_iload_n hx hb dL_bestAt_4 rfl (lv_at hl 2 rfl) ?_
  refine lv_iload_n hx hb dL_bestAt_5 rfl (lv_at hl 3 rfl) ?_
  refine cVX (S := S) (t := 10) (nA := 3) (As := [.int a, .int b, .int z]) (rest := [.ref (gG S 11 0)]) X w hl hV10 (k_X10_bestAt G S hC a b z) wY_X10_bestAt wM_L_121 wIn_X10_bestAt wSe_X10_X10_bestAt wI_X10 (by decide) rfl (by decide +kernel) rfl rfl dL_bestAt_6 ⟨Nat.le_of_ble_eq_true rfl, Nat.le_of_ble_eq_true rfl⟩ (Nat.le_of_ble_eq_true rfl) (⟨Nat.le_of_ble_eq_true rfl, Nat.le_of_ble_eq_true rfl⟩) (fun E S1 H locs q9 ce hpx w hce hcv hcl => ?_) (fun v S1 H locs hp w => ?_)
  · obtain ⟨rfl, hE⟩ := hpx
    obtain ⟨rfl, hk9⟩ := hE
    · refine vx_catch hown [] ⟨0, 13, 16, 27⟩ [] (hT.trans rfl) (fun z hz => absurd hz List.not_mem_nil) rfl (by decide) (hts _ wC_L_27) (ca_of X wCa_java_lang_IndexOutOfBoundsException_java_lang_IndexOutOfBoundsException) hce hcv hcl ?_
      refine lv_astore (lv' := [(5, .ref q9), (0, .ref (gG S 10 0)), (1, .int a), (2, .int b), (3, .int z), (4, .ref (gG S 11 0))]) hx hb dL_bestAt_16 hl (by decide) rfl (fun ls hl => ?_)
      refine lv_iconst (v := 1) hx hb dL_bestAt_18 (by decide) ?_
      exact rI X w rfl dL_bestAt_19 (Nat.le_of_ble_eq_true rfl) (Nat.le_of_ble_eq_true rfl) (Or.inl ⟨hk9, rfl, rfl⟩)
  · obtain ⟨hk9, rfl, hC9, hB9⟩ := hp
    have hO1 : OneO S1 := hO.keepB hB9
    have eO1 : gG S 11 0 = gG S1 11 0 := (hB9.G (t := 11) (i := 0) rfl).symm
    refine lv_i2l hx hb dL_bestAt_9 rfl ?_
    refine rE1 eO1 ?_
    refine pN_n (S := S1) (x := ((if z = 0 then rS (bCk (bQ cn.2.2.2.2.2.2 cn.1 cn.2.1 cn.2.2.1 a) b.toNatClampNeg) else rM (bCk (bQ cn.2.2.2.2.2.2 cn.1 cn.2.1 cn.2.2.1 a) b.toNatClampNeg)).toInt64)) X w hO1.1 hO1.2 wFN_L_13 dL_bestAt_10 (fun H locs w => ?_)
    refine lv_goto (tgt := 20) hx hb dL_bestAt_13 (by decide) ?_
    refine lv_iconst (v := 0) hx hb dL_bestAt_20 (by decide) ?_
    exact rI X w rfl dL_bestAt_21 (Nat.le_of_ble_eq_true rfl) (Nat.le_of_ble_eq_true rfl) (Or.inr (⟨hk9, rfl, S1, hC9, hB9, rfl⟩))

theorem dL_wouldHear_0 : decode cL_wouldHear 0 = .ok (.aload_n 2, 1) := by decide +kernel
theorem dL_wouldHear_1 : decode cL_wouldHear 1 = .ok (.aload_n 0, 1) := by decide +kernel
theorem dL_wouldHear_2 : decode cL_wouldHear 2 = .ok (.iload_n 1, 1) := by decide +kernel
theorem dL_wouldHear_3 : decode cL_wouldHear 3 = .ok (.invokevirtual 124, 3) := by decide +kernel
theorem dL_wouldHear_6 : decode cL_wouldHear 6 = .ok (.i2l, 1) := by decide +kernel
theorem dL_wouldHear_7 : decode cL_wouldHear 7 = .ok (.putfield 13, 3) := by decide +kernel
theorem dL_wouldHear_10 : decode cL_wouldHear 10 = .ok (.goto 9, 3) := by decide +kernel
theorem dL_wouldHear_13 : decode cL_wouldHear 13 = .ok (.astore_n 3, 1) := by decide +kernel
theorem dL_wouldHear_14 : decode cL_wouldHear 14 = .ok (.iconst 1, 1) := by decide +kernel
theorem dL_wouldHear_15 : decode cL_wouldHear 15 = .ok (.ireturn, 1) := by decide +kernel
theorem dL_wouldHear_16 : decode cL_wouldHear 16 = .ok (.astore_n 3, 1) := by decide +kernel
theorem dL_wouldHear_17 : decode cL_wouldHear 17 = .ok (.iconst 2, 1) := by decide +kernel
theorem dL_wouldHear_18 : decode cL_wouldHear 18 = .ok (.ireturn, 1) := by decide +kernel
theorem dL_wouldHear_19 : decode cL_wouldHear 19 = .ok (.iconst 0, 1) := by decide +kernel
theorem dL_wouldHear_20 : decode cL_wouldHear 20 = .ok (.ireturn, 1) := by decide +kernel
abbrev rm_w_L_wouldHear : Room := { frames := 8, cells := 1, slots := 6, locals := 187 }
set_option maxHeartbeats 4000000 in
set_option maxRecDepth 100000 in
theorem w_L_wouldHear {s0 : State} {l : Launch} {D : va_G} {cy : Nat → ClassId} (G : Gl s0 l D cy) (S : HS) {cn : Cn} (hC : CX (eaOf s0) S cn) (hO : OneO S) (hV10 : vV S 10 0) (a : Int32) : CtrH s0 l D cy yL_wouldHear cL_wouldHear 4 [(0, 10, 13, 27), (0, 10, 16, 21)] (some .int) rm_w_L_wouldHear S [.ref (gG S 10 0), .int a, .ref (gG S 11 0)] (fun v S' => (whK cn.2.2.2.2.1 a (mI cn.2.2.2.2.2.2 241 a.toNatClampNeg) (nI cn.2.2.2.2.2.1) = 1 ∧ some (.int 1) = v ∧ S = S') ∨ (whK cn.2.2.2.2.1 a (mI cn.2.2.2.2.2.2 241 a.toNatClampNeg) (nI cn.2.2.2.2.2.1) = 2 ∧ some (.int 2) = v ∧ S = S') ∨ (whK cn.2.2.2.2.1 a (mI cn.2.2.2.2.2.2 241 a.toNatClampNeg) (nI cn.2.2.2.2.2.1) = 0 ∧ some (.int 0) = v ∧ ∃ S1 : HS, CX (eaOf s0) S1 cn ∧ KeepB S S1 ∧ S' = (sL S1 176 (Int32.toInt64 (whF cn.2.2.2.2.2.2 cn.1 cn.2.1 a.toNatClampNeg (tH cn.2.2.2.2.2.2 a.toNatClampNeg % 24)))))) := by
  refine proH "CavershamShiftLaw" G rfl rfl (Nat.le_of_ble_eq_true rfl) (fun p e s m below meth c ls X w hT hl => ?_)
  have hx := X.1
  have hb := X.2.1
  have hown := X.2.2.2.1
  have hts := X.2.2.2.2.1
  have hl : lv_has ls 4 [(0, .ref (gG S 10 0)), (1, .int a), (2, .ref (gG S 11 0))] := hl
  refine lv_aload_n hx hb dL_wouldHear_0 rfl (lv_at hl 2 rfl) ?_
  refine lv_aload_n hx hb dL_wouldHear_1 rfl (lv_at hl 0 rfl) ?_
  refine lv_iload_n hx hb dL_wouldHear_2 rfl (lv_at hl 1 rfl) ?_
  refine cVX (S := S) (t := 10) (nA := 1) (As := [.int a]) (rest := [.ref (gG S 11 0)]) X w hl hV10 (k_X10_wouldHear G S hC a) wY_X10_wouldHear wM_L_124 wIn_X10_wouldHear wSe_X10_X10_wouldHear wI_X10 (by decide) rfl (by decide +kernel) rfl rfl dL_wouldHear_3 ⟨Nat.le_of_ble_eq_true rfl, Nat.le_of_ble_eq_true rfl⟩ (Nat.le_of_ble_eq_true rfl) (⟨Nat.le_of_ble_eq_true rfl, Nat.le_of_ble_eq_true rfl⟩) (fun E S1 H locs q9 ce hpx w hce hcv hcl => ?_) (fun v S1 H locs hp w => ?_)
  · obtain ⟨rfl, hE⟩ := hpx
    rcases hE with ⟨rfl, hk9⟩ | ⟨rfl, hk9⟩
    · refine vx_catch hown [] ⟨0, 10, 13, 27⟩ [⟨0, 10, 16, 21⟩] (hT.trans rfl) (fun z hz => absurd hz List.not_mem_nil) rfl (by decide) (hts _ wC_L_27) (ca_of X wCa_java_lang_IndexOutOfBoundsException_java_lang_IndexOutOfBoundsException) hce hcv hcl ?_
      refine lv_astore_n (lv' := [(3, .ref q9), (0, .ref (gG S 10 0)), (1, .int a), (2, .ref (gG S 11 0))]) hx hb dL_wouldHear_13 rfl hl (by decide) rfl (fun ls hl => ?_)
      refine lv_iconst (v := 1) hx hb dL_wouldHear_14 (by decide) ?_
      exact rI X w rfl dL_wouldHear_15 (Nat.le_of_ble_eq_true rfl) (Nat.le_of_ble_eq_true rfl) (Or.inl ⟨hk9, rfl, rfl⟩)
    · refine vx_catch hown [⟨0, 10, 13, 27⟩] ⟨0, 10, 16, 21⟩ [] (hT.trans rfl) (by intro z hz; simp only [List.mem_cons, List.not_mem_nil, or_false] at hz; rcases hz with rfl <;> first | exact Or.inr ⟨by decide, "java/lang/IndexOutOfBoundsException", hts _ wC_L_27, nc_of X nc_ISE_IOB⟩) rfl (by decide) (hts _ wC_L_21) (ca_of X wCa_java_lang_IllegalStateException_java_lang_IllegalStateException) hce hcv hcl ?_
      refine lv_astore_n (lv' := [(3, .ref q9), (0, .ref (gG S 10 0)), (1, .int a), (2, .ref (gG S 11 0))]) hx hb dL_wouldHear_16 rfl hl (by decide) rfl (fun ls hl => ?_)
      refine lv_iconst (v := 2) hx hb dL_wouldHear_17 (by decide) ?_
      exact rI X w rfl dL_wouldHear_18 (Nat.le_of_ble_eq_true rfl) (Nat.le_of_ble_eq_true rfl) (Or.inr (Or.inl ⟨hk9, rfl, rfl⟩))
  · obtain ⟨hk9, rfl, hC9, hB9⟩ := hp
    have hO1 : OneO S1 := hO.keepB hB9
    have eO1 : gG S 11 0 = gG S1 11 0 := (hB9.G (t := 11) (i := 0) rfl).symm
    refine lv_i2l hx hb dL_wouldHear_6 rfl ?_
    refine rE1 eO1 ?_
    refine pN_n (S := S1) (x := ((whF cn.2.2.2.2.2.2 cn.1 cn.2.1 a.toNatClampNeg (tH cn.2.2.2.2.2.2 a.toNatClampNeg % 24)).toInt64)) X w hO1.1 hO1.2 wFN_L_13 dL_wouldHear_7 (fun H locs w => ?_)
    refine lv_goto (tgt := 19) hx hb dL_wouldHear_10 (by decide) ?_
    refine lv_iconst (v := 0) hx hb dL_wouldHear_19 (by decide) ?_
    exact rI X w rfl dL_wouldHear_20 (Nat.le_of_ble_eq_true rfl) (Nat.le_of_ble_eq_true rfl) (Or.inr (Or.inr (⟨hk9, rfl, S1, hC9, hB9, rfl⟩)))

theorem dL_pass_0 : decode cL_pass 0 = .ok (.aload_n 2, 1) := by decide +kernel
theorem dL_pass_1 : decode cL_pass 1 = .ok (.aload_n 0, 1) := by decide +kernel
theorem dL_pass_2 : decode cL_pass 2 = .ok (.iload_n 1, 1) := by decide +kernel
theorem dL_pass_3 : decode cL_pass 3 = .ok (.invokevirtual 59, 3) := by decide +kernel
theorem dL_pass_13 : decode cL_pass 13 = .ok (.astore_n 3, 1) := by decide +kernel
theorem dL_pass_14 : decode cL_pass 14 = .ok (.iconst 1, 1) := by decide +kernel
theorem dL_pass_15 : decode cL_pass 15 = .ok (.ireturn, 1) := by decide +kernel
theorem dL_pass_16 : decode cL_pass 16 = .ok (.astore_n 3, 1) := by decide +kernel
theorem dL_pass_17 : decode cL_pass 17 = .ok (.iconst 2, 1) := by decide +kernel
theorem dL_pass_18 : decode cL_pass 18 = .ok (.ireturn, 1) := by decide +kernel
abbrev rm_w_L_pass_x : Room := { frames := 7, cells := 1, slots := 6, locals := 112 }
set_option maxHeartbeats 4000000 in
set_option maxRecDepth 100000 in
theorem w_L_pass_x {s0 : State} {l : Launch} {D : va_G} {cy : Nat → ClassId} (G : Gl s0 l D cy) (S : HS) {cn : Cn} (hC : CX (eaOf s0) S cn) (hO : OneO S) (hV10 : vV S 10 0) (a : Int32) (hbad : ¬ psK (nI cn.2.2.2.2.2.1) a = 0) : CtrH s0 l D cy yL_pass cL_pass 4 [(0, 10, 13, 19), (0, 10, 16, 21)] (some .int) rm_w_L_pass_x S [.ref (gG S 10 0), .int a, .ref (gG S 11 0)] (fun v S' => (psK (nI cn.2.2.2.2.2.1) a = 1 ∧ some (.int 1) = v ∧ S = S') ∨ (psK (nI cn.2.2.2.2.2.1) a = 2 ∧ some (.int 2) = v ∧ S = S')) := by
  refine proH "CavershamShiftLaw" G rfl rfl (Nat.le_of_ble_eq_true rfl) (fun p e s m below meth c ls X w hT hl => ?_)
  have hx := X.1
  have hb := X.2.1
  have hown := X.2.2.2.1
  have hts := X.2.2.2.2.1
  have hl : lv_has ls 4 [(0, .ref (gG S 10 0)), (1, .int a), (2, .ref (gG S 11 0))] := hl
  refine lv_aload_n hx hb dL_pass_0 rfl (lv_at hl 2 rfl) ?_
  refine lv_aload_n hx hb dL_pass_1 rfl (lv_at hl 0 rfl) ?_
  refine lv_iload_n hx hb dL_pass_2 rfl (lv_at hl 1 rfl) ?_
  refine cVX (S := S) (t := 10) (nA := 1) (As := [.int a]) (rest := [.ref (gG S 11 0)]) X w hl hV10 (k_X10_pass_x G S hC a hbad) wY_X10_pass wM_L_59 wIn_X10_pass wSe_X10_X10_pass wI_X10 (by decide) rfl (by decide +kernel) rfl rfl dL_pass_3 ⟨Nat.le_of_ble_eq_true rfl, Nat.le_of_ble_eq_true rfl⟩ (Nat.le_of_ble_eq_true rfl) (⟨Nat.le_of_ble_eq_true rfl, Nat.le_of_ble_eq_true rfl⟩) (fun E S1 H locs q9 ce hpx w hce hcv hcl => ?_) (fun v S1 H locs hp w => ?_)
  · obtain ⟨rfl, hE⟩ := hpx
    rcases hE with ⟨rfl, hk9⟩ | ⟨rfl, hk9⟩
    · refine vx_catch hown [] ⟨0, 10, 13, 19⟩ [⟨0, 10, 16, 21⟩] (hT.trans rfl) (fun z hz => absurd hz List.not_mem_nil) rfl (by decide) (hts _ wC_L_19) (ca_of X wCa_java_lang_IllegalArgumentException_java_lang_IllegalArgumentException) hce hcv hcl ?_
      refine lv_astore_n (lv' := [(3, .ref q9), (0, .ref (gG S 10 0)), (1, .int a), (2, .ref (gG S 11 0))]) hx hb dL_pass_13 rfl hl (by decide) rfl (fun ls hl => ?_)
      refine lv_iconst (v := 1) hx hb dL_pass_14 (by decide) ?_
      exact rI X w rfl dL_pass_15 (Nat.le_of_ble_eq_true rfl) (Nat.le_of_ble_eq_true rfl) (Or.inl ⟨hk9, rfl, rfl⟩)
    · refine vx_catch hown [⟨0, 10, 13, 19⟩] ⟨0, 10, 16, 21⟩ [] (hT.trans rfl) (by intro z hz; simp only [List.mem_cons, List.not_mem_nil, or_false] at hz; rcases hz with rfl <;> first | exact Or.inr ⟨by decide, "java/lang/IllegalArgumentException", hts _ wC_L_19, nc_of X nc_ISE_IAE⟩) rfl (by decide) (hts _ wC_L_21) (ca_of X wCa_java_lang_IllegalStateException_java_lang_IllegalStateException) hce hcv hcl ?_
      refine lv_astore_n (lv' := [(3, .ref q9), (0, .ref (gG S 10 0)), (1, .int a), (2, .ref (gG S 11 0))]) hx hb dL_pass_16 rfl hl (by decide) rfl (fun ls hl => ?_)
      refine lv_iconst (v := 2) hx hb dL_pass_17 (by decide) ?_
      exact rI X w rfl dL_pass_18 (Nat.le_of_ble_eq_true rfl) (Nat.le_of_ble_eq_true rfl) (Or.inr (⟨hk9, rfl, rfl⟩))
  · obtain ⟨-, hP9⟩ := hp
    exact hP9.elim

def PWn (s0 : State) (S : HS) (cn : Cn) (n : Nat) : Option Value → HS → Prop := fun v S' => some (.int 0) = v ∧ ∃ S1 : HS, CX (eaOf s0) S1 (cn.1, cn.2.1, cn.2.2.1, cn.2.2.2.1, cn.2.2.2.2.1, cn.2.2.2.2.2.1 + n, hoN cn.2.2.2.2.2.2 cn.1 cn.2.1 cn.2.2.1 cn.2.2.2.2.1 cn.2.2.2.1 cn.2.2.2.2.2.1 n) ∧ KeepB S S1 ∧ S' = sL S1 176 (Int32.toInt64 (nI (cn.2.2.2.2.2.1 + n)))

theorem dL_pass_6 : decode cL_pass 6 = .ok (.i2l, 1) := by decide +kernel
theorem dL_pass_7 : decode cL_pass 7 = .ok (.putfield 13, 3) := by decide +kernel
theorem dL_pass_10 : decode cL_pass 10 = .ok (.goto 9, 3) := by decide +kernel
theorem dL_pass_19 : decode cL_pass 19 = .ok (.iconst 0, 1) := by decide +kernel
theorem dL_pass_20 : decode cL_pass 20 = .ok (.ireturn, 1) := by decide +kernel
abbrev rm_w_L_pass_n (n : Nat) : Room := { frames := 13, cells := 80 * n, slots := 2480 * n, locals := 334 }
set_option maxHeartbeats 4000000 in
set_option maxRecDepth 100000 in
theorem w_L_pass_n {s0 : State} {l : Launch} {D : va_G} {cy : Nat → ClassId} (G : Gl s0 l D cy) (S : HS) {cn : Cn} (hC : CX (eaOf s0) S cn) (hO : OneO S) (hV10 : vV S 10 0) (n : Nat) (hn1 : 1 ≤ n) (hn : n ≤ 48) (hgn : cn.2.2.2.2.2.1 + n ≤ 720) : CtrH s0 l D cy yL_pass cL_pass 4 [(0, 10, 13, 19), (0, 10, 16, 21)] (some .int) (rm_w_L_pass_n n) S [.ref (gG S 10 0), .int (nI n), .ref (gG S 11 0)] (PWn s0 S cn n) := by
  refine proH "CavershamShiftLaw" G rfl rfl (Nat.le_of_ble_eq_true rfl) (fun p e s m below meth c ls X w hT hl => ?_)
  have hx := X.1
  have hb := X.2.1
  have hown := X.2.2.2.1
  have hts := X.2.2.2.2.1
  have hl : lv_has ls 4 [(0, .ref (gG S 10 0)), (1, .int (nI n)), (2, .ref (gG S 11 0))] := hl
  refine lv_aload_n hx hb dL_pass_0 rfl (lv_at hl 2 rfl) ?_
  refine lv_aload_n hx hb dL_pass_1 rfl (lv_at hl 0 rfl) ?_
  refine lv_iload_n hx hb dL_pass_2 rfl (lv_at hl 1 rfl) ?_
  refine cV (S := S) (nA := 1) (As := [.int (nI n)]) (rest := [.ref (gG S 11 0)]) X w hl hV10 (k_X10_pass_n G S hC n hn1 hn hgn) wY_X10_pass wM_L_59 wIn_X10_pass wSe_X10_X10_pass wI_X10 (by decide) rfl (by decide +kernel) rfl rfl dL_pass_3 ⟨Nat.le_of_ble_eq_true rfl, Nat.le_of_ble_eq_true rfl⟩ (Nat.le_of_ble_eq_true rfl) (⟨show 0 + 80 * n ≤ 80 * n by omega, show 0 + 2480 * n ≤ 2480 * n by omega⟩) (fun v S1 H locs hp w => ?_)
  obtain ⟨rfl, hC1, hk1⟩ := hp
  have hO1 : OneO S1 := hO.keepB hk1
  refine lv_i2l hx hb dL_pass_6 rfl ?_
  refine rE1 ((hk1.G (t := 11) (i := 0) rfl).symm) ?_
  refine pN_n (S := S1) (x := ((nI (cn.2.2.2.2.2.1 + n)).toInt64)) X w hO1.1 hO1.2 wFN_L_13 dL_pass_7 (fun H locs w => ?_)
  refine lv_goto (tgt := 19) hx hb dL_pass_10 (by decide) ?_
  refine lv_iconst (v := 0) hx hb dL_pass_19 (by decide) ?_
  exact rI X w rfl dL_pass_20 (show 0 + 80 * n ≤ 80 * n by omega) (show 0 + 2480 * n ≤ 2480 * n by omega) (⟨rfl, S1, hC1, hk1, rfl⟩)

