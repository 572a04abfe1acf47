theorem dX10_drift_0 : decode cX10_drift 0 = .ok (.aload_n 0, 1) := by decide +kernel
theorem dX10_drift_1 : decode cX10_drift 1 = .ok (.getfield 12, 3) := by decide +kernel
theorem dX10_drift_4 : decode cX10_drift 4 = .ok (.iload_n 1, 1) := by decide +kernel
theorem dX10_drift_5 : decode cX10_drift 5 = .ok (.invokevirtual 86, 3) := by decide +kernel
theorem dX10_drift_8 : decode cX10_drift 8 = .ok (.astore_n 3, 1) := by decide +kernel
theorem dX10_drift_9 : decode cX10_drift 9 = .ok (.aload_n 3, 1) := by decide +kernel
theorem dX10_drift_10 : decode cX10_drift 10 = .ok (.ifnonnull 13, 3) := by decide +kernel
theorem dX10_drift_13 : decode cX10_drift 13 = .ok (.new 90, 3) := by decide +kernel
theorem dX10_drift_16 : decode cX10_drift 16 = .ok (.dup, 1) := by decide +kernel
theorem dX10_drift_17 : decode cX10_drift 17 = .ok (.ldc 92, 2) := by decide +kernel
theorem dX10_drift_19 : decode cX10_drift 19 = .ok (.invokespecial 94, 3) := by decide +kernel
theorem dX10_drift_22 : decode cX10_drift 22 = .ok (.athrow, 1) := by decide +kernel
theorem dX10_drift_23 : decode cX10_drift 23 = .ok (.iload_n 2, 1) := by decide +kernel
theorem dX10_drift_24 : decode cX10_drift 24 = .ok (.iconst 0, 1) := by decide +kernel
theorem dX10_drift_25 : decode cX10_drift 25 = .ok (.bipush 99, 2) := by decide +kernel
theorem dX10_drift_27 : decode cX10_drift 27 = .ok (.invokestatic 48, 3) := by decide +kernel
theorem dX10_drift_30 : decode cX10_drift 30 = .ok (.ifCond .eq 13, 3) := by decide +kernel
theorem dX10_drift_33 : decode cX10_drift 33 = .ok (.new 52, 3) := by decide +kernel
theorem dX10_drift_36 : decode cX10_drift 36 = .ok (.dup, 1) := by decide +kernel
theorem dX10_drift_37 : decode cX10_drift 37 = .ok (.ldc 95, 2) := by decide +kernel
theorem dX10_drift_39 : decode cX10_drift 39 = .ok (.invokespecial 56, 3) := by decide +kernel
theorem dX10_drift_42 : decode cX10_drift 42 = .ok (.athrow, 1) := by decide +kernel
theorem dX10_drift_43 : decode cX10_drift 43 = .ok (.aload_n 3, 1) := by decide +kernel
theorem dX10_drift_44 : decode cX10_drift 44 = .ok (.getfield 97, 3) := by decide +kernel
theorem dX10_drift_47 : decode cX10_drift 47 = .ok (.istore 4, 2) := by decide +kernel
theorem dX10_drift_49 : decode cX10_drift 49 = .ok (.aload_n 3, 1) := by decide +kernel
theorem dX10_drift_50 : decode cX10_drift 50 = .ok (.iload_n 2, 1) := by decide +kernel
theorem dX10_drift_51 : decode cX10_drift 51 = .ok (.putfield 97, 3) := by decide +kernel
theorem dX10_drift_54 : decode cX10_drift 54 = .ok (.iload 4, 2) := by decide +kernel
theorem dX10_drift_56 : decode cX10_drift 56 = .ok (.ireturn, 1) := by decide +kernel
abbrev rm_m_X10_drift : Room := { frames := 6, cells := 1, slots := 6, locals := 90 }
set_option maxHeartbeats 4000000 in
set_option maxRecDepth 100000 in
theorem m_X10_drift {s0 : State} {l : Launch} {D : va_G} {cy : Nat → ClassId} (G : Gl s0 l D cy) (S : HS) (ea ns nj nm nt nr nc : Nat) (h : CI ea S ns nj nm nt nr nc) (a b : Int32) : CtX s0 l D cy yX10_drift cX10_drift 5 (some .int) rm_m_X10_drift S [.ref (gG S 10 0), .int a, .int b] (fun v S' => ∃ j, j < ns ∧ a = nI j ∧ sOut b 0 99 = false ∧ some (.int (mI S 129 j)) = v ∧ S' = sI S 129 j b) (fun E S' => S = S' ∧ ((E = "java/lang/IndexOutOfBoundsException" ∧ sOut a 0 (nI ns - 1) = true) ∨ (E = "java/lang/IllegalArgumentException" ∧ (∃ j, j < ns ∧ a = nI j) ∧ sOut b 0 99 = true))) := by
  refine proX "CavershamShift" G rfl rfl (Nat.le_of_ble_eq_true rfl) (fun p e s m below meth c ls X w hno hl => ?_)
  have hx := X.1
  have hb := X.2.1
  have hown := X.2.2.2.1
  have hts := X.2.2.2.2.1
  have hl : lv_has ls 5 [(0, .ref (gG S 10 0)), (1, .int a), (2, .int b)] := hl
  refine lv_aload_n hx hb dX10_drift_0 rfl (lv_at hl 0 rfl) ?_
  refine g_10_0 (S := S) (x := (some (gG S 0 0))) X w h.v10 wF_X10_12 (h.f160) dX10_drift_1 ?_
  refine lv_iload_n hx hb dX10_drift_4 rfl (lv_at hl 1 rfl) ?_
  refine cV (S := S) (nA := 1) (As := [.int a]) (rest := []) X w hl h.v0 (m_X0_stationAt G S ea ns nj nm nt nr nc h a) wY_X0_stationAt wM_X10_86 wIn_X0_stationAt wSe_X0_X0_stationAt wI_X0 (by decide) rfl (by decide +kernel) rfl rfl dX10_drift_5 ⟨by decide, by decide⟩ (Nat.le_of_ble_eq_true rfl) (⟨Nat.le_of_ble_eq_true rfl, Nat.le_of_ble_eq_true rfl⟩) (fun v2 S1 H locs hp w => ?_)
  obtain ⟨hp, rfl⟩ := hp
  rcases hp with ⟨rfl, hoj1⟩ | ⟨j1, hlj1, hkj1, rfl⟩
  · skip
    refine lv_astore_nN (lv' := [(3, .null), (0, .ref (gG S 10 0)), (1, .int a), (2, .int b)]) hx hb dX10_drift_8 rfl hl (by decide) rfl (fun ls hl => ?_)
    refine lv_aload_nN hx hb dX10_drift_9 rfl (lv_at hl 0 rfl) ?_
    refine lv_ifnonnullN hx hb dX10_drift_10 ?_
    exact rT (S := S) (names := ["java/lang/RuntimeException", "java/lang/Exception"]) X w hl hno (by decide) (by decide) wC_X10_90 wI_java_lang_IndexOutOfBoundsException wS9_X10_92 at_IOB go_IOB ⟨by decide, by decide⟩ dX10_drift_13 dX10_drift_16 dX10_drift_17 dX10_drift_19 dX10_drift_22 (by decide) (by decide) (Nat.le_of_ble_eq_true rfl) (Nat.le_of_ble_eq_true rfl) (Nat.le_of_ble_eq_true rfl) (Nat.le_of_ble_eq_true rfl) (⟨rfl, Or.inl ⟨rfl, by assumption⟩⟩)
  · skip
    refine lv_astore_n (lv' := [(3, .ref (gG S 8 j1)), (0, .ref (gG S 10 0)), (1, .int a), (2, .int b)]) hx hb dX10_drift_8 rfl hl (by decide) rfl (fun ls hl => ?_)
    refine lv_aload_n hx hb dX10_drift_9 rfl (lv_at hl 0 rfl) ?_
    refine lv_ifnonnull (tgt := 23) hx hb dX10_drift_10 (by decide) ?_
    refine lv_iload_n hx hb dX10_drift_23 rfl (lv_at hl 3 rfl) ?_
    refine lv_iconst (v := 0) hx hb dX10_drift_24 (by decide) ?_
    refine lv_bipush (v := 99) hx hb dX10_drift_25 (by decide) ?_
    refine cS (S := S) (nA := 3) (As := [.int b, .int 0, .int 99]) (rest := []) X w hl (m_X10_isOutside G S b 0 99) wY_X10_isOutside wM_X10_48 wSt_X10_isOutside wI_X10 (by decide +kernel) rfl rfl dX10_drift_27 ⟨by decide, by decide⟩ (Nat.le_of_ble_eq_true rfl) (⟨Nat.le_of_ble_eq_true rfl, Nat.le_of_ble_eq_true rfl⟩) (fun v3 S1 H locs hp w => ?_)
    obtain ⟨rfl, rfl⟩ := hp
    refine lv_if_eq (tgt := 43) hx hb dX10_drift_30 (by decide) (fun hc4 => ?_) (fun hc4 => ?_)
    · refine lv_aload_n hx hb dX10_drift_43 rfl (lv_at hl 0 rfl) ?_
      refine g_8_1 (S := S) (x := (mI S 129 j1)) X w (h.e_st j1 hlj1).2 wF_X10_97 (rfl) dX10_drift_44 ?_
      refine lv_istore (lv' := [(4, .int (mI S 129 j1)), (3, .ref (gG S 8 j1)), (0, .ref (gG S 10 0)), (1, .int a), (2, .int b)]) hx hb dX10_drift_47 hl (by decide) rfl (fun ls hl => ?_)
      refine lv_aload_n hx hb dX10_drift_49 rfl (lv_at hl 1 rfl) ?_
      refine lv_iload_n hx hb dX10_drift_50 rfl (lv_at hl 4 rfl) ?_
      refine p_8_1 (S := S) (x := b) X w (h.e_st j1 hlj1).2 wF_X10_97 dX10_drift_51 (fun H locs w => ?_)
      refine lv_iload hx hb dX10_drift_54 (lv_at hl 0 rfl) ?_
      exact rXr (rI X w rfl dX10_drift_56 (by decide) (by decide) (⟨_, by assumption, by assumption, by simp_all [b2i], rfl, rfl⟩))
    · exact rT (S := S) (names := ["java/lang/RuntimeException", "java/lang/Exception"]) X w hl hno (by decide) (by decide) wC_X10_52 wI_java_lang_IllegalArgumentException wS9_X10_95 at_IAE go_IAE ⟨by decide, by decide⟩ dX10_drift_33 dX10_drift_36 dX10_drift_37 dX10_drift_39 dX10_drift_42 (by decide) (by decide) (Nat.le_of_ble_eq_true rfl) (Nat.le_of_ble_eq_true rfl) (Nat.le_of_ble_eq_true rfl) (Nat.le_of_ble_eq_true rfl) (⟨rfl, Or.inr ⟨rfl, ⟨_, by assumption, by assumption⟩, by simp_all [b2i]⟩⟩)

theorem dX10_jam_0 : decode cX10_jam 0 = .ok (.aload_n 0, 1) := by decide +kernel
theorem dX10_jam_1 : decode cX10_jam 1 = .ok (.getfield 12, 3) := by decide +kernel
theorem dX10_jam_4 : decode cX10_jam 4 = .ok (.iload_n 1, 1) := by decide +kernel
theorem dX10_jam_5 : decode cX10_jam 5 = .ok (.invokevirtual 111, 3) := by decide +kernel
theorem dX10_jam_8 : decode cX10_jam 8 = .ok (.astore_n 3, 1) := by decide +kernel
theorem dX10_jam_9 : decode cX10_jam 9 = .ok (.aload_n 3, 1) := by decide +kernel
theorem dX10_jam_10 : decode cX10_jam 10 = .ok (.ifnonnull 13, 3) := by decide +kernel
theorem dX10_jam_13 : decode cX10_jam 13 = .ok (.new 90, 3) := by decide +kernel
theorem dX10_jam_16 : decode cX10_jam 16 = .ok (.dup, 1) := by decide +kernel
theorem dX10_jam_17 : decode cX10_jam 17 = .ok (.ldc 115, 2) := by decide +kernel
theorem dX10_jam_19 : decode cX10_jam 19 = .ok (.invokespecial 94, 3) := by decide +kernel
theorem dX10_jam_22 : decode cX10_jam 22 = .ok (.athrow, 1) := by decide +kernel
theorem dX10_jam_23 : decode cX10_jam 23 = .ok (.iload_n 2, 1) := by decide +kernel
theorem dX10_jam_24 : decode cX10_jam 24 = .ok (.iconst 0, 1) := by decide +kernel
theorem dX10_jam_25 : decode cX10_jam 25 = .ok (.bipush 9, 2) := by decide +kernel
theorem dX10_jam_27 : decode cX10_jam 27 = .ok (.invokestatic 48, 3) := by decide +kernel
theorem dX10_jam_30 : decode cX10_jam 30 = .ok (.ifCond .eq 13, 3) := by decide +kernel
theorem dX10_jam_33 : decode cX10_jam 33 = .ok (.new 52, 3) := by decide +kernel
theorem dX10_jam_36 : decode cX10_jam 36 = .ok (.dup, 1) := by decide +kernel
theorem dX10_jam_37 : decode cX10_jam 37 = .ok (.ldc 117, 2) := by decide +kernel
theorem dX10_jam_39 : decode cX10_jam 39 = .ok (.invokespecial 56, 3) := by decide +kernel
theorem dX10_jam_42 : decode cX10_jam 42 = .ok (.athrow, 1) := by decide +kernel
theorem dX10_jam_43 : decode cX10_jam 43 = .ok (.aload_n 3, 1) := by decide +kernel
theorem dX10_jam_44 : decode cX10_jam 44 = .ok (.getfield 119, 3) := by decide +kernel
theorem dX10_jam_47 : decode cX10_jam 47 = .ok (.istore 4, 2) := by decide +kernel
theorem dX10_jam_49 : decode cX10_jam 49 = .ok (.aload_n 3, 1) := by decide +kernel
theorem dX10_jam_50 : decode cX10_jam 50 = .ok (.iload_n 2, 1) := by decide +kernel
theorem dX10_jam_51 : decode cX10_jam 51 = .ok (.putfield 119, 3) := by decide +kernel
theorem dX10_jam_54 : decode cX10_jam 54 = .ok (.iload 4, 2) := by decide +kernel
theorem dX10_jam_56 : decode cX10_jam 56 = .ok (.ireturn, 1) := by decide +kernel
abbrev rm_m_X10_jam : Room := { frames := 6, cells := 1, slots := 6, locals := 90 }
set_option maxHeartbeats 4000000 in
set_option maxRecDepth 100000 in
theorem m_X10_jam {s0 : State} {l : Launch} {D : va_G} {cy : Nat → ClassId} (G : Gl s0 l D cy) (S : HS) (ea ns nj nm nt nr nc : Nat) (h : CI ea S ns nj nm nt nr nc) (a b : Int32) : CtX s0 l D cy yX10_jam cX10_jam 5 (some .int) rm_m_X10_jam S [.ref (gG S 10 0), .int a, .int b] (fun v S' => ∃ j, j < nj ∧ a = nI j ∧ sOut b 0 9 = false ∧ some (.int (mI S 17 j)) = v ∧ S' = sI S 17 j b) (fun E S' => S = S' ∧ ((E = "java/lang/IndexOutOfBoundsException" ∧ sOut a 0 (nI nj - 1) = true) ∨ (E = "java/lang/IllegalArgumentException" ∧ (∃ j, j < nj ∧ a = nI j) ∧ sOut b 0 9 = true))) := by
  refine proX "CavershamShift" G rfl rfl (Nat.le_of_ble_eq_true rfl) (fun p e s m below meth c ls X w hno hl => ?_)
  have hx := X.1
  have hb := X.2.1
  have hown := X.2.2.2.1
  have hts := X.2.2.2.2.1
  have hl : lv_has ls 5 [(0, .ref (gG S 10 0)), (1, .int a), (2, .int b)] := hl
  refine lv_aload_n hx hb dX10_jam_0 rfl (lv_at hl 0 rfl) ?_
  refine g_10_0 (S := S) (x := (some (gG S 0 0))) X w h.v10 wF_X10_12 (h.f160) dX10_jam_1 ?_
  refine lv_iload_n hx hb dX10_jam_4 rfl (lv_at hl 1 rfl) ?_
  refine cV (S := S) (nA := 1) (As := [.int a]) (rest := []) X w hl h.v0 (m_X0_jammerAt G S ea ns nj nm nt nr nc h a) wY_X0_jammerAt wM_X10_111 wIn_X0_jammerAt wSe_X0_X0_jammerAt wI_X0 (by decide) rfl (by decide +kernel) rfl rfl dX10_jam_5 ⟨by decide, by decide⟩ (Nat.le_of_ble_eq_true rfl) (⟨Nat.le_of_ble_eq_true rfl, Nat.le_of_ble_eq_true rfl⟩) (fun v2 S1 H locs hp w => ?_)
  obtain ⟨hp, rfl⟩ := hp
  rcases hp with ⟨rfl, hoj1⟩ | ⟨j1, hlj1, hkj1, rfl⟩
  · skip
    refine lv_astore_nN (lv' := [(3, .null), (0, .ref (gG S 10 0)), (1, .int a), (2, .int b)]) hx hb dX10_jam_8 rfl hl (by decide) rfl (fun ls hl => ?_)
    refine lv_aload_nN hx hb dX10_jam_9 rfl (lv_at hl 0 rfl) ?_
    refine lv_ifnonnullN hx hb dX10_jam_10 ?_
    exact rT (S := S) (names := ["java/lang/RuntimeException", "java/lang/Exception"]) X w hl hno (by decide) (by decide) wC_X10_90 wI_java_lang_IndexOutOfBoundsException wS9_X10_115 at_IOB go_IOB ⟨by decide, by decide⟩ dX10_jam_13 dX10_jam_16 dX10_jam_17 dX10_jam_19 dX10_jam_22 (by decide) (by decide) (Nat.le_of_ble_eq_true rfl) (Nat.le_of_ble_eq_true rfl) (Nat.le_of_ble_eq_true rfl) (Nat.le_of_ble_eq_true rfl) (⟨rfl, Or.inl ⟨rfl, by assumption⟩⟩)
  · skip
    refine lv_astore_n (lv' := [(3, .ref (gG S 1 j1)), (0, .ref (gG S 10 0)), (1, .int a), (2, .int b)]) hx hb dX10_jam_8 rfl hl (by decide) rfl (fun ls hl => ?_)
    refine lv_aload_n hx hb dX10_jam_9 rfl (lv_at hl 0 rfl) ?_
    refine lv_ifnonnull (tgt := 23) hx hb dX10_jam_10 (by decide) ?_
    refine lv_iload_n hx hb dX10_jam_23 rfl (lv_at hl 3 rfl) ?_
    refine lv_iconst (v := 0) hx hb dX10_jam_24 (by decide) ?_
    refine lv_bipush (v := 9) hx hb dX10_jam_25 (by decide) ?_
    refine cS (S := S) (nA := 3) (As := [.int b, .int 0, .int 9]) (rest := []) X w hl (m_X10_isOutside G S b 0 9) wY_X10_isOutside wM_X10_48 wSt_X10_isOutside wI_X10 (by decide +kernel) rfl rfl dX10_jam_27 ⟨by decide, by decide⟩ (Nat.le_of_ble_eq_true rfl) (⟨Nat.le_of_ble_eq_true rfl, Nat.le_of_ble_eq_true rfl⟩) (fun v3 S1 H locs hp w => ?_)
    obtain ⟨rfl, rfl⟩ := hp
    refine lv_if_eq (tgt := 43) hx hb dX10_jam_30 (by decide) (fun hc4 => ?_) (fun hc4 => ?_)
    · refine lv_aload_n hx hb dX10_jam_43 rfl (lv_at hl 0 rfl) ?_
      refine g_1_1 (S := S) (x := (mI S 17 j1)) X w (h.e_jm j1 hlj1).2 wF_X10_119 (rfl) dX10_jam_44 ?_
      refine lv_istore (lv' := [(4, .int (mI S 17 j1)), (3, .ref (gG S 1 j1)), (0, .ref (gG S 10 0)), (1, .int a), (2, .int b)]) hx hb dX10_jam_47 hl (by decide) rfl (fun ls hl => ?_)
      refine lv_aload_n hx hb dX10_jam_49 rfl (lv_at hl 1 rfl) ?_
      refine lv_iload_n hx hb dX10_jam_50 rfl (lv_at hl 4 rfl) ?_
      refine p_1_1 (S := S) (x := b) X w (h.e_jm j1 hlj1).2 wF_X10_119 dX10_jam_51 (fun H locs w => ?_)
      refine lv_iload hx hb dX10_jam_54 (lv_at hl 0 rfl) ?_
      exact rXr (rI X w rfl dX10_jam_56 (by decide) (by decide) (⟨_, by assumption, by assumption, by simp_all [b2i], rfl, rfl⟩))
    · exact rT (S := S) (names := ["java/lang/RuntimeException", "java/lang/Exception"]) X w hl hno (by decide) (by decide) wC_X10_52 wI_java_lang_IllegalArgumentException wS9_X10_117 at_IAE go_IAE ⟨by decide, by decide⟩ dX10_jam_33 dX10_jam_36 dX10_jam_37 dX10_jam_39 dX10_jam_42 (by decide) (by decide) (Nat.le_of_ble_eq_true rfl) (Nat.le_of_ble_eq_true rfl) (Nat.le_of_ble_eq_true rfl) (Nat.le_of_ble_eq_true rfl) (⟨rfl, Or.inr ⟨rfl, ⟨_, by assumption, by assumption⟩, by simp_all [b2i]⟩⟩)

theorem dX10_partner_0 : decode cX10_partner 0 = .ok (.iload_n 1, 1) := by decide +kernel
theorem dX10_partner_1 : decode cX10_partner 1 = .ok (.iconst 0, 1) := by decide +kernel
theorem dX10_partner_2 : decode cX10_partner 2 = .ok (.bipush 63, 2) := by decide +kernel
theorem dX10_partner_4 : decode cX10_partner 4 = .ok (.invokestatic 48, 3) := by decide +kernel
theorem dX10_partner_7 : decode cX10_partner 7 = .ok (.ifCond .eq 13, 3) := by decide +kernel
theorem dX10_partner_10 : decode cX10_partner 10 = .ok (.new 52, 3) := by decide +kernel
theorem dX10_partner_13 : decode cX10_partner 13 = .ok (.dup, 1) := by decide +kernel
theorem dX10_partner_14 : decode cX10_partner 14 = .ok (.ldc 233, 2) := by decide +kernel
theorem dX10_partner_16 : decode cX10_partner 16 = .ok (.invokespecial 56, 3) := by decide +kernel
theorem dX10_partner_19 : decode cX10_partner 19 = .ok (.athrow, 1) := by decide +kernel
theorem dX10_partner_20 : decode cX10_partner 20 = .ok (.aload_n 0, 1) := by decide +kernel
theorem dX10_partner_21 : decode cX10_partner 21 = .ok (.getfield 28, 3) := by decide +kernel
theorem dX10_partner_24 : decode cX10_partner 24 = .ok (.getfield 234, 3) := by decide +kernel
theorem dX10_partner_27 : decode cX10_partner 27 = .ok (.istore_n 2, 1) := by decide +kernel
theorem dX10_partner_28 : decode cX10_partner 28 = .ok (.aload_n 0, 1) := by decide +kernel
theorem dX10_partner_29 : decode cX10_partner 29 = .ok (.getfield 28, 3) := by decide +kernel
theorem dX10_partner_32 : decode cX10_partner 32 = .ok (.iload_n 1, 1) := by decide +kernel
theorem dX10_partner_33 : decode cX10_partner 33 = .ok (.putfield 234, 3) := by decide +kernel
theorem dX10_partner_36 : decode cX10_partner 36 = .ok (.iload_n 2, 1) := by decide +kernel
theorem dX10_partner_37 : decode cX10_partner 37 = .ok (.ireturn, 1) := by decide +kernel
abbrev rm_m_X10_partner : Room := { frames := 6, cells := 1, slots := 6, locals := 90 }
set_option maxHeartbeats 4000000 in
set_option maxRecDepth 100000 in
theorem m_X10_partner {s0 : State} {l : Launch} {D : va_G} {cy : Nat → ClassId} (G : Gl s0 l D cy) (S : HS) (ea ns nj nm nt nr nc : Nat) (h : CI ea S ns nj nm nt nr nc) (a : Int32) : CtX s0 l D cy yX10_partner cX10_partner 3 (some .int) rm_m_X10_partner S [.ref (gG S 10 0), .int a] (fun v S' => sOut a 0 63 = false ∧ some (.int (mI S 70 0)) = v ∧ S' = sI S 70 0 a) (fun E S' => S = S' ∧ E = "java/lang/IllegalArgumentException" ∧ sOut a 0 63 = true) := by
  refine proX "CavershamShift" G rfl rfl (Nat.le_of_ble_eq_true rfl) (fun p e s m below meth c ls X w hno hl => ?_)
  have hx := X.1
  have hb := X.2.1
  have hown := X.2.2.2.1
  have hts := X.2.2.2.2.1
  have hl : lv_has ls 3 [(0, .ref (gG S 10 0)), (1, .int a)] := hl
  refine lv_iload_n hx hb dX10_partner_0 rfl (lv_at hl 1 rfl) ?_
  refine lv_iconst (v := 0) hx hb dX10_partner_1 (by decide) ?_
  refine lv_bipush (v := 63) hx hb dX10_partner_2 (by decide) ?_
  refine cS (S := S) (nA := 3) (As := [.int a, .int 0, .int 63]) (rest := []) X w hl (m_X10_isOutside G S a 0 63) wY_X10_isOutside wM_X10_48 wSt_X10_isOutside wI_X10 (by decide +kernel) rfl rfl dX10_partner_4 ⟨by decide, by decide⟩ (Nat.le_of_ble_eq_true rfl) (⟨Nat.le_of_ble_eq_true rfl, Nat.le_of_ble_eq_true rfl⟩) (fun v1 S1 H locs hp w => ?_)
  obtain ⟨rfl, rfl⟩ := hp
  refine lv_if_eq (tgt := 20) hx hb dX10_partner_7 (by decide) (fun hc2 => ?_) (fun hc2 => ?_)
  · refine lv_aload_n hx hb dX10_partner_20 rfl (lv_at hl 0 rfl) ?_
    refine g_10_2 (S := S) (x := (some (gG S 4 0))) X w h.v10 wF_X10_28 (h.f162) dX10_partner_21 ?_
    refine g_4_6 (S := S) (x := (mI S 70 0)) X w h.v4 wF_X10_234 (rfl) dX10_partner_24 ?_
    refine lv_istore_n (lv' := [(2, .int (mI S 70 0)), (0, .ref (gG S 10 0)), (1, .int a)]) hx hb dX10_partner_27 rfl hl (by decide) rfl (fun ls hl => ?_)
    refine lv_aload_n hx hb dX10_partner_28 rfl (lv_at hl 1 rfl) ?_
    refine g_10_2 (S := S) (x := (some (gG S 4 0))) X w h.v10 wF_X10_28 (h.f162) dX10_partner_29 ?_
    refine lv_iload_n hx hb dX10_partner_32 rfl (lv_at hl 2 rfl) ?_
    refine p_4_6 (S := S) (x := a) X w h.v4 wF_X10_234 dX10_partner_33 (fun H locs w => ?_)
    refine lv_iload_n hx hb dX10_partner_36 rfl (lv_at hl 0 rfl) ?_
    exact rXr (rI X w rfl dX10_partner_37 (by decide) (by decide) (⟨by simp_all [b2i], rfl, rfl⟩))
  · exact rT (S := S) (names := ["java/lang/RuntimeException", "java/lang/Exception"]) X w hl hno (by decide) (by decide) wC_X10_52 wI_java_lang_IllegalArgumentException wS9_X10_233 at_IAE go_IAE ⟨by decide, by decide⟩ dX10_partner_10 dX10_partner_13 dX10_partner_14 dX10_partner_16 dX10_partner_19 (by decide) (by decide) (Nat.le_of_ble_eq_true rfl) (Nat.le_of_ble_eq_true rfl) (Nat.le_of_ble_eq_true rfl) (Nat.le_of_ble_eq_true rfl) (⟨rfl, rfl, by simp_all [b2i]⟩)

theorem dX10_call_0 : decode cX10_call 0 = .ok (.aload_n 0, 1) := by decide +kernel
theorem dX10_call_1 : decode cX10_call 1 = .ok (.dup, 1) := by decide +kernel
theorem dX10_call_2 : decode cX10_call 2 = .ok (.getfield 45, 3) := by decide +kernel
theorem dX10_call_5 : decode cX10_call 5 = .ok (.iconst 1, 1) := by decide +kernel
theorem dX10_call_6 : decode cX10_call 6 = .ok (.iadd, 1) := by decide +kernel
theorem dX10_call_7 : decode cX10_call 7 = .ok (.putfield 45, 3) := by decide +kernel
theorem dX10_call_10 : decode cX10_call 10 = .ok (.aload_n 0, 1) := by decide +kernel
theorem dX10_call_11 : decode cX10_call 11 = .ok (.getfield 45, 3) := by decide +kernel
theorem dX10_call_14 : decode cX10_call 14 = .ok (.ireturn, 1) := by decide +kernel
abbrev rm_m_X10_call : Room := { frames := 0, cells := 0, slots := 0, locals := 0 }
set_option maxHeartbeats 4000000 in
set_option maxRecDepth 100000 in
theorem m_X10_call {s0 : State} {l : Launch} {D : va_G} {cy : Nat → ClassId} (G : Gl s0 l D cy) (S : HS) (ea ns nj nm nt nr nc : Nat) (h : CI ea S ns nj nm nt nr nc)  : Ctr s0 l D cy yX10_call cX10_call 1 (some .int) rm_m_X10_call S [.ref (gG S 10 0)] (fun v S' => some (.int (mI S 165 0 + 1)) = v ∧ S' = sI S 165 0 (mI S 165 0 + 1)) := by
  refine pro "CavershamShift" G rfl rfl (Nat.le_of_ble_eq_true rfl) (fun p e s m below meth c ls X w hnm hl => ?_)
  have hx := X.1
  have hb := X.2.1
  have hown := X.2.2.2.1
  have hts := X.2.2.2.2.1
  have hl : lv_has ls 1 [(0, .ref (gG S 10 0))] := hl
  refine lv_aload_n hx hb dX10_call_0 rfl (lv_at hl 0 rfl) ?_
  refine lv_dup hx hb dX10_call_1 rfl ?_
  refine g_10_5 (S := S) (x := (mI S 165 0)) X w h.v10 wF_X10_45 (rfl) dX10_call_2 ?_
  refine lv_iconst (v := 1) hx hb dX10_call_5 (by decide) ?_
  refine lv_iadd hx hb dX10_call_6 ?_
  refine p_10_5 (S := S) (x := ((mI S 165 0) + 1)) X w h.v10 wF_X10_45 dX10_call_7 (fun H locs w => ?_)
  refine lv_aload_n hx hb dX10_call_10 rfl (lv_at hl 0 rfl) ?_
  refine g_10_5 (S := (sI S 165 0 ((mI S 165 0) + 1))) (x := (mI (sI S 165 0 ((mI S 165 0) + 1)) 165 0)) X w h.v10 wF_X10_45 (rfl) dX10_call_11 ?_
  exact rI X w rfl dX10_call_14 (by decide) (by decide) (⟨rfl, rfl⟩)

