abbrev rm_a_X10_ofStation : Room := { frames := 6, cells := 1, slots := 6, locals := 111 }
set_option maxHeartbeats 4000000 in
set_option maxRecDepth 100000 in
theorem a_X10_ofStation {s0 : State} {l : Launch} {D : va_G} {cy : Nat → ClassId} (G : Gl s0 l D cy) (S : HS) (ea ns nj nm nt nr nc : Nat) (h : CI ea S ns nj nm nt nr nc) (A : HS) (hA : RK S A ns nj nm nt nr nc) (g0 : Nat) (hg : mI S 164 0 = nI g0) (hg7 : g0 ≤ 720) (hA7 : mI A 257 0 = nI g0) (a b : Int32) : CtX s0 l D cy yX10_ofStation cX10_ofStation 4 (some .int) rm_a_X10_ofStation S [.ref (gG S 10 0), .int a, .int b] (fun v S' => ∃ j q, j < ns ∧ a = nI j ∧ q < 9 ∧ b = nI q ∧ some (.int (rStaNow A ns nj nt j q)) = v ∧ S = S') (fun E S' => S = S' ∧ ((E = "java/lang/IndexOutOfBoundsException" ∧ sOut a 0 (nI ns - 1) = true) ∨ (E = "java/lang/IllegalArgumentException" ∧ (∃ j, j < ns ∧ a = nI j) ∧ sOut b 0 8 = true))) := by
  refine proX "CavershamShift" G rfl rfl (Nat.le_of_ble_eq_true rfl) (fun p e s m below meth c ls X w hno hl => ?_)
  have hx := X.1
  have hb := X.2.1
  have hown := X.2.2.2.1
  have hts := X.2.2.2.2.1
  have hl : lv_has ls 4 [(0, .ref (gG S 10 0)), (1, .int a), (2, .int b)] := hl
  refine lv_aload_n hx hb dX10_ofStation_0 rfl (lv_at hl 0 rfl) ?_
  refine g_10_0 (S := S) (x := (some (gG S 0 0))) X w h.v10 wF_X10_12 (h.f160) dX10_ofStation_1 ?_
  refine lv_iload_n hx hb dX10_ofStation_4 rfl (lv_at hl 1 rfl) ?_
  refine cV (S := S) (nA := 1) (As := [.int a]) (rest := []) X w hl h.v0 (m_X0_stationAt G S ea ns nj nm nt nr nc h a) wY_X0_stationAt wM_X10_86 wIn_X0_stationAt wSe_X0_X0_stationAt wI_X0 (by decide) rfl (by decide +kernel) rfl rfl dX10_ofStation_5 ⟨by decide, by decide⟩ (Nat.le_of_ble_eq_true rfl) (⟨Nat.le_of_ble_eq_true rfl, Nat.le_of_ble_eq_true rfl⟩) (fun v2 S1 H locs hp w => ?_)
  obtain ⟨hp, rfl⟩ := hp
  rcases hp with ⟨rfl, hoj1⟩ | ⟨j1, hlj1, hkj1, rfl⟩
  · skip
    refine lv_astore_nN (lv' := [(3, .null), (0, .ref (gG S 10 0)), (1, .int a), (2, .int b)]) hx hb dX10_ofStation_8 rfl hl (by decide) rfl (fun ls hl => ?_)
    refine lv_aload_nN hx hb dX10_ofStation_9 rfl (lv_at hl 0 rfl) ?_
    refine lv_ifnonnullN hx hb dX10_ofStation_10 ?_
    exact rT (S := S) (names := ["java/lang/RuntimeException", "java/lang/Exception"]) X w hl hno (by decide) (by decide) wC_X10_90 wI_java_lang_IndexOutOfBoundsException wS9_X10_92 at_IOB go_IOB ⟨by decide, by decide⟩ dX10_ofStation_13 dX10_ofStation_16 dX10_ofStation_17 dX10_ofStation_19 dX10_ofStation_22 (by decide) (by decide) (Nat.le_of_ble_eq_true rfl) (Nat.le_of_ble_eq_true rfl) (Nat.le_of_ble_eq_true rfl) (Nat.le_of_ble_eq_true rfl) (⟨rfl, Or.inl ⟨rfl, by assumption⟩⟩)
  · skip
    refine lv_astore_n (lv' := [(3, .ref (gG S 8 j1)), (0, .ref (gG S 10 0)), (1, .int a), (2, .int b)]) hx hb dX10_ofStation_8 rfl hl (by decide) rfl (fun ls hl => ?_)
    refine lv_aload_n hx hb dX10_ofStation_9 rfl (lv_at hl 0 rfl) ?_
    refine lv_ifnonnull (tgt := 23) hx hb dX10_ofStation_10 (by decide) ?_
    refine lv_iload_n hx hb dX10_ofStation_23 rfl (lv_at hl 3 rfl) ?_
    refine lv_iconst (v := 0) hx hb dX10_ofStation_24 (by decide) ?_
    refine lv_bipush (v := 8) hx hb dX10_ofStation_25 (by decide) ?_
    refine cS (S := S) (nA := 3) (As := [.int b, .int 0, .int 8]) (rest := []) X w hl (m_X10_isOutside G S b 0 8) wY_X10_isOutside wM_X10_48 wSt_X10_isOutside wI_X10 (by decide +kernel) rfl rfl dX10_ofStation_27 ⟨by decide, by decide⟩ (Nat.le_of_ble_eq_true rfl) (⟨Nat.le_of_ble_eq_true rfl, Nat.le_of_ble_eq_true rfl⟩) (fun v3 S1 H locs hp w => ?_)
    obtain ⟨rfl, rfl⟩ := hp
    refine lv_if_eq (tgt := 43) hx hb dX10_ofStation_30 (by decide) (fun hy30 => ?_) (fun hy30 => ?_)
    · obtain ⟨q, hq, eq9⟩ := out_in (n := 9) (by decide) (b2i_f hy30)
      obtain rfl : b = nI q := eq9
      refine lv_aload_n hx hb dX10_ofStation_43 rfl (lv_at hl 1 rfl) ?_
      refine lv_aload_n hx hb dX10_ofStation_44 rfl (lv_at hl 0 rfl) ?_
      refine lv_iload_n hx hb dX10_ofStation_45 rfl (lv_at hl 3 rfl) ?_
      refine cV (S := S) (nA := 2) (As := [.ref (gG S 8 j1), .int (nI q)]) (rest := []) X w hl h.v10 (a_X10_stationFact G S ea ns nj nm nt nr nc h A hA g0 (by assumption) (by assumption) (by assumption) j1 q hlj1 hq) wY_X10_stationFact wM_X10_246 wIn_X10_stationFact wSe_X10_X10_stationFact wI_X10 (by decide) rfl (by decide +kernel) rfl rfl dX10_ofStation_46 ⟨by decide, by decide⟩ (Nat.le_of_ble_eq_true rfl) (⟨Nat.le_of_ble_eq_true rfl, Nat.le_of_ble_eq_true rfl⟩) (fun v4 S1 H locs hp w => ?_)
      obtain ⟨rfl, rfl⟩ := hp
      exact rXr (rI X w rfl dX10_ofStation_49 (by decide) (by decide) (⟨_, q, by assumption, by assumption, hq, rfl, rfl, rfl⟩))
    · exact rT (S := S) (names := ["java/lang/RuntimeException", "java/lang/Exception"]) X w hl hno (by decide) (by decide) wC_X10_52 wI_java_lang_IllegalArgumentException wS9_X10_244 at_IAE go_IAE ⟨by decide, by decide⟩ dX10_ofStation_33 dX10_ofStation_36 dX10_ofStation_37 dX10_ofStation_39 dX10_ofStation_42 (by decide) (by decide) (Nat.le_of_ble_eq_true rfl) (Nat.le_of_ble_eq_true rfl) (Nat.le_of_ble_eq_true rfl) (Nat.le_of_ble_eq_true rfl) (⟨rfl, Or.inr ⟨rfl, ⟨_, by assumption, by assumption⟩, b2i_t hy30⟩⟩)

abbrev rm_a_X10_ofMonitor : Room := { frames := 6, cells := 1, slots := 6, locals := 110 }
set_option maxHeartbeats 4000000 in
set_option maxRecDepth 100000 in
theorem a_X10_ofMonitor {s0 : State} {l : Launch} {D : va_G} {cy : Nat → ClassId} (G : Gl s0 l D cy) (S : HS) (ea ns nj nm nt nr nc : Nat) (h : CI ea S ns nj nm nt nr nc) (A : HS) (hA : RK S A ns nj nm nt nr nc) (g0 : Nat) (hg : mI S 164 0 = nI g0) (hg7 : g0 ≤ 720) (hA7 : mI A 257 0 = nI g0) (a b : Int32) : CtX s0 l D cy yX10_ofMonitor cX10_ofMonitor 4 (some .int) rm_a_X10_ofMonitor S [.ref (gG S 10 0), .int a, .int b] (fun v S' => ∃ j q, j < nm ∧ a = nI j ∧ q < 9 ∧ b = nI q ∧ some (.int (rMonNow A j q)) = v ∧ S = S') (fun E S' => S = S' ∧ ((E = "java/lang/IndexOutOfBoundsException" ∧ sOut a 0 (nI nm - 1) = true) ∨ (E = "java/lang/IllegalArgumentException" ∧ (∃ j, j < nm ∧ a = nI j) ∧ sOut b 0 8 = true))) := by
  refine proX "CavershamShift" G rfl rfl (Nat.le_of_ble_eq_true rfl) (fun p e s m below meth c ls X w hno hl => ?_)
  have hx := X.1
  have hb := X.2.1
  have hown := X.2.2.2.1
  have hts := X.2.2.2.2.1
  have hl : lv_has ls 4 [(0, .ref (gG S 10 0)), (1, .int a), (2, .int b)] := hl
  refine lv_aload_n hx hb dX10_ofMonitor_0 rfl (lv_at hl 0 rfl) ?_
  refine g_10_1 (S := S) (x := (some (gG S 7 0))) X w h.v10 wF_X10_21 (h.f161) dX10_ofMonitor_1 ?_
  refine lv_iload_n hx hb dX10_ofMonitor_4 rfl (lv_at hl 1 rfl) ?_
  refine cV (S := S) (nA := 1) (As := [.int a]) (rest := []) X w hl h.v7 (m_X7_monitorAt G S ea ns nj nm nt nr nc h a) wY_X7_monitorAt wM_X10_134 wIn_X7_monitorAt wSe_X7_X7_monitorAt wI_X7 (by decide) rfl (by decide +kernel) rfl rfl dX10_ofMonitor_5 ⟨by decide, by decide⟩ (Nat.le_of_ble_eq_true rfl) (⟨Nat.le_of_ble_eq_true rfl, Nat.le_of_ble_eq_true rfl⟩) (fun v2 S1 H locs hp w => ?_)
  obtain ⟨hp, rfl⟩ := hp
  rcases hp with ⟨rfl, hoj1⟩ | ⟨j1, hlj1, hkj1, rfl⟩
  · skip
    refine lv_astore_nN (lv' := [(3, .null), (0, .ref (gG S 10 0)), (1, .int a), (2, .int b)]) hx hb dX10_ofMonitor_8 rfl hl (by decide) rfl (fun ls hl => ?_)
    refine lv_aload_nN hx hb dX10_ofMonitor_9 rfl (lv_at hl 0 rfl) ?_
    refine lv_ifnonnullN hx hb dX10_ofMonitor_10 ?_
    exact rT (S := S) (names := ["java/lang/RuntimeException", "java/lang/Exception"]) X w hl hno (by decide) (by decide) wC_X10_90 wI_java_lang_IndexOutOfBoundsException wS9_X10_138 at_IOB go_IOB ⟨by decide, by decide⟩ dX10_ofMonitor_13 dX10_ofMonitor_16 dX10_ofMonitor_17 dX10_ofMonitor_19 dX10_ofMonitor_22 (by decide) (by decide) (Nat.le_of_ble_eq_true rfl) (Nat.le_of_ble_eq_true rfl) (Nat.le_of_ble_eq_true rfl) (Nat.le_of_ble_eq_true rfl) (⟨rfl, Or.inl ⟨rfl, by assumption⟩⟩)
  · skip
    refine lv_astore_n (lv' := [(3, .ref (gG S 3 j1)), (0, .ref (gG S 10 0)), (1, .int a), (2, .int b)]) hx hb dX10_ofMonitor_8 rfl hl (by decide) rfl (fun ls hl => ?_)
    refine lv_aload_n hx hb dX10_ofMonitor_9 rfl (lv_at hl 0 rfl) ?_
    refine lv_ifnonnull (tgt := 23) hx hb dX10_ofMonitor_10 (by decide) ?_
    refine lv_iload_n hx hb dX10_ofMonitor_23 rfl (lv_at hl 3 rfl) ?_
    refine lv_iconst (v := 0) hx hb dX10_ofMonitor_24 (by decide) ?_
    refine lv_bipush (v := 8) hx hb dX10_ofMonitor_25 (by decide) ?_
    refine cS (S := S) (nA := 3) (As := [.int b, .int 0, .int 8]) (rest := []) X w hl (m_X10_isOutside G S b 0 8) wY_X10_isOutside wM_X10_48 wSt_X10_isOutside wI_X10 (by decide +kernel) rfl rfl dX10_ofMonitor_27 ⟨by decide, by decide⟩ (Nat.le_of_ble_eq_true rfl) (⟨Nat.le_of_ble_eq_true rfl, Nat.le_of_ble_eq_true rfl⟩) (fun v3 S1 H locs hp w => ?_)
    obtain ⟨rfl, rfl⟩ := hp
    refine lv_if_eq (tgt := 43) hx hb dX10_ofMonitor_30 (by decide) (fun hy30 => ?_) (fun hy30 => ?_)
    · obtain ⟨q, hq, eq9⟩ := out_in (n := 9) (by decide) (b2i_f hy30)
      obtain rfl : b = nI q := eq9
      refine lv_aload_n hx hb dX10_ofMonitor_43 rfl (lv_at hl 1 rfl) ?_
      refine lv_aload_n hx hb dX10_ofMonitor_44 rfl (lv_at hl 0 rfl) ?_
      refine lv_iload_n hx hb dX10_ofMonitor_45 rfl (lv_at hl 3 rfl) ?_
      refine cV (S := S) (nA := 2) (As := [.ref (gG S 3 j1), .int (nI q)]) (rest := []) X w hl h.v10 (a_X10_monitorFact G S ea ns nj nm nt nr nc h A hA g0 (by assumption) (by assumption) (by assumption) j1 q hlj1 hq) wY_X10_monitorFact wM_X10_255 wIn_X10_monitorFact wSe_X10_X10_monitorFact wI_X10 (by decide) rfl (by decide +kernel) rfl rfl dX10_ofMonitor_46 ⟨by decide, by decide⟩ (Nat.le_of_ble_eq_true rfl) (⟨Nat.le_of_ble_eq_true rfl, Nat.le_of_ble_eq_true rfl⟩) (fun v4 S1 H locs hp w => ?_)
      obtain ⟨rfl, rfl⟩ := hp
      exact rXr (rI X w rfl dX10_ofMonitor_49 (by decide) (by decide) (⟨_, q, by assumption, by assumption, hq, rfl, rfl, rfl⟩))
    · exact rT (S := S) (names := ["java/lang/RuntimeException", "java/lang/Exception"]) X w hl hno (by decide) (by decide) wC_X10_52 wI_java_lang_IllegalArgumentException wS9_X10_244 at_IAE go_IAE ⟨by decide, by decide⟩ dX10_ofMonitor_33 dX10_ofMonitor_36 dX10_ofMonitor_37 dX10_ofMonitor_39 dX10_ofMonitor_42 (by decide) (by decide) (Nat.le_of_ble_eq_true rfl) (Nat.le_of_ble_eq_true rfl) (Nat.le_of_ble_eq_true rfl) (Nat.le_of_ble_eq_true rfl) (⟨rfl, Or.inr ⟨rfl, ⟨_, by assumption, by assumption⟩, b2i_t hy30⟩⟩)

abbrev rm_a_X10_ofTalk : Room := { frames := 6, cells := 1, slots := 6, locals := 90 }
set_option maxHeartbeats 4000000 in
set_option maxRecDepth 100000 in
theorem a_X10_ofTalk {s0 : State} {l : Launch} {D : va_G} {cy : Nat → ClassId} (G : Gl s0 l D cy) (S : HS) (ea ns nj nm nt nr nc : Nat) (h : CI ea S ns nj nm nt nr nc) (A : HS) (hA : RK S A ns nj nm nt nr nc) (g0 : Nat) (hg : mI S 164 0 = nI g0) (hg7 : g0 ≤ 720) (hA7 : mI A 257 0 = nI g0) (a b : Int32) : CtX s0 l D cy yX10_ofTalk cX10_ofTalk 4 (some .int) rm_a_X10_ofTalk S [.ref (gG S 10 0), .int a, .int b] (fun v S' => ∃ j q, j < nt ∧ a = nI j ∧ q < 8 ∧ b = nI q ∧ some (.int (rTalkNow A j q)) = v ∧ S = S') (fun E S' => S = S' ∧ ((E = "java/lang/IndexOutOfBoundsException" ∧ sOut a 0 (nI nt - 1) = true) ∨ (E = "java/lang/IllegalArgumentException" ∧ (∃ j, j < nt ∧ a = nI j) ∧ sOut b 0 7 = true))) := by
  refine proX "CavershamShift" G rfl rfl (Nat.le_of_ble_eq_true rfl) (fun p e s m below meth c ls X w hno hl => ?_)
  have hx := X.1
  have hb := X.2.1
  have hown := X.2.2.2.1
  have hts := X.2.2.2.2.1
  have hl : lv_has ls 4 [(0, .ref (gG S 10 0)), (1, .int a), (2, .int b)] := hl
  refine lv_aload_n hx hb dX10_ofTalk_0 rfl (lv_at hl 0 rfl) ?_
  refine g_10_2 (S := S) (x := (some (gG S 4 0))) X w h.v10 wF_X10_28 (h.f162) dX10_ofTalk_1 ?_
  refine lv_iload_n hx hb dX10_ofTalk_4 rfl (lv_at hl 1 rfl) ?_
  refine cV (S := S) (nA := 1) (As := [.int a]) (rest := []) X w hl h.v4 (m_X4_talkAt G S ea ns nj nm nt nr nc h a) wY_X4_talkAt wM_X10_182 wIn_X4_talkAt wSe_X4_X4_talkAt wI_X4 (by decide) rfl (by decide +kernel) rfl rfl dX10_ofTalk_5 ⟨by decide, by decide⟩ (Nat.le_of_ble_eq_true rfl) (⟨Nat.le_of_ble_eq_true rfl, Nat.le_of_ble_eq_true rfl⟩) (fun v2 S1 H locs hp w => ?_)
  obtain ⟨hp, rfl⟩ := hp
  rcases hp with ⟨rfl, hoj1⟩ | ⟨j1, hlj1, hkj1, rfl⟩
  · skip
    refine lv_astore_nN (lv' := [(3, .null), (0, .ref (gG S 10 0)), (1, .int a), (2, .int b)]) hx hb dX10_ofTalk_8 rfl hl (by decide) rfl (fun ls hl => ?_)
    refine lv_aload_nN hx hb dX10_ofTalk_9 rfl (lv_at hl 0 rfl) ?_
    refine lv_ifnonnullN hx hb dX10_ofTalk_10 ?_
    exact rT (S := S) (names := ["java/lang/RuntimeException", "java/lang/Exception"]) X w hl hno (by decide) (by decide) wC_X10_90 wI_java_lang_IndexOutOfBoundsException wS9_X10_186 at_IOB go_IOB ⟨by decide, by decide⟩ dX10_ofTalk_13 dX10_ofTalk_16 dX10_ofTalk_17 dX10_ofTalk_19 dX10_ofTalk_22 (by decide) (by decide) (Nat.le_of_ble_eq_true rfl) (Nat.le_of_ble_eq_true rfl) (Nat.le_of_ble_eq_true rfl) (Nat.le_of_ble_eq_true rfl) (⟨rfl, Or.inl ⟨rfl, by assumption⟩⟩)
  · skip
    refine lv_astore_n (lv' := [(3, .ref (gG S 9 j1)), (0, .ref (gG S 10 0)), (1, .int a), (2, .int b)]) hx hb dX10_ofTalk_8 rfl hl (by decide) rfl (fun ls hl => ?_)
    refine lv_aload_n hx hb dX10_ofTalk_9 rfl (lv_at hl 0 rfl) ?_
    refine lv_ifnonnull (tgt := 23) hx hb dX10_ofTalk_10 (by decide) ?_
    refine lv_iload_n hx hb dX10_ofTalk_23 rfl (lv_at hl 3 rfl) ?_
    refine lv_iconst (v := 0) hx hb dX10_ofTalk_24 (by decide) ?_
    refine lv_bipush (v := 7) hx hb dX10_ofTalk_25 (by decide) ?_
    refine cS (S := S) (nA := 3) (As := [.int b, .int 0, .int 7]) (rest := []) X w hl (m_X10_isOutside G S b 0 7) wY_X10_isOutside wM_X10_48 wSt_X10_isOutside wI_X10 (by decide +kernel) rfl rfl dX10_ofTalk_27 ⟨by decide, by decide⟩ (Nat.le_of_ble_eq_true rfl) (⟨Nat.le_of_ble_eq_true rfl, Nat.le_of_ble_eq_true rfl⟩) (fun v3 S1 H locs hp w => ?_)
    obtain ⟨rfl, rfl⟩ := hp
    refine lv_if_eq (tgt := 43) hx hb dX10_ofTalk_30 (by decide) (fun hy30 => ?_) (fun hy30 => ?_)
    · obtain ⟨q, hq, eq9⟩ := out_in (n := 8) (by decide) (b2i_f hy30)
      obtain rfl : b = nI q := eq9
      refine lv_aload_n hx hb dX10_ofTalk_43 rfl (lv_at hl 1 rfl) ?_
      refine lv_aload_n hx hb dX10_ofTalk_44 rfl (lv_at hl 0 rfl) ?_
      refine lv_iload_n hx hb dX10_ofTalk_45 rfl (lv_at hl 3 rfl) ?_
      refine cV (S := S) (nA := 2) (As := [.ref (gG S 9 j1), .int (nI q)]) (rest := []) X w hl h.v10 (a_X10_talkFact G S ea ns nj nm nt nr nc h A hA g0 (by assumption) (by assumption) (by assumption) j1 q hlj1 hq) wY_X10_talkFact wM_X10_268 wIn_X10_talkFact wSe_X10_X10_talkFact wI_X10 (by decide) rfl (by decide +kernel) rfl rfl dX10_ofTalk_46 ⟨by decide, by decide⟩ (Nat.le_of_ble_eq_true rfl) (⟨Nat.le_of_ble_eq_true rfl, Nat.le_of_ble_eq_true rfl⟩) (fun v4 S1 H locs hp w => ?_)
      obtain ⟨rfl, rfl⟩ := hp
      exact rXr (rI X w rfl dX10_ofTalk_49 (by decide) (by decide) (⟨_, q, by assumption, by assumption, hq, rfl, rfl, rfl⟩))
    · exact rT (S := S) (names := ["java/lang/RuntimeException", "java/lang/Exception"]) X w hl hno (by decide) (by decide) wC_X10_52 wI_java_lang_IllegalArgumentException wS9_X10_244 at_IAE go_IAE ⟨by decide, by decide⟩ dX10_ofTalk_33 dX10_ofTalk_36 dX10_ofTalk_37 dX10_ofTalk_39 dX10_ofTalk_42 (by decide) (by decide) (Nat.le_of_ble_eq_true rfl) (Nat.le_of_ble_eq_true rfl) (Nat.le_of_ble_eq_true rfl) (Nat.le_of_ble_eq_true rfl) (⟨rfl, Or.inr ⟨rfl, ⟨_, by assumption, by assumption⟩, b2i_t hy30⟩⟩)

abbrev rm_a_X10_ofReport : Room := { frames := 6, cells := 1, slots := 6, locals := 90 }
set_option maxHeartbeats 4000000 in
set_option maxRecDepth 100000 in
theorem a_X10_ofReport {s0 : State} {l : Launch} {D : va_G} {cy : Nat → ClassId} (G : Gl s0 l D cy) (S : HS) (ea ns nj nm nt nr nc : Nat) (h : CI ea S ns nj nm nt nr nc) (A : HS) (hA : RK S A ns nj nm nt nr nc) (g0 : Nat) (hg : mI S 164 0 = nI g0) (hg7 : g0 ≤ 720) (hA7 : mI A 257 0 = nI g0) (a b : Int32) : CtX s0 l D cy yX10_ofReport cX10_ofReport 4 (some .int) rm_a_X10_ofReport S [.ref (gG S 10 0), .int a, .int b] (fun v S' => ∃ j q, j < nt ∧ a = nI j ∧ q < 12 ∧ b = nI q ∧ some (.int (if mI A 247 j = -1 then -2 else rRepNow A j q)) = v ∧ S = S') (fun E S' => S = S' ∧ ((E = "java/lang/IndexOutOfBoundsException" ∧ sOut a 0 (nI nt - 1) = true) ∨ (E = "java/lang/IllegalArgumentException" ∧ (∃ j, j < nt ∧ a = nI j) ∧ sOut b 0 11 = true))) := by
  refine proX "CavershamShift" G rfl rfl (Nat.le_of_ble_eq_true rfl) (fun p e s m below meth c ls X w hno hl => ?_)
  have hx := X.1
  have hb := X.2.1
  have hown := X.2.2.2.1
  have hts := X.2.2.2.2.1
  have hl : lv_has ls 4 [(0, .ref (gG S 10 0)), (1, .int a), (2, .int b)] := hl
  refine lv_aload_n hx hb dX10_ofReport_0 rfl (lv_at hl 0 rfl) ?_
  refine g_10_2 (S := S) (x := (some (gG S 4 0))) X w h.v10 wF_X10_28 (h.f162) dX10_ofReport_1 ?_
  refine lv_iload_n hx hb dX10_ofReport_4 rfl (lv_at hl 1 rfl) ?_
  refine cV (S := S) (nA := 1) (As := [.int a]) (rest := []) X w hl h.v4 (m_X4_talkAt G S ea ns nj nm nt nr nc h a) wY_X4_talkAt wM_X10_182 wIn_X4_talkAt wSe_X4_X4_talkAt wI_X4 (by decide) rfl (by decide +kernel) rfl rfl dX10_ofReport_5 ⟨by decide, by decide⟩ (Nat.le_of_ble_eq_true rfl) (⟨Nat.le_of_ble_eq_true rfl, Nat.le_of_ble_eq_true rfl⟩) (fun v2 S1 H locs hp w => ?_)
  obtain ⟨hp, rfl⟩ := hp
  rcases hp with ⟨rfl, hoj1⟩ | ⟨j1, hlj1, hkj1, rfl⟩
  · skip
    refine lv_astore_nN (lv' := [(3, .null), (0, .ref (gG S 10 0)), (1, .int a), (2, .int b)]) hx hb dX10_ofReport_8 rfl hl (by decide) rfl (fun ls hl => ?_)
    refine lv_aload_nN hx hb dX10_ofReport_9 rfl (lv_at hl 0 rfl) ?_
    refine lv_ifnonnullN hx hb dX10_ofReport_10 ?_
    exact rT (S := S) (names := ["java/lang/RuntimeException", "java/lang/Exception"]) X w hl hno (by decide) (by decide) wC_X10_90 wI_java_lang_IndexOutOfBoundsException wS9_X10_186 at_IOB go_IOB ⟨by decide, by decide⟩ dX10_ofReport_13 dX10_ofReport_16 dX10_ofReport_17 dX10_ofReport_19 dX10_ofReport_22 (by decide) (by decide) (Nat.le_of_ble_eq_true rfl) (Nat.le_of_ble_eq_true rfl) (Nat.le_of_ble_eq_true rfl) (Nat.le_of_ble_eq_true rfl) (⟨rfl, Or.inl ⟨rfl, by assumption⟩⟩)
  · skip
    refine lv_astore_n (lv' := [(3, .ref (gG S 9 j1)), (0, .ref (gG S 10 0)), (1, .int a), (2, .int b)]) hx hb dX10_ofReport_8 rfl hl (by decide) rfl (fun ls hl => ?_)
    refine lv_aload_n hx hb dX10_ofReport_9 rfl (lv_at hl 0 rfl) ?_
    refine lv_ifnonnull (tgt := 23) hx hb dX10_ofReport_10 (by decide) ?_
    refine lv_iload_n hx hb dX10_ofReport_23 rfl (lv_at hl 3 rfl) ?_
    refine lv_iconst (v := 0) hx hb dX10_ofReport_24 (by decide) ?_
    refine lv_bipush (v := 11) hx hb dX10_ofReport_25 (by decide) ?_
    refine cS (S := S) (nA := 3) (As := [.int b, .int 0, .int 11]) (rest := []) X w hl (m_X10_isOutside G S b 0 11) wY_X10_isOutside wM_X10_48 wSt_X10_isOutside wI_X10 (by decide +kernel) rfl rfl dX10_ofReport_27 ⟨by decide, by decide⟩ (Nat.le_of_ble_eq_true rfl) (⟨Nat.le_of_ble_eq_true rfl, Nat.le_of_ble_eq_true rfl⟩) (fun v3 S1 H locs hp w => ?_)
    obtain ⟨rfl, rfl⟩ := hp
    refine lv_if_eq (tgt := 43) hx hb dX10_ofReport_30 (by decide) (fun hy30 => ?_) (fun hy30 => ?_)
    · obtain ⟨q, hq, eq9⟩ := out_in (n := 12) (by decide) (b2i_f hy30)
      obtain rfl : b = nI q := eq9
      refine lv_aload_n hx hb dX10_ofReport_43 rfl (lv_at hl 1 rfl) ?_
      refine lv_aload_n hx hb dX10_ofReport_44 rfl (lv_at hl 0 rfl) ?_
      refine lv_iload_n hx hb dX10_ofReport_45 rfl (lv_at hl 3 rfl) ?_
      refine cV (S := S) (nA := 2) (As := [.ref (gG S 9 j1), .int (nI q)]) (rest := []) X w hl h.v10 (a_X10_reportFact G S ea ns nj nm nt nr nc h A hA j1 hlj1 q hq) wY_X10_reportFact wM_X10_272 wIn_X10_reportFact wSe_X10_X10_reportFact wI_X10 (by decide) rfl (by decide +kernel) rfl rfl dX10_ofReport_46 ⟨by decide, by decide⟩ (Nat.le_of_ble_eq_true rfl) (⟨Nat.le_of_ble_eq_true rfl, Nat.le_of_ble_eq_true rfl⟩) (fun v4 S1 H locs hp w => ?_)
      obtain ⟨rfl, rfl⟩ := hp
      exact rXr (rI X w rfl dX10_ofReport_49 (by decide) (by decide) (⟨_, q, by assumption, by assumption, hq, rfl, rfl, rfl⟩))
    · exact rT (S := S) (names := ["java/lang/RuntimeException", "java/lang/Exception"]) X w hl hno (by decide) (by decide) wC_X10_52 wI_java_lang_IllegalArgumentException wS9_X10_244 at_IAE go_IAE ⟨by decide, by decide⟩ dX10_ofReport_33 dX10_ofReport_36 dX10_ofReport_37 dX10_ofReport_39 dX10_ofReport_42 (by decide) (by decide) (Nat.le_of_ble_eq_true rfl) (Nat.le_of_ble_eq_true rfl) (Nat.le_of_ble_eq_true rfl) (Nat.le_of_ble_eq_true rfl) (⟨rfl, Or.inr ⟨rfl, ⟨_, by assumption, by assumption⟩, b2i_t hy30⟩⟩)

abbrev rm_a_X10_ofReader : Room := { frames := 6, cells := 1, slots := 6, locals := 110 }
set_option maxHeartbeats 4000000 in
set_option maxRecDepth 100000 in
theorem a_X10_ofReader {s0 : State} {l : Launch} {D : va_G} {cy : Nat → ClassId} (G : Gl s0 l D cy) (S : HS) (ea ns nj nm nt nr nc : Nat) (h : CI ea S ns nj nm nt nr nc) (A : HS) (hA : RK S A ns nj nm nt nr nc) (g0 : Nat) (hg : mI S 164 0 = nI g0) (hg7 : g0 ≤ 720) (hA7 : mI A 257 0 = nI g0) (a b : Int32) : CtX s0 l D cy yX10_ofReader cX10_ofReader 4 (some .int) rm_a_X10_ofReader S [.ref (gG S 10 0), .int a, .int b] (fun v S' => ∃ j q, j < nr ∧ a = nI j ∧ q < 5 ∧ b = nI q ∧ some (.int (rReaNow A nt j q)) = v ∧ S = S') (fun E S' => S = S' ∧ ((E = "java/lang/IndexOutOfBoundsException" ∧ sOut a 0 (nI nr - 1) = true) ∨ (E = "java/lang/IllegalArgumentException" ∧ (∃ j, j < nr ∧ a = nI j) ∧ sOut b 0 4 = true))) := by
  refine proX "CavershamShift" G rfl rfl (Nat.le_of_ble_eq_true rfl) (fun p e s m below meth c ls X w hno hl => ?_)
  have hx := X.1
  have hb := X.2.1
  have hown := X.2.2.2.1
  have hts := X.2.2.2.2.1
  have hl : lv_has ls 4 [(0, .ref (gG S 10 0)), (1, .int a), (2, .int b)] := hl
  refine lv_aload_n hx hb dX10_ofReader_0 rfl (lv_at hl 0 rfl) ?_
  refine g_10_2 (S := S) (x := (some (gG S 4 0))) X w h.v10 wF_X10_28 (h.f162) dX10_ofReader_1 ?_
  refine lv_iload_n hx hb dX10_ofReader_4 rfl (lv_at hl 1 rfl) ?_
  refine cV (S := S) (nA := 1) (As := [.int a]) (rest := []) X w hl h.v4 (m_X4_readerAt G S ea ns nj nm nt nr nc h a) wY_X4_readerAt wM_X10_217 wIn_X4_readerAt wSe_X4_X4_readerAt wI_X4 (by decide) rfl (by decide +kernel) rfl rfl dX10_ofReader_5 ⟨by decide, by decide⟩ (Nat.le_of_ble_eq_true rfl) (⟨Nat.le_of_ble_eq_true rfl, Nat.le_of_ble_eq_true rfl⟩) (fun v2 S1 H locs hp w => ?_)
  obtain ⟨hp, rfl⟩ := hp
  rcases hp with ⟨rfl, hoj1⟩ | ⟨j1, hlj1, hkj1, rfl⟩
  · skip
    refine lv_astore_nN (lv' := [(3, .null), (0, .ref (gG S 10 0)), (1, .int a), (2, .int b)]) hx hb dX10_ofReader_8 rfl hl (by decide) rfl (fun ls hl => ?_)
    refine lv_aload_nN hx hb dX10_ofReader_9 rfl (lv_at hl 0 rfl) ?_
    refine lv_ifnonnullN hx hb dX10_ofReader_10 ?_
    exact rT (S := S) (names := ["java/lang/RuntimeException", "java/lang/Exception"]) X w hl hno (by decide) (by decide) wC_X10_90 wI_java_lang_IndexOutOfBoundsException wS9_X10_221 at_IOB go_IOB ⟨by decide, by decide⟩ dX10_ofReader_13 dX10_ofReader_16 dX10_ofReader_17 dX10_ofReader_19 dX10_ofReader_22 (by decide) (by decide) (Nat.le_of_ble_eq_true rfl) (Nat.le_of_ble_eq_true rfl) (Nat.le_of_ble_eq_true rfl) (Nat.le_of_ble_eq_true rfl) (⟨rfl, Or.inl ⟨rfl, by assumption⟩⟩)
  · skip
    refine lv_astore_n (lv' := [(3, .ref (gG S 5 j1)), (0, .ref (gG S 10 0)), (1, .int a), (2, .int b)]) hx hb dX10_ofReader_8 rfl hl (by decide) rfl (fun ls hl => ?_)
    refine lv_aload_n hx hb dX10_ofReader_9 rfl (lv_at hl 0 rfl) ?_
    refine lv_ifnonnull (tgt := 23) hx hb dX10_ofReader_10 (by decide) ?_
    refine lv_iload_n hx hb dX10_ofReader_23 rfl (lv_at hl 3 rfl) ?_
    refine lv_iconst (v := 0) hx hb dX10_ofReader_24 (by decide) ?_
    refine lv_iconst (v := 4) hx hb dX10_ofReader_25 (by decide) ?_
    refine cS (S := S) (nA := 3) (As := [.int b, .int 0, .int 4]) (rest := []) X w hl (m_X10_isOutside G S b 0 4) wY_X10_isOutside wM_X10_48 wSt_X10_isOutside wI_X10 (by decide +kernel) rfl rfl dX10_ofReader_26 ⟨by decide, by decide⟩ (Nat.le_of_ble_eq_true rfl) (⟨Nat.le_of_ble_eq_true rfl, Nat.le_of_ble_eq_true rfl⟩) (fun v3 S1 H locs hp w => ?_)
    obtain ⟨rfl, rfl⟩ := hp
    refine lv_if_eq (tgt := 42) hx hb dX10_ofReader_29 (by decide) (fun hy30 => ?_) (fun hy30 => ?_)
    · obtain ⟨q, hq, eq9⟩ := out_in (n := 5) (by decide) (b2i_f hy30)
      obtain rfl : b = nI q := eq9
      refine lv_aload_n hx hb dX10_ofReader_42 rfl (lv_at hl 1 rfl) ?_
      refine lv_aload_n hx hb dX10_ofReader_43 rfl (lv_at hl 0 rfl) ?_
      refine lv_iload_n hx hb dX10_ofReader_44 rfl (lv_at hl 3 rfl) ?_
      refine cV (S := S) (nA := 2) (As := [.ref (gG S 5 j1), .int (nI q)]) (rest := []) X w hl h.v10 (a_X10_readerFact G S ea ns nj nm nt nr nc h A hA j1 q hlj1 hq) wY_X10_readerFact wM_X10_280 wIn_X10_readerFact wSe_X10_X10_readerFact wI_X10 (by decide) rfl (by decide +kernel) rfl rfl dX10_ofReader_45 ⟨by decide, by decide⟩ (Nat.le_of_ble_eq_true rfl) (⟨Nat.le_of_ble_eq_true rfl, Nat.le_of_ble_eq_true rfl⟩) (fun v4 S1 H locs hp w => ?_)
      obtain ⟨rfl, rfl⟩ := hp
      exact rXr (rI X w rfl dX10_ofReader_48 (by decide) (by decide) (⟨_, q, by assumption, by assumption, hq, rfl, rfl, rfl⟩))
    · exact rT (S := S) (names := ["java/lang/RuntimeException", "java/lang/Exception"]) X w hl hno (by decide) (by decide) wC_X10_52 wI_java_lang_IllegalArgumentException wS9_X10_244 at_IAE go_IAE ⟨by decide, by decide⟩ dX10_ofReader_32 dX10_ofReader_35 dX10_ofReader_36 dX10_ofReader_38 dX10_ofReader_41 (by decide) (by decide) (Nat.le_of_ble_eq_true rfl) (Nat.le_of_ble_eq_true rfl) (Nat.le_of_ble_eq_true rfl) (Nat.le_of_ble_eq_true rfl) (⟨rfl, Or.inr ⟨rfl, ⟨_, by assumption, by assumption⟩, b2i_t hy30⟩⟩)

abbrev rm_a_X10_got : Room := { frames := 6, cells := 1, slots := 6, locals := 90 }
set_option maxHeartbeats 4000000 in
set_option maxRecDepth 100000 in
theorem a_X10_got {s0 : State} {l : Launch} {D : va_G} {cy : Nat → ClassId} (G : Gl s0 l D cy) (S : HS) (ea ns nj nm nt nr nc : Nat) (h : CI ea S ns nj nm nt nr nc) (A : HS) (hA : RK S A ns nj nm nt nr nc) (a b : Int32) : CtX s0 l D cy yX10_got cX10_got 5 (some .int) rm_a_X10_got S [.ref (gG S 10 0), .int a, .int b] (fun v S' => ∃ r j, r < nr ∧ a = nI r ∧ j < nt ∧ b = nI j ∧ some (.int (mA A 35 r j)) = v ∧ S = S') (fun E S' => S = S' ∧ E = "java/lang/IndexOutOfBoundsException" ∧ (sOut a 0 (nI nr - 1) || sOut b 0 (nI nt - 1)) = true) := by
  refine proX "CavershamShift" G rfl rfl (Nat.le_of_ble_eq_true rfl) (fun p e s m below meth c ls X w hno hl => ?_)
  have hx := X.1
  have hb := X.2.1
  have hown := X.2.2.2.1
  have hts := X.2.2.2.2.1
  have hl : lv_has ls 5 [(0, .ref (gG S 10 0)), (1, .int a), (2, .int b)] := hl
  refine lv_aload_n hx hb dX10_got_0 rfl (lv_at hl 0 rfl) ?_
  refine g_10_2 (S := S) (x := (some (gG S 4 0))) X w h.v10 wF_X10_28 (h.f162) dX10_got_1 ?_
  refine lv_iload_n hx hb dX10_got_4 rfl (lv_at hl 1 rfl) ?_
  refine cV (S := S) (nA := 1) (As := [.int a]) (rest := []) X w hl h.v4 (m_X4_readerAt G S ea ns nj nm nt nr nc h a) wY_X4_readerAt wM_X10_217 wIn_X4_readerAt wSe_X4_X4_readerAt wI_X4 (by decide) rfl (by decide +kernel) rfl rfl dX10_got_5 ⟨by decide, by decide⟩ (Nat.le_of_ble_eq_true rfl) (⟨Nat.le_of_ble_eq_true rfl, Nat.le_of_ble_eq_true rfl⟩) (fun v2 S1 H locs hp w => ?_)
  obtain ⟨hp, rfl⟩ := hp
  rcases hp with ⟨rfl, hoj1⟩ | ⟨j1, hlj1, hkj1, rfl⟩
  · skip
    refine lv_astore_nN (lv' := [(3, .null), (0, .ref (gG S 10 0)), (1, .int a), (2, .int b)]) hx hb dX10_got_8 rfl hl (by decide) rfl (fun ls hl => ?_)
    refine lv_aload_n hx hb dX10_got_9 rfl (lv_at hl 1 rfl) ?_
    refine g_10_2 (S := S) (x := (some (gG S 4 0))) X w h.v10 wF_X10_28 (h.f162) dX10_got_10 ?_
    refine lv_iload_n hx hb dX10_got_13 rfl (lv_at hl 3 rfl) ?_
    refine cV (S := S) (nA := 1) (As := [.int b]) (rest := []) X w hl h.v4 (m_X4_talkAt G S ea ns nj nm nt nr nc h b) wY_X4_talkAt wM_X10_182 wIn_X4_talkAt wSe_X4_X4_talkAt wI_X4 (by decide) rfl (by decide +kernel) rfl rfl dX10_got_14 ⟨by decide, by decide⟩ (Nat.le_of_ble_eq_true rfl) (⟨Nat.le_of_ble_eq_true rfl, Nat.le_of_ble_eq_true rfl⟩) (fun v4 S1 H locs hp w => ?_)
    obtain ⟨hp, rfl⟩ := hp
    rcases hp with ⟨rfl, hoj3⟩ | ⟨j3, hlj3, hkj3, rfl⟩
    · skip
      refine lv_astoreN (lv' := [(4, .null), (3, .null), (0, .ref (gG S 10 0)), (1, .int a), (2, .int b)]) hx hb dX10_got_17 hl (by decide) rfl (fun ls hl => ?_)
      refine lv_aload_nN hx hb dX10_got_19 rfl (lv_at hl 1 rfl) ?_
      refine lv_ifnullN (tgt := 28) hx hb dX10_got_20 (by decide) ?_
      exact rTW (S := S) (names := ["java/lang/RuntimeException", "java/lang/Exception"]) X w hl hno (by decide) (by decide) wC_X10_90 wI_java_lang_IndexOutOfBoundsException wS9_X10_275 at_IOB go_IOB ⟨by decide, by decide⟩ dX10_got_28 dX10_got_31 dX10_got_32 dX10_got_35 dX10_got_38 (by decide) (by decide) (Nat.le_of_ble_eq_true rfl) (Nat.le_of_ble_eq_true rfl) (Nat.le_of_ble_eq_true rfl) (Nat.le_of_ble_eq_true rfl) (⟨rfl, rfl, by first | (rw [(by assumption : sOut a 0 (nI nr - 1) = true)]; rfl) | (rw [(by assumption : sOut b 0 (nI nt - 1) = true), Bool.or_true])⟩)
    · skip
      refine lv_astore (lv' := [(4, .ref (gG S 9 j3)), (3, .null), (0, .ref (gG S 10 0)), (1, .int a), (2, .int b)]) hx hb dX10_got_17 hl (by decide) rfl (fun ls hl => ?_)
      refine lv_aload_nN hx hb dX10_got_19 rfl (lv_at hl 1 rfl) ?_
      refine lv_ifnullN (tgt := 28) hx hb dX10_got_20 (by decide) ?_
      exact rTW (S := S) (names := ["java/lang/RuntimeException", "java/lang/Exception"]) X w hl hno (by decide) (by decide) wC_X10_90 wI_java_lang_IndexOutOfBoundsException wS9_X10_275 at_IOB go_IOB ⟨by decide, by decide⟩ dX10_got_28 dX10_got_31 dX10_got_32 dX10_got_35 dX10_got_38 (by decide) (by decide) (Nat.le_of_ble_eq_true rfl) (Nat.le_of_ble_eq_true rfl) (Nat.le_of_ble_eq_true rfl) (Nat.le_of_ble_eq_true rfl) (⟨rfl, rfl, by first | (rw [(by assumption : sOut a 0 (nI nr - 1) = true)]; rfl) | (rw [(by assumption : sOut b 0 (nI nt - 1) = true), Bool.or_true])⟩)
  · skip
    refine lv_astore_n (lv' := [(3, .ref (gG S 5 j1)), (0, .ref (gG S 10 0)), (1, .int a), (2, .int b)]) hx hb dX10_got_8 rfl hl (by decide) rfl (fun ls hl => ?_)
    refine lv_aload_n hx hb dX10_got_9 rfl (lv_at hl 1 rfl) ?_
    refine g_10_2 (S := S) (x := (some (gG S 4 0))) X w h.v10 wF_X10_28 (h.f162) dX10_got_10 ?_
    refine lv_iload_n hx hb dX10_got_13 rfl (lv_at hl 3 rfl) ?_
    refine cV (S := S) (nA := 1) (As := [.int b]) (rest := []) X w hl h.v4 (m_X4_talkAt G S ea ns nj nm nt nr nc h b) wY_X4_talkAt wM_X10_182 wIn_X4_talkAt wSe_X4_X4_talkAt wI_X4 (by decide) rfl (by decide +kernel) rfl rfl dX10_got_14 ⟨by decide, by decide⟩ (Nat.le_of_ble_eq_true rfl) (⟨Nat.le_of_ble_eq_true rfl, Nat.le_of_ble_eq_true rfl⟩) (fun v6 S1 H locs hp w => ?_)
    obtain ⟨hp, rfl⟩ := hp
    rcases hp with ⟨rfl, hoj5⟩ | ⟨j5, hlj5, hkj5, rfl⟩
    · skip
      refine lv_astoreN (lv' := [(4, .null), (3, .ref (gG S 5 j1)), (0, .ref (gG S 10 0)), (1, .int a), (2, .int b)]) hx hb dX10_got_17 hl (by decide) rfl (fun ls hl => ?_)
      refine lv_aload_n hx hb dX10_got_19 rfl (lv_at hl 1 rfl) ?_
      refine lv_ifnull hx hb dX10_got_20 ?_
      refine lv_aloadN hx hb dX10_got_23 (lv_at hl 0 rfl) ?_
      refine lv_ifnonnullN hx hb dX10_got_25 ?_
      exact rTW (S := S) (names := ["java/lang/RuntimeException", "java/lang/Exception"]) X w hl hno (by decide) (by decide) wC_X10_90 wI_java_lang_IndexOutOfBoundsException wS9_X10_275 at_IOB go_IOB ⟨by decide, by decide⟩ dX10_got_28 dX10_got_31 dX10_got_32 dX10_got_35 dX10_got_38 (by decide) (by decide) (Nat.le_of_ble_eq_true rfl) (Nat.le_of_ble_eq_true rfl) (Nat.le_of_ble_eq_true rfl) (Nat.le_of_ble_eq_true rfl) (⟨rfl, rfl, by first | (rw [(by assumption : sOut a 0 (nI nr - 1) = true)]; rfl) | (rw [(by assumption : sOut b 0 (nI nt - 1) = true), Bool.or_true])⟩)
    · skip
      refine lv_astore (lv' := [(4, .ref (gG S 9 j5)), (3, .ref (gG S 5 j1)), (0, .ref (gG S 10 0)), (1, .int a), (2, .int b)]) hx hb dX10_got_17 hl (by decide) rfl (fun ls hl => ?_)
      refine lv_aload_n hx hb dX10_got_19 rfl (lv_at hl 1 rfl) ?_
      refine lv_ifnull hx hb dX10_got_20 ?_
      refine lv_aload hx hb dX10_got_23 (lv_at hl 0 rfl) ?_
      refine lv_ifnonnull (tgt := 39) hx hb dX10_got_25 (by decide) ?_
      refine lv_aload hx hb dX10_got_39 (lv_at hl 0 rfl) ?_
      refine lv_aload_n hx hb dX10_got_41 rfl (lv_at hl 1 rfl) ?_
      refine cV (S := S) (nA := 1) (As := [.ref (gG S 5 j1)]) (rest := []) X w hl (h.e_ta j5 hlj5).2 (a_X9_reached G S ea ns nj nm nt nr nc h A hA j5 hlj5 j1 hlj1) wY_X9_reached wM_X10_277 wIn_X9_reached wSe_X9_X9_reached wI_X9 (by decide) rfl (by decide +kernel) rfl rfl dX10_got_42 ⟨by decide, by decide⟩ (Nat.le_of_ble_eq_true rfl) (⟨Nat.le_of_ble_eq_true rfl, Nat.le_of_ble_eq_true rfl⟩) (fun v7 S1 H locs hp w => ?_)
      obtain ⟨rfl, rfl⟩ := hp
      exact rXr (rI X w rfl dX10_got_45 (by decide) (by decide) (⟨_, _, by assumption, by assumption, by assumption, by assumption, rfl, rfl⟩))

abbrev rm_a_X10_quality : Room := { frames := 6, cells := 1, slots := 6, locals := 114 }
set_option maxHeartbeats 4000000 in
set_option maxRecDepth 100000 in
theorem a_X10_quality {s0 : State} {l : Launch} {D : va_G} {cy : Nat → ClassId} (G : Gl s0 l D cy) (S : HS) (ea ns nj nm nt nr nc : Nat) (h : CI ea S ns nj nm nt nr nc) (A : HS) (hA : RK S A ns nj nm nt nr nc) (a b d : Int32) : CtX s0 l D cy yX10_quality cX10_quality 6 (some .int) rm_a_X10_quality S [.ref (gG S 10 0), .int a, .int b, .int d] (fun v S' => ∃ m i, m < nm ∧ a = nI m ∧ i < ns ∧ b = nI i ∧ sOut d 0 23 = false ∧ some (.int (rQual A ns nj m i d)) = v ∧ S = S') (fun E S' => S = S' ∧ E = "java/lang/IndexOutOfBoundsException" ∧ (sOut a 0 (nI nm - 1) || (sOut b 0 (nI ns - 1) || sOut d 0 23)) = true) := by
  refine proX "CavershamShift" G rfl rfl (Nat.le_of_ble_eq_true rfl) (fun p e s m below meth c ls X w hno hl => ?_)
  have hx := X.1
  have hb := X.2.1
  have hown := X.2.2.2.1
  have hts := X.2.2.2.2.1
  have hl : lv_has ls 6 [(0, .ref (gG S 10 0)), (1, .int a), (2, .int b), (3, .int d)] := hl
  refine lv_aload_n hx hb dX10_quality_0 rfl (lv_at hl 0 rfl) ?_
  refine g_10_1 (S := S) (x := (some (gG S 7 0))) X w h.v10 wF_X10_21 (h.f161) dX10_quality_1 ?_
  refine lv_iload_n hx hb dX10_quality_4 rfl (lv_at hl 1 rfl) ?_
  refine cV (S := S) (nA := 1) (As := [.int a]) (rest := []) X w hl h.v7 (m_X7_monitorAt G S ea ns nj nm nt nr nc h a) wY_X7_monitorAt wM_X10_134 wIn_X7_monitorAt wSe_X7_X7_monitorAt wI_X7 (by decide) rfl (by decide +kernel) rfl rfl dX10_quality_5 ⟨by decide, by decide⟩ (Nat.le_of_ble_eq_true rfl) (⟨Nat.le_of_ble_eq_true rfl, Nat.le_of_ble_eq_true rfl⟩) (fun v2 S1 H locs hp w => ?_)
  obtain ⟨hp, rfl⟩ := hp
  rcases hp with ⟨rfl, hoj1⟩ | ⟨j1, hlj1, hkj1, rfl⟩
  · skip
    refine lv_astoreN (lv' := [(4, .null), (0, .ref (gG S 10 0)), (1, .int a), (2, .int b), (3, .int d)]) hx hb dX10_quality_8 hl (by decide) rfl (fun ls hl => ?_)
    refine lv_aload_n hx hb dX10_quality_10 rfl (lv_at hl 1 rfl) ?_
    refine g_10_0 (S := S) (x := (some (gG S 0 0))) X w h.v10 wF_X10_12 (h.f160) dX10_quality_11 ?_
    refine lv_iload_n hx hb dX10_quality_14 rfl (lv_at hl 3 rfl) ?_
    refine cV (S := S) (nA := 1) (As := [.int b]) (rest := []) X w hl h.v0 (m_X0_stationAt G S ea ns nj nm nt nr nc h b) wY_X0_stationAt wM_X10_86 wIn_X0_stationAt wSe_X0_X0_stationAt wI_X0 (by decide) rfl (by decide +kernel) rfl rfl dX10_quality_15 ⟨by decide, by decide⟩ (Nat.le_of_ble_eq_true rfl) (⟨Nat.le_of_ble_eq_true rfl, Nat.le_of_ble_eq_true rfl⟩) (fun v4 S1 H locs hp w => ?_)
    obtain ⟨hp, rfl⟩ := hp
    rcases hp with ⟨rfl, hoj3⟩ | ⟨j3, hlj3, hkj3, rfl⟩
    · skip
      refine lv_astoreN (lv' := [(5, .null), (4, .null), (0, .ref (gG S 10 0)), (1, .int a), (2, .int b), (3, .int d)]) hx hb dX10_quality_18 hl (by decide) rfl (fun ls hl => ?_)
      refine lv_aloadN hx hb dX10_quality_20 (lv_at hl 1 rfl) ?_
      refine lv_ifnullN (tgt := 40) hx hb dX10_quality_22 (by decide) ?_
      exact rTW (S := S) (names := ["java/lang/RuntimeException", "java/lang/Exception"]) X w hl hno (by decide) (by decide) wC_X10_90 wI_java_lang_IndexOutOfBoundsException wS9_X10_262 at_IOB go_IOB ⟨by decide, by decide⟩ dX10_quality_40 dX10_quality_43 dX10_quality_44 dX10_quality_47 dX10_quality_50 (by decide) (by decide) (Nat.le_of_ble_eq_true rfl) (Nat.le_of_ble_eq_true rfl) (Nat.le_of_ble_eq_true rfl) (Nat.le_of_ble_eq_true rfl) (⟨rfl, rfl, by first | (rw [(by assumption : sOut a 0 (nI nm - 1) = true)]; rfl) | (rw [(by assumption : sOut b 0 (nI ns - 1) = true), Bool.true_or, Bool.or_true]) | (rw [b2i_t hy37, Bool.or_true, Bool.or_true])⟩)
    · skip
      refine lv_astore (lv' := [(5, .ref (gG S 8 j3)), (4, .null), (0, .ref (gG S 10 0)), (1, .int a), (2, .int b), (3, .int d)]) hx hb dX10_quality_18 hl (by decide) rfl (fun ls hl => ?_)
      refine lv_aloadN hx hb dX10_quality_20 (lv_at hl 1 rfl) ?_
      refine lv_ifnullN (tgt := 40) hx hb dX10_quality_22 (by decide) ?_
      exact rTW (S := S) (names := ["java/lang/RuntimeException", "java/lang/Exception"]) X w hl hno (by decide) (by decide) wC_X10_90 wI_java_lang_IndexOutOfBoundsException wS9_X10_262 at_IOB go_IOB ⟨by decide, by decide⟩ dX10_quality_40 dX10_quality_43 dX10_quality_44 dX10_quality_47 dX10_quality_50 (by decide) (by decide) (Nat.le_of_ble_eq_true rfl) (Nat.le_of_ble_eq_true rfl) (Nat.le_of_ble_eq_true rfl) (Nat.le_of_ble_eq_true rfl) (⟨rfl, rfl, by first | (rw [(by assumption : sOut a 0 (nI nm - 1) = true)]; rfl) | (rw [(by assumption : sOut b 0 (nI ns - 1) = true), Bool.true_or, Bool.or_true]) | (rw [b2i_t hy37, Bool.or_true, Bool.or_true])⟩)
  · skip
    refine lv_astore (lv' := [(4, .ref (gG S 3 j1)), (0, .ref (gG S 10 0)), (1, .int a), (2, .int b), (3, .int d)]) hx hb dX10_quality_8 hl (by decide) rfl (fun ls hl => ?_)
    refine lv_aload_n hx hb dX10_quality_10 rfl (lv_at hl 1 rfl) ?_
    refine g_10_0 (S := S) (x := (some (gG S 0 0))) X w h.v10 wF_X10_12 (h.f160) dX10_quality_11 ?_
    refine lv_iload_n hx hb dX10_quality_14 rfl (lv_at hl 3 rfl) ?_
    refine cV (S := S) (nA := 1) (As := [.int b]) (rest := []) X w hl h.v0 (m_X0_stationAt G S ea ns nj nm nt nr nc h b) wY_X0_stationAt wM_X10_86 wIn_X0_stationAt wSe_X0_X0_stationAt wI_X0 (by decide) rfl (by decide +kernel) rfl rfl dX10_quality_15 ⟨by decide, by decide⟩ (Nat.le_of_ble_eq_true rfl) (⟨Nat.le_of_ble_eq_true rfl, Nat.le_of_ble_eq_true rfl⟩) (fun v6 S1 H locs hp w => ?_)
    obtain ⟨hp, rfl⟩ := hp
    rcases hp with ⟨rfl, hoj5⟩ | ⟨j5, hlj5, hkj5, rfl⟩
    · skip
      refine lv_astoreN (lv' := [(5, .null), (4, .ref (gG S 3 j1)), (0, .ref (gG S 10 0)), (1, .int a), (2, .int b), (3, .int d)]) hx hb dX10_quality_18 hl (by decide) rfl (fun ls hl => ?_)
      refine lv_aload hx hb dX10_quality_20 (lv_at hl 1 rfl) ?_
      refine lv_ifnull hx hb dX10_quality_22 ?_
      refine lv_aloadN hx hb dX10_quality_25 (lv_at hl 0 rfl) ?_
      refine lv_ifnullN (tgt := 40) hx hb dX10_quality_27 (by decide) ?_
      exact rTW (S := S) (names := ["java/lang/RuntimeException", "java/lang/Exception"]) X w hl hno (by decide) (by decide) wC_X10_90 wI_java_lang_IndexOutOfBoundsException wS9_X10_262 at_IOB go_IOB ⟨by decide, by decide⟩ dX10_quality_40 dX10_quality_43 dX10_quality_44 dX10_quality_47 dX10_quality_50 (by decide) (by decide) (Nat.le_of_ble_eq_true rfl) (Nat.le_of_ble_eq_true rfl) (Nat.le_of_ble_eq_true rfl) (Nat.le_of_ble_eq_true rfl) (⟨rfl, rfl, by first | (rw [(by assumption : sOut a 0 (nI nm - 1) = true)]; rfl) | (rw [(by assumption : sOut b 0 (nI ns - 1) = true), Bool.true_or, Bool.or_true]) | (rw [b2i_t hy37, Bool.or_true, Bool.or_true])⟩)
    · skip
      refine lv_astore (lv' := [(5, .ref (gG S 8 j5)), (4, .ref (gG S 3 j1)), (0, .ref (gG S 10 0)), (1, .int a), (2, .int b), (3, .int d)]) hx hb dX10_quality_18 hl (by decide) rfl (fun ls hl => ?_)
      refine lv_aload hx hb dX10_quality_20 (lv_at hl 1 rfl) ?_
      refine lv_ifnull hx hb dX10_quality_22 ?_
      refine lv_aload hx hb dX10_quality_25 (lv_at hl 0 rfl) ?_
      refine lv_ifnull hx hb dX10_quality_27 ?_
      refine lv_iload_n hx hb dX10_quality_30 rfl (lv_at hl 5 rfl) ?_
      refine lv_iconst (v := 0) hx hb dX10_quality_31 (by decide) ?_
      refine lv_bipush (v := 23) hx hb dX10_quality_32 (by decide) ?_
      refine cS (S := S) (nA := 3) (As := [.int d, .int 0, .int 23]) (rest := []) X w hl (m_X10_isOutside G S d 0 23) wY_X10_isOutside wM_X10_48 wSt_X10_isOutside wI_X10 (by decide +kernel) rfl rfl dX10_quality_34 ⟨by decide, by decide⟩ (Nat.le_of_ble_eq_true rfl) (⟨Nat.le_of_ble_eq_true rfl, Nat.le_of_ble_eq_true rfl⟩) (fun v7 S1 H locs hp w => ?_)
      obtain ⟨rfl, rfl⟩ := hp
      refine lv_if_eq (tgt := 51) hx hb dX10_quality_37 (by decide) (fun hy37 => ?_) (fun hy37 => ?_)
      · refine lv_aload_n hx hb dX10_quality_51 rfl (lv_at hl 2 rfl) ?_
        refine g_10_1 (S := S) (x := (some (gG S 7 0))) X w h.v10 wF_X10_21 (h.f161) dX10_quality_52 ?_
        refine lv_aload hx hb dX10_quality_55 (lv_at hl 1 rfl) ?_
        refine lv_aload hx hb dX10_quality_57 (lv_at hl 0 rfl) ?_
        refine lv_iload_n hx hb dX10_quality_59 rfl (lv_at hl 5 rfl) ?_
        refine cV (S := S) (nA := 3) (As := [.ref (gG S 3 j1), .ref (gG S 8 j5), .int d]) (rest := []) X w hl h.v7 (a_X7_qualityOf G S ea ns nj nm nt nr nc h A hA j1 j5 hlj1 hlj5 d) wY_X7_qualityOf wM_X10_264 wIn_X7_qualityOf wSe_X7_X7_qualityOf wI_X7 (by decide) rfl (by decide +kernel) rfl rfl dX10_quality_60 ⟨by decide, by decide⟩ (Nat.le_of_ble_eq_true rfl) (⟨Nat.le_of_ble_eq_true rfl, Nat.le_of_ble_eq_true rfl⟩) (fun v8 S1 H locs hp w => ?_)
        obtain ⟨rfl, rfl⟩ := hp
        exact rXr (rI X w rfl dX10_quality_63 (by decide) (by decide) (⟨_, _, by assumption, by assumption, by assumption, by assumption, b2i_f hy37, rfl, rfl⟩))
      · exact rTW (S := S) (names := ["java/lang/RuntimeException", "java/lang/Exception"]) X w hl hno (by decide) (by decide) wC_X10_90 wI_java_lang_IndexOutOfBoundsException wS9_X10_262 at_IOB go_IOB ⟨by decide, by decide⟩ dX10_quality_40 dX10_quality_43 dX10_quality_44 dX10_quality_47 dX10_quality_50 (by decide) (by decide) (Nat.le_of_ble_eq_true rfl) (Nat.le_of_ble_eq_true rfl) (Nat.le_of_ble_eq_true rfl) (Nat.le_of_ble_eq_true rfl) (⟨rfl, rfl, by first | (rw [(by assumption : sOut a 0 (nI nm - 1) = true)]; rfl) | (rw [(by assumption : sOut b 0 (nI ns - 1) = true), Bool.true_or, Bool.or_true]) | (rw [b2i_t hy37, Bool.or_true, Bool.or_true])⟩)

theorem used_c {A : HS} {nt : Nat} {a b d e : Int32} (hb : ¬ b = -1) : rCnt (fun k => decide (¬ mI A 247 k = -1) && (decide (mI A 226 (tS A k) = a) && (!(sOut (mI A 241 k / 24) d e) && sIn (rHeard (mI A 245 k) (mI A 248 k)) b))) nt = rUsed A nt a b d e := rCnt_c nt (fun k _ => by
  unfold rUsedP
  rw [decide_eq_false hb, Bool.false_or])
theorem so_m1 {b : Int32} {m : Int32} (h : sOut b 0 m = false) : ¬ b = -1 := fun z => by
  unfold sOut at h
  rw [Bool.or_eq_false_iff] at h
  rw [z] at h
  exact absurd (of_decide_eq_false h.1) (by decide)

abbrev rm_a_X10_used : Room := { frames := 6, cells := 1, slots := 6, locals := 92 }
set_option maxHeartbeats 4000000 in
set_option maxRecDepth 100000 in
theorem a_X10_used {s0 : State} {l : Launch} {D : va_G} {cy : Nat → ClassId} (G : Gl s0 l D cy) (S : HS) (ea ns nj nm nt nr nc : Nat) (h : CI ea S ns nj nm nt nr nc) (A : HS) (hA : RK S A ns nj nm nt nr nc) (a b d e_ : Int32) : CtX s0 l D cy yX10_used cX10_used 5 (some .int) rm_a_X10_used S [.ref (gG S 10 0), .int a, .int b, .int d, .int e_] (fun v S' => (sOut a 0 5 || sOut b 0 15) = false ∧ some (.int (rUsed A nt a b d e_)) = v ∧ S = S') (fun E S' => S = S' ∧ E = "java/lang/IndexOutOfBoundsException" ∧ (sOut a 0 5 || sOut b 0 15) = true) := by
  refine proX "CavershamShift" G rfl rfl (Nat.le_of_ble_eq_true rfl) (fun p e s m below meth c ls X w hno hl => ?_)
  have hx := X.1
  have hb := X.2.1
  have hown := X.2.2.2.1
  have hts := X.2.2.2.2.1
  have hl : lv_has ls 5 [(0, .ref (gG S 10 0)), (1, .int a), (2, .int b), (3, .int d), (4, .int e_)] := hl
  refine lv_iload_n hx hb dX10_used_0 rfl (lv_at hl 1 rfl) ?_
  refine lv_iconst (v := 0) hx hb dX10_used_1 (by decide) ?_
  refine lv_iconst (v := 5) hx hb dX10_used_2 (by decide) ?_
  refine cS (S := S) (nA := 3) (As := [.int a, .int 0, .int 5]) (rest := []) X w hl (m_X10_isOutside G S a 0 5) wY_X10_isOutside wM_X10_48 wSt_X10_isOutside wI_X10 (by decide +kernel) rfl rfl dX10_used_3 ⟨by decide, by decide⟩ (Nat.le_of_ble_eq_true rfl) (⟨Nat.le_of_ble_eq_true rfl, Nat.le_of_ble_eq_true rfl⟩) (fun v1 S1 H locs hp w => ?_)
  obtain ⟨rfl, rfl⟩ := hp
  refine lv_if_ne (tgt := 19) hx hb dX10_used_6 (by decide) (fun hyA => ?_) (fun hyA => ?_)
  · exact rTW (S := S) (names := ["java/lang/RuntimeException", "java/lang/Exception"]) X w hl hno (by decide) (by decide) wC_X10_90 wI_java_lang_IndexOutOfBoundsException wS9_X10_284 at_IOB go_IOB ⟨by decide, by decide⟩ dX10_used_19 dX10_used_22 dX10_used_23 dX10_used_26 dX10_used_29 (by decide) (by decide) (Nat.le_of_ble_eq_true rfl) (Nat.le_of_ble_eq_true rfl) (Nat.le_of_ble_eq_true rfl) (Nat.le_of_ble_eq_true rfl) (⟨rfl, rfl, by first | (rw [b2i_t hyA]; rfl) | (rw [b2i_t hyB, Bool.or_true])⟩)
  · refine lv_iload_n hx hb dX10_used_9 rfl (lv_at hl 2 rfl) ?_
    refine lv_iconst (v := 0) hx hb dX10_used_10 (by decide) ?_
    refine lv_bipush (v := 15) hx hb dX10_used_11 (by decide) ?_
    refine cS (S := S) (nA := 3) (As := [.int b, .int 0, .int 15]) (rest := []) X w hl (m_X10_isOutside G S b 0 15) wY_X10_isOutside wM_X10_48 wSt_X10_isOutside wI_X10 (by decide +kernel) rfl rfl dX10_used_13 ⟨by decide, by decide⟩ (Nat.le_of_ble_eq_true rfl) (⟨Nat.le_of_ble_eq_true rfl, Nat.le_of_ble_eq_true rfl⟩) (fun v2 S1 H locs hp w => ?_)
    obtain ⟨rfl, rfl⟩ := hp
    refine lv_if_eq (tgt := 30) hx hb dX10_used_16 (by decide) (fun hyB => ?_) (fun hyB => ?_)
    · refine lv_aload_n hx hb dX10_used_30 rfl (lv_at hl 0 rfl) ?_
      refine g_10_2 (S := S) (x := (some (gG S 4 0))) X w h.v10 wF_X10_28 (h.f162) dX10_used_31 ?_
      refine lv_iload_n hx hb dX10_used_34 rfl (lv_at hl 1 rfl) ?_
      refine lv_iload_n hx hb dX10_used_35 rfl (lv_at hl 2 rfl) ?_
      refine lv_iload_n hx hb dX10_used_36 rfl (lv_at hl 3 rfl) ?_
      refine lv_iload hx hb dX10_used_37 (lv_at hl 4 rfl) ?_
      refine cV (S := S) (nA := 4) (As := [.int a, .int b, .int d, .int e_]) (rest := []) X w hl h.v4 (a_X4_countUsed G S ea ns nj nm nt nr nc h A hA a b d e_) wY_X4_countUsed wM_X10_286 wIn_X4_countUsed wSe_X4_X4_countUsed wI_X4 (by decide) rfl (by decide +kernel) rfl rfl dX10_used_39 ⟨by decide, by decide⟩ (Nat.le_of_ble_eq_true rfl) (⟨Nat.le_of_ble_eq_true rfl, Nat.le_of_ble_eq_true rfl⟩) (fun v3 S1 H locs hp w => ?_)
      obtain ⟨rfl, rfl⟩ := hp
      exact rXr (rI X w rfl dX10_used_42 (by decide) (by decide) (⟨by rw [b2i_f hyA, b2i_f hyB]; rfl, congrArg (fun x => some (Value.int x)) (used_c (so_m1 (b2i_f hyB))).symm, rfl⟩))
    · exact rTW (S := S) (names := ["java/lang/RuntimeException", "java/lang/Exception"]) X w hl hno (by decide) (by decide) wC_X10_90 wI_java_lang_IndexOutOfBoundsException wS9_X10_284 at_IOB go_IOB ⟨by decide, by decide⟩ dX10_used_19 dX10_used_22 dX10_used_23 dX10_used_26 dX10_used_29 (by decide) (by decide) (Nat.le_of_ble_eq_true rfl) (Nat.le_of_ble_eq_true rfl) (Nat.le_of_ble_eq_true rfl) (Nat.le_of_ble_eq_true rfl) (⟨rfl, rfl, by first | (rw [b2i_t hyA]; rfl) | (rw [b2i_t hyB, Bool.or_true])⟩)

theorem qn_m1 {S : HS} {r x : Nat} (hx : x < 24) : cSlot S r (nI x) (-1) = -1 := by
  unfold cSlot cIsSlot
  rw [show sOut (-1) 0 2 = true by decide, Bool.not_true, Bool.and_false, if_neg (by decide)]
/-- the quality with which the talk j would be heard -/
def whF (A : HS) (ns nj j x : Nat) : Int32 := if rRec A ns nj j x 3 = -1 then 0 else rQual A ns nj (sitN A x (rRec A ns nj j x 3).toNatClampNeg) (tS A j) (nI x)

abbrev rm_a_X7_qualityAt_n : Room := { frames := 4, cells := 0, slots := 0, locals := 85 }
set_option maxHeartbeats 4000000 in
set_option maxRecDepth 100000 in
theorem a_X7_qualityAt_n {s0 : State} {l : Launch} {D : va_G} {cy : Nat → ClassId} (G : Gl s0 l D cy) (S : HS) (ea ns nj nm nt nr nc : Nat) (h : CI ea S ns nj nm nt nr nc) (A : HS) (hA : RK S A ns nj nm nt nr nc) (x : Nat) (hx4 : x < 24) : Ctr s0 l D cy yX7_qualityAt cX7_qualityAt 5 (some .int) rm_a_X7_qualityAt_n S [.ref (gG S 7 0), .int (nI x), .int (-1)] (PU S (some (.int 0))) := by
  refine pro "CavershamShift$Room" G rfl rfl (Nat.le_of_ble_eq_true rfl) (fun p e s m below meth c ls X w hnm hl => ?_)
  have hx := X.1
  have hb := X.2.1
  have hown := X.2.2.2.1
  have hts := X.2.2.2.2.1
  have hl : lv_has ls 5 [(0, .ref (gG S 7 0)), (1, .int (nI x)), (2, .int (-1))] := hl
  refine lv_aload_n hx hb dX7_qualityAt_0 rfl (lv_at hl 0 rfl) ?_
  refine lv_aload_n hx hb dX7_qualityAt_1 rfl (lv_at hl 0 rfl) ?_
  refine lv_iload_n hx hb dX7_qualityAt_2 rfl (lv_at hl 1 rfl) ?_
  refine lv_iload_n hx hb dX7_qualityAt_3 rfl (lv_at hl 2 rfl) ?_
  refine cV (S := S) (nA := 2) (As := [.int (nI x), .int (-1)]) (rest := [.ref (gG S 7 0)]) X w hl h.v7 (m_X7_monitorIn G S ea ns nj nm nt nr nc h (nI x) (-1)) wY_X7_monitorIn wM_X7_53 wIn_X7_monitorIn wSe_X7_X7_monitorIn wI_X7 (by decide) rfl (by decide +kernel) rfl rfl dX7_qualityAt_4 ⟨by decide, by decide⟩ (Nat.le_of_ble_eq_true rfl) (⟨Nat.le_of_ble_eq_true rfl, Nat.le_of_ble_eq_true rfl⟩) (fun v1 S1 H locs hp w => ?_)
  obtain ⟨rfl, rfl⟩ := hp
  refine lv_topi (fun z2 ez2 => ?_)
  obtain rfl : z2 = (-1) := ez2.trans (qn_m1 hx4)
  refine cV (S := S) (nA := 1) (As := [.int (-1)]) (rest := []) X w hl h.v7 (m_X7_monitorAt G S ea ns nj nm nt nr nc h (-1)) wY_X7_monitorAt wM_X7_80 wIn_X7_monitorAt wSe_X7_X7_monitorAt wI_X7 (by decide) rfl (by decide +kernel) rfl rfl dX7_qualityAt_7 ⟨by decide, by decide⟩ (Nat.le_of_ble_eq_true rfl) (⟨Nat.le_of_ble_eq_true rfl, Nat.le_of_ble_eq_true rfl⟩) (fun v3 S1 H locs hp w => ?_)
  obtain ⟨hp, rfl⟩ := hp
  obtain ⟨rfl, -⟩ := hp.resolve_right (fun ⟨jx, hjx, ejx, _⟩ => nI_neg1 (by have := h.b_mo; omega) ejx.symm)
  refine lv_astore_nN (lv' := [(3, .null), (0, .ref (gG S 7 0)), (1, .int (nI x)), (2, .int (-1))]) hx hb dX7_qualityAt_10 rfl hl (by decide) rfl (fun ls hl => ?_)
  refine lv_aload_n hx hb dX7_qualityAt_11 rfl (lv_at hl 1 rfl) ?_
  refine g_7_0 (S := S) (x := (some (gG S 0 0))) X w h.v7 wF_X7_25 (h.f112) dX7_qualityAt_12 ?_
  refine lv_aload_n hx hb dX7_qualityAt_15 rfl (lv_at hl 1 rfl) ?_
  refine lv_iload_n hx hb dX7_qualityAt_16 rfl (lv_at hl 2 rfl) ?_
  refine lv_iload_n hx hb dX7_qualityAt_17 rfl (lv_at hl 3 rfl) ?_
  refine cV (S := S) (nA := 2) (As := [.int (nI x), .int (-1)]) (rest := [.ref (gG S 0 0)]) X w hl h.v7 (m_X7_stationIn G S ea ns nj nm nt nr nc h (nI x) (-1)) wY_X7_stationIn wM_X7_84 wIn_X7_stationIn wSe_X7_X7_stationIn wI_X7 (by decide) rfl (by decide +kernel) rfl rfl dX7_qualityAt_18 ⟨by decide, by decide⟩ (Nat.le_of_ble_eq_true rfl) (⟨Nat.le_of_ble_eq_true rfl, Nat.le_of_ble_eq_true rfl⟩) (fun v4 S1 H locs hp w => ?_)
  obtain ⟨rfl, rfl⟩ := hp
  refine lv_topi (fun z5 ez5 => ?_)
  obtain rfl : z5 = (-1) := ez5.trans (qn_m1 hx4)
  refine cV (S := S) (nA := 1) (As := [.int (-1)]) (rest := []) X w hl h.v0 (m_X0_stationAt G S ea ns nj nm nt nr nc h (-1)) wY_X0_stationAt wM_X7_87 wIn_X0_stationAt wSe_X0_X0_stationAt wI_X0 (by decide) rfl (by decide +kernel) rfl rfl dX7_qualityAt_21 ⟨by decide, by decide⟩ (Nat.le_of_ble_eq_true rfl) (⟨Nat.le_of_ble_eq_true rfl, Nat.le_of_ble_eq_true rfl⟩) (fun v6 S1 H locs hp w => ?_)
  obtain ⟨hp, rfl⟩ := hp
  obtain ⟨rfl, -⟩ := hp.resolve_right (fun ⟨jx, hjx, ejx, _⟩ => nI_neg1 (by have := h.b_st; omega) ejx.symm)
  refine lv_astoreN (lv' := [(4, .null), (3, .null), (0, .ref (gG S 7 0)), (1, .int (nI x)), (2, .int (-1))]) hx hb dX7_qualityAt_24 hl (by decide) rfl (fun ls hl => ?_)
  refine lv_aload_nN hx hb dX7_qualityAt_26 rfl (lv_at hl 1 rfl) ?_
  refine lv_ifnullN (tgt := 35) hx hb dX7_qualityAt_27 (by decide) ?_
  refine lv_iconst (v := 0) hx hb dX7_qualityAt_35 (by decide) ?_
  refine lv_goto (tgt := 47) hx hb dX7_qualityAt_36 (by decide) ?_
  exact rI X w rfl dX7_qualityAt_47 (by decide) (by decide) (pu_i rfl)

abbrev rm_a_X10_wouldHear : Room := { frames := 7, cells := 1, slots := 6, locals := 164 }
set_option maxHeartbeats 4000000 in
set_option maxRecDepth 100000 in
theorem a_X10_wouldHear {s0 : State} {l : Launch} {D : va_G} {cy : Nat → ClassId} (G : Gl s0 l D cy) (S : HS) (ea ns nj nm nt nr nc : Nat) (h : CI ea S ns nj nm nt nr nc) (A : HS) (hA : RK S A ns nj nm nt nr nc) (g0 : Nat) (hg : mI S 164 0 = nI g0) (hg7 : g0 ≤ 720) (hA7 : mI A 257 0 = nI g0) (j : Nat) (hj : j < nt) : CtX s0 l D cy yX10_wouldHear cX10_wouldHear 4 (some .int) rm_a_X10_wouldHear S [.ref (gG S 10 0), .int (nI j)] (fun v S' => ¬ mI A 241 j < nI g0 ∧ some (.int (whF A ns nj j (tH A j % 24))) = v ∧ S = S') (fun E S' => S = S' ∧ E = "java/lang/IllegalStateException" ∧ mI A 241 j < nI g0) := by
  refine proX "CavershamShift" G rfl rfl (Nat.le_of_ble_eq_true rfl) (fun p e s m below meth c ls X w hno hl => ?_)
  have hx := X.1
  have hb := X.2.1
  have hown := X.2.2.2.1
  have hts := X.2.2.2.2.1
  have hl : lv_has ls 4 [(0, .ref (gG S 10 0)), (1, .int (nI j))] := hl
  obtain ⟨t9, ht9, et9⟩ := (hA.ok.2.2.1 j hj).1
  have etH : tH A j = t9 := by unfold tH; rw [et9]; exact nI_clamp (by omega)
  refine lv_aload_n hx hb dX10_wouldHear_0 rfl (lv_at hl 0 rfl) ?_
  refine g_10_2 (S := S) (x := (some (gG S 4 0))) X w h.v10 wF_X10_28 (h.f162) dX10_wouldHear_1 ?_
  refine lv_iload_n hx hb dX10_wouldHear_4 rfl (lv_at hl 1 rfl) ?_
  refine cV (S := S) (nA := 1) (As := [.int (nI j)]) (rest := []) X w hl h.v4 (m_X4_talkAt G S ea ns nj nm nt nr nc h (nI j)) wY_X4_talkAt wM_X10_182 wIn_X4_talkAt wSe_X4_X4_talkAt wI_X4 (by decide) rfl (by decide +kernel) rfl rfl dX10_wouldHear_5 ⟨by decide, by decide⟩ (Nat.le_of_ble_eq_true rfl) (⟨Nat.le_of_ble_eq_true rfl, Nat.le_of_ble_eq_true rfl⟩) (fun v1 S1 H locs hp w => ?_)
  obtain ⟨hp, rfl⟩ := hp
  obtain ⟨jx, hjx, ejx, rfl⟩ := hp.resolve_left (fun z => by rw [so_j hj (Nat.le_trans h.b_ta (by decide))] at z; exact absurd z.2 (by decide))
  obtain rfl : j = jx := (nI_eq (by have := h.b_ta; omega) (by have := h.b_ta; omega)).mp ejx
  refine lv_astore_n (lv' := [(2, .ref (gG S 9 j)), (0, .ref (gG S 10 0)), (1, .int (nI j))]) hx hb dX10_wouldHear_8 rfl hl (by decide) rfl (fun ls hl => ?_)
  refine lv_aload_n hx hb dX10_wouldHear_9 rfl (lv_at hl 0 rfl) ?_
  refine lv_ifnonnull (tgt := 23) hx hb dX10_wouldHear_10 (by decide) ?_
  refine lv_aload_n hx hb dX10_wouldHear_23 rfl (lv_at hl 0 rfl) ?_
  refine g_9_2 (S := S) (x := (mI A 241 j)) X w (h.e_ta j hj).2 wF_X10_333 ((hA.rc.2.2.2.1 j hj).2.1) dX10_wouldHear_24 ?_
  refine lv_aload_n hx hb dX10_wouldHear_27 rfl (lv_at hl 1 rfl) ?_
  refine g_10_4 (S := S) (x := (nI g0)) X w h.v10 wF_X10_41 (hg) dX10_wouldHear_28 ?_
  refine lv_icmp_ge (tgt := 45) hx hb dX10_wouldHear_31 (by decide) (fun hwh => ?_) (fun hwh => ?_)
  · refine lv_aload_n hx hb dX10_wouldHear_45 rfl (lv_at hl 0 rfl) ?_
    refine g_9_2 (S := S) (x := (nI t9)) X w (h.e_ta j hj).2 wF_X10_333 ((hA.rc.2.2.2.1 j hj).2.1.trans et9) dX10_wouldHear_46 ?_
    refine lv_bipush (v := 24) hx hb dX10_wouldHear_49 (by decide) ?_
    refine lv_irem hx hb dX10_wouldHear_51 (by decide) ?_
    refine lv_topi (fun z2 ez2 => ?_)
    obtain rfl : z2 = (nI (tH A j % 24)) := ez2.trans (by rw [etH]; exact pk_rem (d := 24) (by omega) (by decide) (by decide))
    refine lv_istore_n (lv' := [(3, .int (nI (tH A j % 24))), (2, .ref (gG S 9 j)), (0, .ref (gG S 10 0)), (1, .int (nI j))]) hx hb dX10_wouldHear_52 rfl hl (by decide) rfl (fun ls hl => ?_)
    refine lv_aload_n hx hb dX10_wouldHear_53 rfl (lv_at hl 2 rfl) ?_
    refine g_10_1 (S := S) (x := (some (gG S 7 0))) X w h.v10 wF_X10_21 (h.f161) dX10_wouldHear_54 ?_
    refine lv_iload_n hx hb dX10_wouldHear_57 rfl (lv_at hl 0 rfl) ?_
    refine lv_aload_n hx hb dX10_wouldHear_58 rfl (lv_at hl 2 rfl) ?_
    refine g_10_1 (S := S) (x := (some (gG S 7 0))) X w h.v10 wF_X10_21 (h.f161) dX10_wouldHear_59 ?_
    refine lv_aload_n hx hb dX10_wouldHear_62 rfl (lv_at hl 1 rfl) ?_
    refine g_9_1 (S := S) (x := (some (gG S 8 (tS A j)))) X w (h.e_ta j hj).2 wF_X10_326 ((hA.rc.tSx h.b_st hj).2.2) dX10_wouldHear_63 ?_
    refine lv_iload_n hx hb dX10_wouldHear_66 rfl (lv_at hl 0 rfl) ?_
    refine cV (S := S) (nA := 2) (As := [.ref (gG S 8 (tS A j)), .int (nI (tH A j % 24))]) (rest := [.int (nI (tH A j % 24)), .ref (gG S 7 0)]) X w hl h.v7 (a_X7_setThatHears G S ea ns nj nm nt nr nc h A hA j (tH A j % 24) hj (Nat.mod_lt _ (by decide))) wY_X7_setThatHears wM_X10_374 wIn_X7_setThatHears wSe_X7_X7_setThatHears wI_X7 (by decide) rfl (by decide +kernel) rfl rfl dX10_wouldHear_67 ⟨by decide, by decide⟩ (Nat.le_of_ble_eq_true rfl) (⟨Nat.le_of_ble_eq_true rfl, Nat.le_of_ble_eq_true rfl⟩) (fun v3 S1 H locs hp w => ?_)
    obtain ⟨rfl, rfl⟩ := hp
    refine lv_topi (fun sv esv => ?_)
    have esv : sv = rRec A ns nj j (tH A j % 24) 3 := esv
    rcases rRec_in (S := A) (ns := ns) (nj := nj) (j := j) (a := tH A j % 24) 3 with hrm | ⟨bb, hbb, ebb, hsb9⟩
    · obtain rfl : sv = -1 := esv.trans hrm
      refine cV (S := S) (nA := 2) (As := [.int (nI (tH A j % 24)), .int (-1)]) (rest := []) X w hl h.v7 (a_X7_qualityAt_n G S ea ns nj nm nt nr nc h A hA (tH A j % 24) (Nat.mod_lt _ (by decide))) wY_X7_qualityAt wM_X10_377 wIn_X7_qualityAt wSe_X7_X7_qualityAt wI_X7 (by decide) rfl (by decide +kernel) rfl rfl dX10_wouldHear_70 ⟨by decide, by decide⟩ (Nat.le_of_ble_eq_true rfl) (⟨Nat.le_of_ble_eq_true rfl, Nat.le_of_ble_eq_true rfl⟩) (fun v4 S1 H locs hp w => ?_)
      obtain ⟨rfl, rfl⟩ := hp
      exact rXr (rI X w rfl dX10_wouldHear_73 (by decide) (by decide) (⟨Int32.not_lt.mpr hwh, congrArg (fun x => some (Value.int x)) (by first | exact if_pos hrm | (unfold whF; rw [ebb, if_neg (nI_neg1 (by omega)), nI_clamp (by omega)]; exact eqa.symm)), rfl⟩))
    · obtain rfl : sv = nI bb := esv.trans ebb
      have h36 := rSlot_h hsb9
      have hts9 := hA.rc.tSx h.b_st hj
      have eqa : rQA A ns nj (tH A j % 24) bb = rQual A ns nj (sitN A (tH A j % 24) bb) (tS A j) (nI (tH A j % 24)) := (slot_t hA.ok h.b_st h.b_mo hts9.1 (Nat.mod_lt _ (by decide)) hbb h36).trans (if_pos h36)
      refine cV (S := S) (nA := 2) (As := [.int (nI (tH A j % 24)), .int (nI bb)]) (rest := []) X w hl h.v7 (a_X7_qualityAt G S ea ns nj nm nt nr nc h A hA (tH A j % 24) bb (Nat.mod_lt _ (by decide)) hbb) wY_X7_qualityAt wM_X10_377 wIn_X7_qualityAt wSe_X7_X7_qualityAt wI_X7 (by decide) rfl (by decide +kernel) rfl rfl dX10_wouldHear_70 ⟨by decide, by decide⟩ (Nat.le_of_ble_eq_true rfl) (⟨Nat.le_of_ble_eq_true rfl, Nat.le_of_ble_eq_true rfl⟩) (fun v5 S1 H locs hp w => ?_)
      obtain ⟨rfl, rfl⟩ := hp
      exact rXr (rI X w rfl dX10_wouldHear_73 (by decide) (by decide) (⟨Int32.not_lt.mpr hwh, congrArg (fun x => some (Value.int x)) (by first | exact if_pos hrm | (unfold whF; rw [ebb, if_neg (nI_neg1 (by omega)), nI_clamp (by omega)]; exact eqa.symm)), rfl⟩))
  · exact rTW (S := S) (names := ["java/lang/RuntimeException", "java/lang/Exception"]) X w hl hno (by decide) (by decide) wC_X10_72 wI_java_lang_IllegalStateException wS9_X10_372 at_ISE go_ISE ⟨by decide, by decide⟩ dX10_wouldHear_34 dX10_wouldHear_37 dX10_wouldHear_38 dX10_wouldHear_41 dX10_wouldHear_44 (by decide) (by decide) (Nat.le_of_ble_eq_true rfl) (Nat.le_of_ble_eq_true rfl) (Nat.le_of_ble_eq_true rfl) (Nat.le_of_ble_eq_true rfl) (⟨rfl, rfl, Int32.not_le.mp hwh⟩)

abbrev rm_a_X10_wouldHear_x : Room := { frames := 7, cells := 1, slots := 6, locals := 164 }
set_option maxHeartbeats 4000000 in
set_option maxRecDepth 100000 in
theorem a_X10_wouldHear_x {s0 : State} {l : Launch} {D : va_G} {cy : Nat → ClassId} (G : Gl s0 l D cy) (S : HS) (ea ns nj nm nt nr nc : Nat) (h : CI ea S ns nj nm nt nr nc) (A : HS) (hA : RK S A ns nj nm nt nr nc) (a : Int32) (ha : sOut a 0 (nI nt - 1) = true) : CtX s0 l D cy yX10_wouldHear cX10_wouldHear 4 (some .int) rm_a_X10_wouldHear_x S [.ref (gG S 10 0), .int a] (fun _ _ => False) (fun E S' => S = S' ∧ E = "java/lang/IndexOutOfBoundsException") := by
  refine proX "CavershamShift" G rfl rfl (Nat.le_of_ble_eq_true rfl) (fun p e s m below meth c ls X w hno hl => ?_)
  have hx := X.1
  have hb := X.2.1
  have hown := X.2.2.2.1
  have hts := X.2.2.2.2.1
  have hl : lv_has ls 4 [(0, .ref (gG S 10 0)), (1, .int a)] := hl
  refine lv_aload_n hx hb dX10_wouldHear_0 rfl (lv_at hl 0 rfl) ?_
  refine g_10_2 (S := S) (x := (some (gG S 4 0))) X w h.v10 wF_X10_28 (h.f162) dX10_wouldHear_1 ?_
  refine lv_iload_n hx hb dX10_wouldHear_4 rfl (lv_at hl 1 rfl) ?_
  refine cV (S := S) (nA := 1) (As := [.int a]) (rest := []) X w hl h.v4 (m_X4_talkAt G S ea ns nj nm nt nr nc h a) wY_X4_talkAt wM_X10_182 wIn_X4_talkAt wSe_X4_X4_talkAt wI_X4 (by decide) rfl (by decide +kernel) rfl rfl dX10_wouldHear_5 ⟨by decide, by decide⟩ (Nat.le_of_ble_eq_true rfl) (⟨Nat.le_of_ble_eq_true rfl, Nat.le_of_ble_eq_true rfl⟩) (fun v1 S1 H locs hp w => ?_)
  obtain ⟨hp, rfl⟩ := hp
  obtain ⟨rfl, -⟩ := hp.resolve_right (fun ⟨jx, hjx, ejx, _⟩ => by rw [ejx, so_j hjx (Nat.le_trans h.b_ta (by decide))] at ha; exact absurd ha (by decide))
  refine lv_astore_nN (lv' := [(2, .null), (0, .ref (gG S 10 0)), (1, .int a)]) hx hb dX10_wouldHear_8 rfl hl (by decide) rfl (fun ls hl => ?_)
  refine lv_aload_nN hx hb dX10_wouldHear_9 rfl (lv_at hl 0 rfl) ?_
  refine lv_ifnonnullN hx hb dX10_wouldHear_10 ?_
  exact rT (S := S) (names := ["java/lang/RuntimeException", "java/lang/Exception"]) X w hl hno (by decide) (by decide) wC_X10_90 wI_java_lang_IndexOutOfBoundsException wS9_X10_186 at_IOB go_IOB ⟨by decide, by decide⟩ dX10_wouldHear_13 dX10_wouldHear_16 dX10_wouldHear_17 dX10_wouldHear_19 dX10_wouldHear_22 (by decide) (by decide) (Nat.le_of_ble_eq_true rfl) (Nat.le_of_ble_eq_true rfl) (Nat.le_of_ble_eq_true rfl) (Nat.le_of_ble_eq_true rfl) (⟨rfl, rfl⟩)

