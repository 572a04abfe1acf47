theorem dX16_thrown_0 : decode cX16_thrown 0 = .ok (.aload_n 0, 1) := by decide +kernel
theorem dX16_thrown_1 : decode cX16_thrown 1 = .ok (.getfield 43, 3) := by decide +kernel
theorem dX16_thrown_4 : decode cX16_thrown 4 = .ok (.ireturn, 1) := by decide +kernel
theorem dX16_isOn_0 : decode cX16_isOn 0 = .ok (.aload_n 0, 1) := by decide +kernel
theorem dX16_isOn_1 : decode cX16_isOn 1 = .ok (.getfield 16, 3) := by decide +kernel
theorem dX16_isOn_4 : decode cX16_isOn 4 = .ok (.iload_n 1, 1) := by decide +kernel
theorem dX16_isOn_5 : decode cX16_isOn 5 = .ok (.invokeinterface 46 2, 5) := by decide +kernel
theorem dX16_isOn_10 : decode cX16_isOn 10 = .ok (.checkcast 52, 3) := by decide +kernel
theorem dX16_isOn_13 : decode cX16_isOn 13 = .ok (.getfield 54, 3) := by decide +kernel
theorem dX16_isOn_16 : decode cX16_isOn 16 = .ok (.iload_n 2, 1) := by decide +kernel
theorem dX16_isOn_17 : decode cX16_isOn 17 = .ok (.invokestatic 57, 3) := by decide +kernel
theorem dX16_isOn_20 : decode cX16_isOn 20 = .ok (.ireturn, 1) := by decide +kernel
abbrev rm_m_X16_isOn : Room := { frames := 3, cells := 0, slots := 0, locals := 64 }
set_option maxHeartbeats 4000000 in
set_option maxRecDepth 100000 in
theorem m_X16_isOn {s0 : State} {l : Launch} {D : va_G} {cy : Nat → ClassId} (G : Gl s0 l D cy) (S : HS) (ea ns nj nm nt nr nq : Nat) (h : RI ea S ns nj nm nt nr nq) (i : Nat) (hi : i < ns) (at_ : Int32) : Ctr s0 l D cy yX16_isOn cX16_isOn 3 (some .boolean) rm_m_X16_isOn S [.ref (gG S 16 0), .int (nI i), .int at_] (PU S (some (.int (b2i (sIn (mI S 228 i) at_))))) := by
  refine pro "CavershamShiftModel" G rfl rfl (Nat.le_of_ble_eq_true rfl) (fun p e s m below meth c ls X w hnm hl => ?_)
  have hx := X.1
  have hb := X.2.1
  have hown := X.2.2.2.1
  have hts := X.2.2.2.2.1
  have hl : lv_has ls 3 [(0, .ref (gG S 16 0)), (1, .int (nI i)), (2, .int at_)] := hl
  refine lv_aload_n hx hb dX16_isOn_0 rfl (lv_at hl 0 rfl) ?_
  refine g_16_6 (S := S) (x := (some (gG S 17 6))) X w h.v wF_X16_16 (h.f_st) dX16_isOn_1 ?_
  refine lv_iload_n hx hb dX16_isOn_4 rfl (lv_at hl 1 rfl) ?_
  refine cF (S := S) (t := 17) (nA := 1) (As := [.int (nI i)]) (rest := []) X w hl h.l_st.1 (m_get G S ea 6 i ns (some (gG S 14 i)) h.l_st hi (h.e_st i hi).1) wY_Jx4a65c_get_915e3 wM_X16_46 wIn_Jx4a65c_get_915e3 wSe_Jx4a65c_Jx4a65c_get_915e3_of_java_util_List_get__I_Ljava_lang_Object_ wI_Jx4a65c fw_get (by decide) rfl (by decide +kernel) rfl rfl dX16_isOn_5 ⟨by decide, by decide⟩ (Nat.le_of_ble_eq_true rfl) (⟨Nat.le_of_ble_eq_true rfl, Nat.le_of_ble_eq_true rfl⟩) (fun v1 S1 H locs hp w => ?_)
  obtain ⟨rfl, rfl⟩ := hp
  refine ckC (S := S) (t := 14) X w (h.e_st i hi).2 (by decide) rfl wC_X16_52 dX16_isOn_10 ?_
  refine g_14_4 (S := S) (x := (mI S 228 i)) X w (h.e_st i hi).2 wF_X16_54 (rfl) dX16_isOn_13 ?_
  refine lv_iload_n hx hb dX16_isOn_16 rfl (lv_at hl 2 rfl) ?_
  refine cS (S := S) (nA := 2) (As := [.int (mI S 228 i), .int at_]) (rest := []) X w hl (m_X16_has G S (mI S 228 i) at_) wY_X16_has wM_X16_57 wSt_X16_has wI_X16 (by decide +kernel) rfl rfl dX16_isOn_17 ⟨by decide, by decide⟩ (Nat.le_of_ble_eq_true rfl) (⟨Nat.le_of_ble_eq_true rfl, Nat.le_of_ble_eq_true rfl⟩) (fun v2 S1 H locs hp w => ?_)
  obtain ⟨rfl, rfl⟩ := hp
  exact rZ X w rfl dX16_isOn_20 (b2i_01 _) (by decide) (by decide) (pu_i rfl)

theorem dX16_isStation_0 : decode cX16_isStation 0 = .ok (.iload_n 1, 1) := by decide +kernel
theorem dX16_isStation_1 : decode cX16_isStation 1 = .ok (.iconst 0, 1) := by decide +kernel
theorem dX16_isStation_2 : decode cX16_isStation 2 = .ok (.aload_n 0, 1) := by decide +kernel
theorem dX16_isStation_3 : decode cX16_isStation 3 = .ok (.getfield 16, 3) := by decide +kernel
theorem dX16_isStation_6 : decode cX16_isStation 6 = .ok (.invokeinterface 73 1, 5) := by decide +kernel
theorem dX16_isStation_11 : decode cX16_isStation 11 = .ok (.iconst 1, 1) := by decide +kernel
theorem dX16_isStation_12 : decode cX16_isStation 12 = .ok (.isub, 1) := by decide +kernel
theorem dX16_isStation_13 : decode cX16_isStation 13 = .ok (.invokestatic 224, 3) := by decide +kernel
theorem dX16_isStation_16 : decode cX16_isStation 16 = .ok (.ireturn, 1) := by decide +kernel
abbrev rm_m_X16_isStation : Room := { frames := 1, cells := 0, slots := 0, locals := 22 }
set_option maxHeartbeats 4000000 in
set_option maxRecDepth 100000 in
theorem m_X16_isStation {s0 : State} {l : Launch} {D : va_G} {cy : Nat → ClassId} (G : Gl s0 l D cy) (S : HS) (ea ns nj nm nt nr nq : Nat) (h : RI ea S ns nj nm nt nr nq) (k : Int32) : Ctr s0 l D cy yX16_isStation cX16_isStation 2 (some .boolean) rm_m_X16_isStation S [.ref (gG S 16 0), .int k] (PU S (some (.int (b2i (!(sOut k 0 (nI ns - 1))))))) := by
  refine pro "CavershamShiftModel" G rfl rfl (Nat.le_of_ble_eq_true rfl) (fun p e s m below meth c ls X w hnm hl => ?_)
  have hx := X.1
  have hb := X.2.1
  have hown := X.2.2.2.1
  have hts := X.2.2.2.2.1
  have hl : lv_has ls 2 [(0, .ref (gG S 16 0)), (1, .int k)] := hl
  refine lv_iload_n hx hb dX16_isStation_0 rfl (lv_at hl 1 rfl) ?_
  refine lv_iconst (v := 0) hx hb dX16_isStation_1 (by decide) ?_
  refine lv_aload_n hx hb dX16_isStation_2 rfl (lv_at hl 0 rfl) ?_
  refine g_16_6 (S := S) (x := (some (gG S 17 6))) X w h.v wF_X16_16 (h.f_st) dX16_isStation_3 ?_
  refine cF (S := S) (t := 17) (nA := 0) (As := []) (rest := [.int 0, .int k]) X w hl h.l_st.1 (m_size G S ea 6 ns h.l_st) wY_Jx4a65c_size_8abf5 wM_X16_73 wIn_Jx4a65c_size_8abf5 wSe_Jx4a65c_Jx4a65c_size_8abf5_of_java_util_List_size___I wI_Jx4a65c fw_size (by decide) rfl (by decide +kernel) rfl rfl dX16_isStation_6 ⟨by decide, by decide⟩ (Nat.le_of_ble_eq_true rfl) (⟨Nat.le_of_ble_eq_true rfl, Nat.le_of_ble_eq_true rfl⟩) (fun v1 S1 H locs hp w => ?_)
  obtain ⟨rfl, rfl⟩ := hp
  refine lv_iconst (v := 1) hx hb dX16_isStation_11 (by decide) ?_
  refine lv_isub hx hb dX16_isStation_12 ?_
  refine cS (S := S) (nA := 3) (As := [.int k, .int 0, .int ((nI ns) - 1)]) (rest := []) X w hl (m_X16_in G S k 0 ((nI ns) - 1)) wY_X16_in wM_X16_224 wSt_X16_in wI_X16 (by decide +kernel) rfl rfl dX16_isStation_13 ⟨by decide, by decide⟩ (Nat.le_of_ble_eq_true rfl) (⟨Nat.le_of_ble_eq_true rfl, Nat.le_of_ble_eq_true rfl⟩) (fun v2 S1 H locs hp w => ?_)
  obtain ⟨rfl, rfl⟩ := hp
  exact rZ X w rfl dX16_isStation_16 (b2i_01 _) (by decide) (by decide) (pu_i rfl)

theorem dX16_isMonitor_0 : decode cX16_isMonitor 0 = .ok (.iload_n 1, 1) := by decide +kernel
theorem dX16_isMonitor_1 : decode cX16_isMonitor 1 = .ok (.iconst 0, 1) := by decide +kernel
theorem dX16_isMonitor_2 : decode cX16_isMonitor 2 = .ok (.aload_n 0, 1) := by decide +kernel
theorem dX16_isMonitor_3 : decode cX16_isMonitor 3 = .ok (.getfield 23, 3) := by decide +kernel
theorem dX16_isMonitor_6 : decode cX16_isMonitor 6 = .ok (.invokeinterface 73 1, 5) := by decide +kernel
theorem dX16_isMonitor_11 : decode cX16_isMonitor 11 = .ok (.iconst 1, 1) := by decide +kernel
theorem dX16_isMonitor_12 : decode cX16_isMonitor 12 = .ok (.isub, 1) := by decide +kernel
theorem dX16_isMonitor_13 : decode cX16_isMonitor 13 = .ok (.invokestatic 224, 3) := by decide +kernel
theorem dX16_isMonitor_16 : decode cX16_isMonitor 16 = .ok (.ireturn, 1) := by decide +kernel
abbrev rm_m_X16_isMonitor : Room := { frames := 1, cells := 0, slots := 0, locals := 22 }
set_option maxHeartbeats 4000000 in
set_option maxRecDepth 100000 in
theorem m_X16_isMonitor {s0 : State} {l : Launch} {D : va_G} {cy : Nat → ClassId} (G : Gl s0 l D cy) (S : HS) (ea ns nj nm nt nr nq : Nat) (h : RI ea S ns nj nm nt nr nq) (k : Int32) : Ctr s0 l D cy yX16_isMonitor cX16_isMonitor 2 (some .boolean) rm_m_X16_isMonitor S [.ref (gG S 16 0), .int k] (PU S (some (.int (b2i (!(sOut k 0 (nI nm - 1))))))) := by
  refine pro "CavershamShiftModel" G rfl rfl (Nat.le_of_ble_eq_true rfl) (fun p e s m below meth c ls X w hnm hl => ?_)
  have hx := X.1
  have hb := X.2.1
  have hown := X.2.2.2.1
  have hts := X.2.2.2.2.1
  have hl : lv_has ls 2 [(0, .ref (gG S 16 0)), (1, .int k)] := hl
  refine lv_iload_n hx hb dX16_isMonitor_0 rfl (lv_at hl 1 rfl) ?_
  refine lv_iconst (v := 0) hx hb dX16_isMonitor_1 (by decide) ?_
  refine lv_aload_n hx hb dX16_isMonitor_2 rfl (lv_at hl 0 rfl) ?_
  refine g_16_8 (S := S) (x := (some (gG S 17 8))) X w h.v wF_X16_23 (h.f_mo) dX16_isMonitor_3 ?_
  refine cF (S := S) (t := 17) (nA := 0) (As := []) (rest := [.int 0, .int k]) X w hl h.l_mo.1 (m_size G S ea 8 nm h.l_mo) wY_Jx4a65c_size_8abf5 wM_X16_73 wIn_Jx4a65c_size_8abf5 wSe_Jx4a65c_Jx4a65c_size_8abf5_of_java_util_List_size___I wI_Jx4a65c fw_size (by decide) rfl (by decide +kernel) rfl rfl dX16_isMonitor_6 ⟨by decide, by decide⟩ (Nat.le_of_ble_eq_true rfl) (⟨Nat.le_of_ble_eq_true rfl, Nat.le_of_ble_eq_true rfl⟩) (fun v1 S1 H locs hp w => ?_)
  obtain ⟨rfl, rfl⟩ := hp
  refine lv_iconst (v := 1) hx hb dX16_isMonitor_11 (by decide) ?_
  refine lv_isub hx hb dX16_isMonitor_12 ?_
  refine cS (S := S) (nA := 3) (As := [.int k, .int 0, .int ((nI nm) - 1)]) (rest := []) X w hl (m_X16_in G S k 0 ((nI nm) - 1)) wY_X16_in wM_X16_224 wSt_X16_in wI_X16 (by decide +kernel) rfl rfl dX16_isMonitor_13 ⟨by decide, by decide⟩ (Nat.le_of_ble_eq_true rfl) (⟨Nat.le_of_ble_eq_true rfl, Nat.le_of_ble_eq_true rfl⟩) (fun v2 S1 H locs hp w => ?_)
  obtain ⟨rfl, rfl⟩ := hp
  exact rZ X w rfl dX16_isMonitor_16 (b2i_01 _) (by decide) (by decide) (pu_i rfl)

theorem dX16_isTalk_0 : decode cX16_isTalk 0 = .ok (.iload_n 1, 1) := by decide +kernel
theorem dX16_isTalk_1 : decode cX16_isTalk 1 = .ok (.iconst 0, 1) := by decide +kernel
theorem dX16_isTalk_2 : decode cX16_isTalk 2 = .ok (.aload_n 0, 1) := by decide +kernel
theorem dX16_isTalk_3 : decode cX16_isTalk 3 = .ok (.getfield 26, 3) := by decide +kernel
theorem dX16_isTalk_6 : decode cX16_isTalk 6 = .ok (.invokeinterface 73 1, 5) := by decide +kernel
theorem dX16_isTalk_11 : decode cX16_isTalk 11 = .ok (.iconst 1, 1) := by decide +kernel
theorem dX16_isTalk_12 : decode cX16_isTalk 12 = .ok (.isub, 1) := by decide +kernel
theorem dX16_isTalk_13 : decode cX16_isTalk 13 = .ok (.invokestatic 224, 3) := by decide +kernel
theorem dX16_isTalk_16 : decode cX16_isTalk 16 = .ok (.ireturn, 1) := by decide +kernel
abbrev rm_m_X16_isTalk : Room := { frames := 1, cells := 0, slots := 0, locals := 22 }
set_option maxHeartbeats 4000000 in
set_option maxRecDepth 100000 in
theorem m_X16_isTalk {s0 : State} {l : Launch} {D : va_G} {cy : Nat → ClassId} (G : Gl s0 l D cy) (S : HS) (ea ns nj nm nt nr nq : Nat) (h : RI ea S ns nj nm nt nr nq) (k : Int32) : Ctr s0 l D cy yX16_isTalk cX16_isTalk 2 (some .boolean) rm_m_X16_isTalk S [.ref (gG S 16 0), .int k] (PU S (some (.int (b2i (!(sOut k 0 (nI nt - 1))))))) := by
  refine pro "CavershamShiftModel" G rfl rfl (Nat.le_of_ble_eq_true rfl) (fun p e s m below meth c ls X w hnm hl => ?_)
  have hx := X.1
  have hb := X.2.1
  have hown := X.2.2.2.1
  have hts := X.2.2.2.2.1
  have hl : lv_has ls 2 [(0, .ref (gG S 16 0)), (1, .int k)] := hl
  refine lv_iload_n hx hb dX16_isTalk_0 rfl (lv_at hl 1 rfl) ?_
  refine lv_iconst (v := 0) hx hb dX16_isTalk_1 (by decide) ?_
  refine lv_aload_n hx hb dX16_isTalk_2 rfl (lv_at hl 0 rfl) ?_
  refine g_16_9 (S := S) (x := (some (gG S 17 9))) X w h.v wF_X16_26 (h.f_ta) dX16_isTalk_3 ?_
  refine cF (S := S) (t := 17) (nA := 0) (As := []) (rest := [.int 0, .int k]) X w hl h.l_ta.1 (m_size G S ea 9 nt h.l_ta) wY_Jx4a65c_size_8abf5 wM_X16_73 wIn_Jx4a65c_size_8abf5 wSe_Jx4a65c_Jx4a65c_size_8abf5_of_java_util_List_size___I wI_Jx4a65c fw_size (by decide) rfl (by decide +kernel) rfl rfl dX16_isTalk_6 ⟨by decide, by decide⟩ (Nat.le_of_ble_eq_true rfl) (⟨Nat.le_of_ble_eq_true rfl, Nat.le_of_ble_eq_true rfl⟩) (fun v1 S1 H locs hp w => ?_)
  obtain ⟨rfl, rfl⟩ := hp
  refine lv_iconst (v := 1) hx hb dX16_isTalk_11 (by decide) ?_
  refine lv_isub hx hb dX16_isTalk_12 ?_
  refine cS (S := S) (nA := 3) (As := [.int k, .int 0, .int ((nI nt) - 1)]) (rest := []) X w hl (m_X16_in G S k 0 ((nI nt) - 1)) wY_X16_in wM_X16_224 wSt_X16_in wI_X16 (by decide +kernel) rfl rfl dX16_isTalk_13 ⟨by decide, by decide⟩ (Nat.le_of_ble_eq_true rfl) (⟨Nat.le_of_ble_eq_true rfl, Nat.le_of_ble_eq_true rfl⟩) (fun v2 S1 H locs hp w => ?_)
  obtain ⟨rfl, rfl⟩ := hp
  exact rZ X w rfl dX16_isTalk_16 (b2i_01 _) (by decide) (by decide) (pu_i rfl)

theorem dX16_isReader_0 : decode cX16_isReader 0 = .ok (.iload_n 1, 1) := by decide +kernel
theorem dX16_isReader_1 : decode cX16_isReader 1 = .ok (.iconst 0, 1) := by decide +kernel
theorem dX16_isReader_2 : decode cX16_isReader 2 = .ok (.aload_n 0, 1) := by decide +kernel
theorem dX16_isReader_3 : decode cX16_isReader 3 = .ok (.getfield 29, 3) := by decide +kernel
theorem dX16_isReader_6 : decode cX16_isReader 6 = .ok (.invokeinterface 73 1, 5) := by decide +kernel
theorem dX16_isReader_11 : decode cX16_isReader 11 = .ok (.iconst 1, 1) := by decide +kernel
theorem dX16_isReader_12 : decode cX16_isReader 12 = .ok (.isub, 1) := by decide +kernel
theorem dX16_isReader_13 : decode cX16_isReader 13 = .ok (.invokestatic 224, 3) := by decide +kernel
theorem dX16_isReader_16 : decode cX16_isReader 16 = .ok (.ireturn, 1) := by decide +kernel
abbrev rm_m_X16_isReader : Room := { frames := 1, cells := 0, slots := 0, locals := 22 }
set_option maxHeartbeats 4000000 in
set_option maxRecDepth 100000 in
theorem m_X16_isReader {s0 : State} {l : Launch} {D : va_G} {cy : Nat → ClassId} (G : Gl s0 l D cy) (S : HS) (ea ns nj nm nt nr nq : Nat) (h : RI ea S ns nj nm nt nr nq) (k : Int32) : Ctr s0 l D cy yX16_isReader cX16_isReader 2 (some .boolean) rm_m_X16_isReader S [.ref (gG S 16 0), .int k] (PU S (some (.int (b2i (!(sOut k 0 (nI nr - 1))))))) := by
  refine pro "CavershamShiftModel" G rfl rfl (Nat.le_of_ble_eq_true rfl) (fun p e s m below meth c ls X w hnm hl => ?_)
  have hx := X.1
  have hb := X.2.1
  have hown := X.2.2.2.1
  have hts := X.2.2.2.2.1
  have hl : lv_has ls 2 [(0, .ref (gG S 16 0)), (1, .int k)] := hl
  refine lv_iload_n hx hb dX16_isReader_0 rfl (lv_at hl 1 rfl) ?_
  refine lv_iconst (v := 0) hx hb dX16_isReader_1 (by decide) ?_
  refine lv_aload_n hx hb dX16_isReader_2 rfl (lv_at hl 0 rfl) ?_
  refine g_16_10 (S := S) (x := (some (gG S 17 10))) X w h.v wF_X16_29 (h.f_re) dX16_isReader_3 ?_
  refine cF (S := S) (t := 17) (nA := 0) (As := []) (rest := [.int 0, .int k]) X w hl h.l_re.1 (m_size G S ea 10 nr h.l_re) wY_Jx4a65c_size_8abf5 wM_X16_73 wIn_Jx4a65c_size_8abf5 wSe_Jx4a65c_Jx4a65c_size_8abf5_of_java_util_List_size___I wI_Jx4a65c fw_size (by decide) rfl (by decide +kernel) rfl rfl dX16_isReader_6 ⟨by decide, by decide⟩ (Nat.le_of_ble_eq_true rfl) (⟨Nat.le_of_ble_eq_true rfl, Nat.le_of_ble_eq_true rfl⟩) (fun v1 S1 H locs hp w => ?_)
  obtain ⟨rfl, rfl⟩ := hp
  refine lv_iconst (v := 1) hx hb dX16_isReader_11 (by decide) ?_
  refine lv_isub hx hb dX16_isReader_12 ?_
  refine cS (S := S) (nA := 3) (As := [.int k, .int 0, .int ((nI nr) - 1)]) (rest := []) X w hl (m_X16_in G S k 0 ((nI nr) - 1)) wY_X16_in wM_X16_224 wSt_X16_in wI_X16 (by decide +kernel) rfl rfl dX16_isReader_13 ⟨by decide, by decide⟩ (Nat.le_of_ble_eq_true rfl) (⟨Nat.le_of_ble_eq_true rfl, Nat.le_of_ble_eq_true rfl⟩) (fun v2 S1 H locs hp w => ?_)
  obtain ⟨rfl, rfl⟩ := hp
  exact rZ X w rfl dX16_isReader_16 (b2i_01 _) (by decide) (by decide) (pu_i rfl)

