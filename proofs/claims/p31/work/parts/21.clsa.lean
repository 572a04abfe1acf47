theorem dX0_stationAt_0 : decode cX0_stationAt 0 = .ok (.iload_n 1, 1) := by decide +kernel
theorem dX0_stationAt_1 : decode cX0_stationAt 1 = .ok (.iconst 0, 1) := by decide +kernel
theorem dX0_stationAt_2 : decode cX0_stationAt 2 = .ok (.aload_n 0, 1) := by decide +kernel
theorem dX0_stationAt_3 : decode cX0_stationAt 3 = .ok (.getfield 10, 3) := by decide +kernel
theorem dX0_stationAt_6 : decode cX0_stationAt 6 = .ok (.invokevirtual 19, 3) := by decide +kernel
theorem dX0_stationAt_9 : decode cX0_stationAt 9 = .ok (.iconst 1, 1) := by decide +kernel
theorem dX0_stationAt_10 : decode cX0_stationAt 10 = .ok (.isub, 1) := by decide +kernel
theorem dX0_stationAt_11 : decode cX0_stationAt 11 = .ok (.invokestatic 23, 3) := by decide +kernel
theorem dX0_stationAt_14 : decode cX0_stationAt 14 = .ok (.ifCond .eq 7, 3) := by decide +kernel
theorem dX0_stationAt_17 : decode cX0_stationAt 17 = .ok (.aconst_null, 1) := by decide +kernel
theorem dX0_stationAt_18 : decode cX0_stationAt 18 = .ok (.goto 14, 3) := by decide +kernel
theorem dX0_stationAt_21 : decode cX0_stationAt 21 = .ok (.aload_n 0, 1) := by decide +kernel
theorem dX0_stationAt_22 : decode cX0_stationAt 22 = .ok (.getfield 10, 3) := by decide +kernel
theorem dX0_stationAt_25 : decode cX0_stationAt 25 = .ok (.iload_n 1, 1) := by decide +kernel
theorem dX0_stationAt_26 : decode cX0_stationAt 26 = .ok (.invokevirtual 29, 3) := by decide +kernel
theorem dX0_stationAt_29 : decode cX0_stationAt 29 = .ok (.checkcast 33, 3) := by decide +kernel
theorem dX0_stationAt_32 : decode cX0_stationAt 32 = .ok (.areturn, 1) := by decide +kernel
abbrev rm_m_X0_stationAt : Room := { frames := 3, cells := 0, slots := 0, locals := 64 }
set_option maxHeartbeats 4000000 in
set_option maxRecDepth 100000 in
theorem m_X0_stationAt {s0 : State} {l : Launch} {D : va_G} {cy : Nat → ClassId} (G : Gl s0 l D cy) (S : HS) (ea ns nj nm nt nr nc : Nat) (h : CI ea S ns nj nm nt nr nc) (k : Int32) : Ctr s0 l D cy yX0_stationAt cX0_stationAt 2 (some (.object "CavershamShift$Station")) rm_m_X0_stationAt S [.ref (gG S 0 0), .int k] (AtP S 8 ns k) := by
  refine pro "CavershamShift$Dial" G rfl rfl (Nat.le_of_ble_eq_true rfl) (fun p e s m below meth c ls X w hnm hl => ?_)
  have hx := X.1
  have hb := X.2.1
  have hown := X.2.2.2.1
  have hts := X.2.2.2.2.1
  have hl : lv_has ls 2 [(0, .ref (gG S 0 0)), (1, .int k)] := hl
  refine lv_iload_n hx hb dX0_stationAt_0 rfl (lv_at hl 1 rfl) ?_
  refine lv_iconst (v := 0) hx hb dX0_stationAt_1 (by decide) ?_
  refine lv_aload_n hx hb dX0_stationAt_2 rfl (lv_at hl 0 rfl) ?_
  refine g_0_0 (S := S) (x := (some (gG S 17 0))) X w h.v0 wF_X0_10 (h.f0) dX0_stationAt_3 ?_
  refine cV (S := S) (nA := 0) (As := []) (rest := [.int 0, .int k]) X w hl h.l_st.1 (m_size G S ea 0 ns h.l_st) wY_Jx4a65c_size_8abf5 wM_X0_19 wIn_Jx4a65c_size_8abf5 wSe_Jx4a65c_Jx4a65c_size_8abf5 wI_Jx4a65c (by decide) rfl (by decide +kernel) rfl rfl dX0_stationAt_6 ⟨by decide, by decide⟩ (Nat.le_of_ble_eq_true rfl) (⟨Nat.le_of_ble_eq_true rfl, Nat.le_of_ble_eq_true rfl⟩) (fun v1 S1 H locs hp w => ?_)
  obtain ⟨rfl, rfl⟩ := hp
  refine lv_iconst (v := 1) hx hb dX0_stationAt_9 (by decide) ?_
  refine lv_isub hx hb dX0_stationAt_10 ?_
  refine cSN (S := S) (nA := 3) (As := [.int k, .int 0, .int ((nI ns) - 1)]) (rest := []) X w hl (m_X10_isOutside G S k 0 ((nI ns) - 1)) wY_X10_isOutside wMN_X0_23 wSt_X10_isOutside wI_X10 (by decide +kernel) rfl rfl dX0_stationAt_11 ⟨by decide, by decide⟩ (Nat.le_of_ble_eq_true rfl) (⟨Nat.le_of_ble_eq_true rfl, Nat.le_of_ble_eq_true rfl⟩) (fun v2 S1 H locs hp w => ?_)
  obtain ⟨rfl, rfl⟩ := hp
  refine lv_if_eq (tgt := 21) hx hb dX0_stationAt_14 (by decide) (fun hc => ?_) (fun hc => ?_)
  · have hb1 := h.b_st
    obtain ⟨j, hj, rfl⟩ := out_in (by omega) (b2i_f hc)
    refine lv_aload_n hx hb dX0_stationAt_21 rfl (lv_at hl 0 rfl) ?_
    refine g_0_0 (S := S) (x := (some (gG S 17 0))) X w h.v0 wF_X0_10 (h.f0) dX0_stationAt_22 ?_
    refine lv_iload_n hx hb dX0_stationAt_25 rfl (lv_at hl 1 rfl) ?_
    refine cV (S := S) (nA := 1) (As := [.int (nI j)]) (rest := []) X w hl h.l_st.1 (m_get G S ea 0 j ns (some (gG S 8 j)) h.l_st hj (h.e_st j hj).1) wY_Jx4a65c_get_915e3 wM_X0_29 wIn_Jx4a65c_get_915e3 wSe_Jx4a65c_Jx4a65c_get_915e3 wI_Jx4a65c (by decide) rfl (by decide +kernel) rfl rfl dX0_stationAt_26 ⟨by decide, by decide⟩ (Nat.le_of_ble_eq_true rfl) (⟨Nat.le_of_ble_eq_true rfl, Nat.le_of_ble_eq_true rfl⟩) (fun v3 S1 H locs hp w => ?_)
    obtain ⟨rfl, rfl⟩ := hp
    refine ckC (S := S) (t := 8) X w (h.e_st j hj).2 (by decide) rfl wC_X0_33 dX0_stationAt_29 ?_
    exact rA (v := (some (gG S 8 j))) X w rfl (Or.inl ⟨_, rfl⟩) dX0_stationAt_32 (by decide) (by decide) (by first | exact at_null (b2i_t hc) | exact at_some hj rfl)
  · refine lv_null hx hb dX0_stationAt_17 ?_
    refine lv_goto (tgt := 32) hx hb dX0_stationAt_18 (by decide) ?_
    exact rA (v := none) X w rfl (Or.inl ⟨_, rfl⟩) dX0_stationAt_32 (by decide) (by decide) (by first | exact at_null (b2i_t hc) | exact at_some hj rfl)

theorem dX0_jammerAt_0 : decode cX0_jammerAt 0 = .ok (.iload_n 1, 1) := by decide +kernel
theorem dX0_jammerAt_1 : decode cX0_jammerAt 1 = .ok (.iconst 0, 1) := by decide +kernel
theorem dX0_jammerAt_2 : decode cX0_jammerAt 2 = .ok (.aload_n 0, 1) := by decide +kernel
theorem dX0_jammerAt_3 : decode cX0_jammerAt 3 = .ok (.getfield 16, 3) := by decide +kernel
theorem dX0_jammerAt_6 : decode cX0_jammerAt 6 = .ok (.invokevirtual 19, 3) := by decide +kernel
theorem dX0_jammerAt_9 : decode cX0_jammerAt 9 = .ok (.iconst 1, 1) := by decide +kernel
theorem dX0_jammerAt_10 : decode cX0_jammerAt 10 = .ok (.isub, 1) := by decide +kernel
theorem dX0_jammerAt_11 : decode cX0_jammerAt 11 = .ok (.invokestatic 23, 3) := by decide +kernel
theorem dX0_jammerAt_14 : decode cX0_jammerAt 14 = .ok (.ifCond .eq 7, 3) := by decide +kernel
theorem dX0_jammerAt_17 : decode cX0_jammerAt 17 = .ok (.aconst_null, 1) := by decide +kernel
theorem dX0_jammerAt_18 : decode cX0_jammerAt 18 = .ok (.goto 14, 3) := by decide +kernel
theorem dX0_jammerAt_21 : decode cX0_jammerAt 21 = .ok (.aload_n 0, 1) := by decide +kernel
theorem dX0_jammerAt_22 : decode cX0_jammerAt 22 = .ok (.getfield 16, 3) := by decide +kernel
theorem dX0_jammerAt_25 : decode cX0_jammerAt 25 = .ok (.iload_n 1, 1) := by decide +kernel
theorem dX0_jammerAt_26 : decode cX0_jammerAt 26 = .ok (.invokevirtual 29, 3) := by decide +kernel
theorem dX0_jammerAt_29 : decode cX0_jammerAt 29 = .ok (.checkcast 35, 3) := by decide +kernel
theorem dX0_jammerAt_32 : decode cX0_jammerAt 32 = .ok (.areturn, 1) := by decide +kernel
abbrev rm_m_X0_jammerAt : Room := { frames := 3, cells := 0, slots := 0, locals := 64 }
set_option maxHeartbeats 4000000 in
set_option maxRecDepth 100000 in
theorem m_X0_jammerAt {s0 : State} {l : Launch} {D : va_G} {cy : Nat → ClassId} (G : Gl s0 l D cy) (S : HS) (ea ns nj nm nt nr nc : Nat) (h : CI ea S ns nj nm nt nr nc) (k : Int32) : Ctr s0 l D cy yX0_jammerAt cX0_jammerAt 2 (some (.object "CavershamShift$Jammer")) rm_m_X0_jammerAt S [.ref (gG S 0 0), .int k] (AtP S 1 nj k) := by
  refine pro "CavershamShift$Dial" G rfl rfl (Nat.le_of_ble_eq_true rfl) (fun p e s m below meth c ls X w hnm hl => ?_)
  have hx := X.1
  have hb := X.2.1
  have hown := X.2.2.2.1
  have hts := X.2.2.2.2.1
  have hl : lv_has ls 2 [(0, .ref (gG S 0 0)), (1, .int k)] := hl
  refine lv_iload_n hx hb dX0_jammerAt_0 rfl (lv_at hl 1 rfl) ?_
  refine lv_iconst (v := 0) hx hb dX0_jammerAt_1 (by decide) ?_
  refine lv_aload_n hx hb dX0_jammerAt_2 rfl (lv_at hl 0 rfl) ?_
  refine g_0_1 (S := S) (x := (some (gG S 17 1))) X w h.v0 wF_X0_16 (h.f1) dX0_jammerAt_3 ?_
  refine cV (S := S) (nA := 0) (As := []) (rest := [.int 0, .int k]) X w hl h.l_jm.1 (m_size G S ea 1 nj h.l_jm) wY_Jx4a65c_size_8abf5 wM_X0_19 wIn_Jx4a65c_size_8abf5 wSe_Jx4a65c_Jx4a65c_size_8abf5 wI_Jx4a65c (by decide) rfl (by decide +kernel) rfl rfl dX0_jammerAt_6 ⟨by decide, by decide⟩ (Nat.le_of_ble_eq_true rfl) (⟨Nat.le_of_ble_eq_true rfl, Nat.le_of_ble_eq_true rfl⟩) (fun v1 S1 H locs hp w => ?_)
  obtain ⟨rfl, rfl⟩ := hp
  refine lv_iconst (v := 1) hx hb dX0_jammerAt_9 (by decide) ?_
  refine lv_isub hx hb dX0_jammerAt_10 ?_
  refine cSN (S := S) (nA := 3) (As := [.int k, .int 0, .int ((nI nj) - 1)]) (rest := []) X w hl (m_X10_isOutside G S k 0 ((nI nj) - 1)) wY_X10_isOutside wMN_X0_23 wSt_X10_isOutside wI_X10 (by decide +kernel) rfl rfl dX0_jammerAt_11 ⟨by decide, by decide⟩ (Nat.le_of_ble_eq_true rfl) (⟨Nat.le_of_ble_eq_true rfl, Nat.le_of_ble_eq_true rfl⟩) (fun v2 S1 H locs hp w => ?_)
  obtain ⟨rfl, rfl⟩ := hp
  refine lv_if_eq (tgt := 21) hx hb dX0_jammerAt_14 (by decide) (fun hc => ?_) (fun hc => ?_)
  · have hb1 := h.b_jm
    obtain ⟨j, hj, rfl⟩ := out_in (by omega) (b2i_f hc)
    refine lv_aload_n hx hb dX0_jammerAt_21 rfl (lv_at hl 0 rfl) ?_
    refine g_0_1 (S := S) (x := (some (gG S 17 1))) X w h.v0 wF_X0_16 (h.f1) dX0_jammerAt_22 ?_
    refine lv_iload_n hx hb dX0_jammerAt_25 rfl (lv_at hl 1 rfl) ?_
    refine cV (S := S) (nA := 1) (As := [.int (nI j)]) (rest := []) X w hl h.l_jm.1 (m_get G S ea 1 j nj (some (gG S 1 j)) h.l_jm hj (h.e_jm j hj).1) wY_Jx4a65c_get_915e3 wM_X0_29 wIn_Jx4a65c_get_915e3 wSe_Jx4a65c_Jx4a65c_get_915e3 wI_Jx4a65c (by decide) rfl (by decide +kernel) rfl rfl dX0_jammerAt_26 ⟨by decide, by decide⟩ (Nat.le_of_ble_eq_true rfl) (⟨Nat.le_of_ble_eq_true rfl, Nat.le_of_ble_eq_true rfl⟩) (fun v3 S1 H locs hp w => ?_)
    obtain ⟨rfl, rfl⟩ := hp
    refine ckC (S := S) (t := 1) X w (h.e_jm j hj).2 (by decide) rfl wC_X0_35 dX0_jammerAt_29 ?_
    exact rA (v := (some (gG S 1 j))) X w rfl (Or.inl ⟨_, rfl⟩) dX0_jammerAt_32 (by decide) (by decide) (by first | exact at_null (b2i_t hc) | exact at_some hj rfl)
  · refine lv_null hx hb dX0_jammerAt_17 ?_
    refine lv_goto (tgt := 32) hx hb dX0_jammerAt_18 (by decide) ?_
    exact rA (v := none) X w rfl (Or.inl ⟨_, rfl⟩) dX0_jammerAt_32 (by decide) (by decide) (by first | exact at_null (b2i_t hc) | exact at_some hj rfl)

theorem dX7_monitorAt_0 : decode cX7_monitorAt 0 = .ok (.iload_n 1, 1) := by decide +kernel
theorem dX7_monitorAt_1 : decode cX7_monitorAt 1 = .ok (.iconst 0, 1) := by decide +kernel
theorem dX7_monitorAt_2 : decode cX7_monitorAt 2 = .ok (.aload_n 0, 1) := by decide +kernel
theorem dX7_monitorAt_3 : decode cX7_monitorAt 3 = .ok (.getfield 12, 3) := by decide +kernel
theorem dX7_monitorAt_6 : decode cX7_monitorAt 6 = .ok (.invokevirtual 35, 3) := by decide +kernel
theorem dX7_monitorAt_9 : decode cX7_monitorAt 9 = .ok (.iconst 1, 1) := by decide +kernel
theorem dX7_monitorAt_10 : decode cX7_monitorAt 10 = .ok (.isub, 1) := by decide +kernel
theorem dX7_monitorAt_11 : decode cX7_monitorAt 11 = .ok (.invokestatic 39, 3) := by decide +kernel
theorem dX7_monitorAt_14 : decode cX7_monitorAt 14 = .ok (.ifCond .eq 7, 3) := by decide +kernel
theorem dX7_monitorAt_17 : decode cX7_monitorAt 17 = .ok (.aconst_null, 1) := by decide +kernel
theorem dX7_monitorAt_18 : decode cX7_monitorAt 18 = .ok (.goto 14, 3) := by decide +kernel
theorem dX7_monitorAt_21 : decode cX7_monitorAt 21 = .ok (.aload_n 0, 1) := by decide +kernel
theorem dX7_monitorAt_22 : decode cX7_monitorAt 22 = .ok (.getfield 12, 3) := by decide +kernel
theorem dX7_monitorAt_25 : decode cX7_monitorAt 25 = .ok (.iload_n 1, 1) := by decide +kernel
theorem dX7_monitorAt_26 : decode cX7_monitorAt 26 = .ok (.invokevirtual 43, 3) := by decide +kernel
theorem dX7_monitorAt_29 : decode cX7_monitorAt 29 = .ok (.checkcast 47, 3) := by decide +kernel
theorem dX7_monitorAt_32 : decode cX7_monitorAt 32 = .ok (.areturn, 1) := by decide +kernel
abbrev rm_m_X7_monitorAt : Room := { frames := 3, cells := 0, slots := 0, locals := 64 }
set_option maxHeartbeats 4000000 in
set_option maxRecDepth 100000 in
theorem m_X7_monitorAt {s0 : State} {l : Launch} {D : va_G} {cy : Nat → ClassId} (G : Gl s0 l D cy) (S : HS) (ea ns nj nm nt nr nc : Nat) (h : CI ea S ns nj nm nt nr nc) (k : Int32) : Ctr s0 l D cy yX7_monitorAt cX7_monitorAt 2 (some (.object "CavershamShift$Monitor")) rm_m_X7_monitorAt S [.ref (gG S 7 0), .int k] (AtP S 3 nm k) := by
  refine pro "CavershamShift$Room" G rfl rfl (Nat.le_of_ble_eq_true rfl) (fun p e s m below meth c ls X w hnm hl => ?_)
  have hx := X.1
  have hb := X.2.1
  have hown := X.2.2.2.1
  have hts := X.2.2.2.2.1
  have hl : lv_has ls 2 [(0, .ref (gG S 7 0)), (1, .int k)] := hl
  refine lv_iload_n hx hb dX7_monitorAt_0 rfl (lv_at hl 1 rfl) ?_
  refine lv_iconst (v := 0) hx hb dX7_monitorAt_1 (by decide) ?_
  refine lv_aload_n hx hb dX7_monitorAt_2 rfl (lv_at hl 0 rfl) ?_
  refine g_7_1 (S := S) (x := (some (gG S 17 2))) X w h.v7 wF_X7_12 (h.f113) dX7_monitorAt_3 ?_
  refine cV (S := S) (nA := 0) (As := []) (rest := [.int 0, .int k]) X w hl h.l_mo.1 (m_size G S ea 2 nm h.l_mo) wY_Jx4a65c_size_8abf5 wM_X7_35 wIn_Jx4a65c_size_8abf5 wSe_Jx4a65c_Jx4a65c_size_8abf5 wI_Jx4a65c (by decide) rfl (by decide +kernel) rfl rfl dX7_monitorAt_6 ⟨by decide, by decide⟩ (Nat.le_of_ble_eq_true rfl) (⟨Nat.le_of_ble_eq_true rfl, Nat.le_of_ble_eq_true rfl⟩) (fun v1 S1 H locs hp w => ?_)
  obtain ⟨rfl, rfl⟩ := hp
  refine lv_iconst (v := 1) hx hb dX7_monitorAt_9 (by decide) ?_
  refine lv_isub hx hb dX7_monitorAt_10 ?_
  refine cSN (S := S) (nA := 3) (As := [.int k, .int 0, .int ((nI nm) - 1)]) (rest := []) X w hl (m_X10_isOutside G S k 0 ((nI nm) - 1)) wY_X10_isOutside wMN_X7_39 wSt_X10_isOutside wI_X10 (by decide +kernel) rfl rfl dX7_monitorAt_11 ⟨by decide, by decide⟩ (Nat.le_of_ble_eq_true rfl) (⟨Nat.le_of_ble_eq_true rfl, Nat.le_of_ble_eq_true rfl⟩) (fun v2 S1 H locs hp w => ?_)
  obtain ⟨rfl, rfl⟩ := hp
  refine lv_if_eq (tgt := 21) hx hb dX7_monitorAt_14 (by decide) (fun hc => ?_) (fun hc => ?_)
  · have hb1 := h.b_mo
    obtain ⟨j, hj, rfl⟩ := out_in (by omega) (b2i_f hc)
    refine lv_aload_n hx hb dX7_monitorAt_21 rfl (lv_at hl 0 rfl) ?_
    refine g_7_1 (S := S) (x := (some (gG S 17 2))) X w h.v7 wF_X7_12 (h.f113) dX7_monitorAt_22 ?_
    refine lv_iload_n hx hb dX7_monitorAt_25 rfl (lv_at hl 1 rfl) ?_
    refine cV (S := S) (nA := 1) (As := [.int (nI j)]) (rest := []) X w hl h.l_mo.1 (m_get G S ea 2 j nm (some (gG S 3 j)) h.l_mo hj (h.e_mo j hj).1) wY_Jx4a65c_get_915e3 wM_X7_43 wIn_Jx4a65c_get_915e3 wSe_Jx4a65c_Jx4a65c_get_915e3 wI_Jx4a65c (by decide) rfl (by decide +kernel) rfl rfl dX7_monitorAt_26 ⟨by decide, by decide⟩ (Nat.le_of_ble_eq_true rfl) (⟨Nat.le_of_ble_eq_true rfl, Nat.le_of_ble_eq_true rfl⟩) (fun v3 S1 H locs hp w => ?_)
    obtain ⟨rfl, rfl⟩ := hp
    refine ckC (S := S) (t := 3) X w (h.e_mo j hj).2 (by decide) rfl wC_X7_47 dX7_monitorAt_29 ?_
    exact rA (v := (some (gG S 3 j))) X w rfl (Or.inl ⟨_, rfl⟩) dX7_monitorAt_32 (by decide) (by decide) (by first | exact at_null (b2i_t hc) | exact at_some hj rfl)
  · refine lv_null hx hb dX7_monitorAt_17 ?_
    refine lv_goto (tgt := 32) hx hb dX7_monitorAt_18 (by decide) ?_
    exact rA (v := none) X w rfl (Or.inl ⟨_, rfl⟩) dX7_monitorAt_32 (by decide) (by decide) (by first | exact at_null (b2i_t hc) | exact at_some hj rfl)

theorem dX4_talkAt_0 : decode cX4_talkAt 0 = .ok (.iload_n 1, 1) := by decide +kernel
theorem dX4_talkAt_1 : decode cX4_talkAt 1 = .ok (.iconst 0, 1) := by decide +kernel
theorem dX4_talkAt_2 : decode cX4_talkAt 2 = .ok (.aload_n 0, 1) := by decide +kernel
theorem dX4_talkAt_3 : decode cX4_talkAt 3 = .ok (.getfield 12, 3) := by decide +kernel
theorem dX4_talkAt_6 : decode cX4_talkAt 6 = .ok (.invokevirtual 28, 3) := by decide +kernel
theorem dX4_talkAt_9 : decode cX4_talkAt 9 = .ok (.iconst 1, 1) := by decide +kernel
theorem dX4_talkAt_10 : decode cX4_talkAt 10 = .ok (.isub, 1) := by decide +kernel
theorem dX4_talkAt_11 : decode cX4_talkAt 11 = .ok (.invokestatic 32, 3) := by decide +kernel
theorem dX4_talkAt_14 : decode cX4_talkAt 14 = .ok (.ifCond .eq 7, 3) := by decide +kernel
theorem dX4_talkAt_17 : decode cX4_talkAt 17 = .ok (.aconst_null, 1) := by decide +kernel
theorem dX4_talkAt_18 : decode cX4_talkAt 18 = .ok (.goto 14, 3) := by decide +kernel
theorem dX4_talkAt_21 : decode cX4_talkAt 21 = .ok (.aload_n 0, 1) := by decide +kernel
theorem dX4_talkAt_22 : decode cX4_talkAt 22 = .ok (.getfield 12, 3) := by decide +kernel
theorem dX4_talkAt_25 : decode cX4_talkAt 25 = .ok (.iload_n 1, 1) := by decide +kernel
theorem dX4_talkAt_26 : decode cX4_talkAt 26 = .ok (.invokevirtual 36, 3) := by decide +kernel
theorem dX4_talkAt_29 : decode cX4_talkAt 29 = .ok (.checkcast 40, 3) := by decide +kernel
theorem dX4_talkAt_32 : decode cX4_talkAt 32 = .ok (.areturn, 1) := by decide +kernel
abbrev rm_m_X4_talkAt : Room := { frames := 3, cells := 0, slots := 0, locals := 64 }
set_option maxHeartbeats 4000000 in
set_option maxRecDepth 100000 in
theorem m_X4_talkAt {s0 : State} {l : Launch} {D : va_G} {cy : Nat → ClassId} (G : Gl s0 l D cy) (S : HS) (ea ns nj nm nt nr nc : Nat) (h : CI ea S ns nj nm nt nr nc) (k : Int32) : Ctr s0 l D cy yX4_talkAt cX4_talkAt 2 (some (.object "CavershamShift$Talk")) rm_m_X4_talkAt S [.ref (gG S 4 0), .int k] (AtP S 9 nt k) := by
  refine pro "CavershamShift$Newsroom" G rfl rfl (Nat.le_of_ble_eq_true rfl) (fun p e s m below meth c ls X w hnm hl => ?_)
  have hx := X.1
  have hb := X.2.1
  have hown := X.2.2.2.1
  have hts := X.2.2.2.2.1
  have hl : lv_has ls 2 [(0, .ref (gG S 4 0)), (1, .int k)] := hl
  refine lv_iload_n hx hb dX4_talkAt_0 rfl (lv_at hl 1 rfl) ?_
  refine lv_iconst (v := 0) hx hb dX4_talkAt_1 (by decide) ?_
  refine lv_aload_n hx hb dX4_talkAt_2 rfl (lv_at hl 0 rfl) ?_
  refine g_4_0 (S := S) (x := (some (gG S 17 3))) X w h.v4 wF_X4_12 (h.f64) dX4_talkAt_3 ?_
  refine cV (S := S) (nA := 0) (As := []) (rest := [.int 0, .int k]) X w hl h.l_ta.1 (m_size G S ea 3 nt h.l_ta) wY_Jx4a65c_size_8abf5 wM_X4_28 wIn_Jx4a65c_size_8abf5 wSe_Jx4a65c_Jx4a65c_size_8abf5 wI_Jx4a65c (by decide) rfl (by decide +kernel) rfl rfl dX4_talkAt_6 ⟨by decide, by decide⟩ (Nat.le_of_ble_eq_true rfl) (⟨Nat.le_of_ble_eq_true rfl, Nat.le_of_ble_eq_true rfl⟩) (fun v1 S1 H locs hp w => ?_)
  obtain ⟨rfl, rfl⟩ := hp
  refine lv_iconst (v := 1) hx hb dX4_talkAt_9 (by decide) ?_
  refine lv_isub hx hb dX4_talkAt_10 ?_
  refine cSN (S := S) (nA := 3) (As := [.int k, .int 0, .int ((nI nt) - 1)]) (rest := []) X w hl (m_X10_isOutside G S k 0 ((nI nt) - 1)) wY_X10_isOutside wMN_X4_32 wSt_X10_isOutside wI_X10 (by decide +kernel) rfl rfl dX4_talkAt_11 ⟨by decide, by decide⟩ (Nat.le_of_ble_eq_true rfl) (⟨Nat.le_of_ble_eq_true rfl, Nat.le_of_ble_eq_true rfl⟩) (fun v2 S1 H locs hp w => ?_)
  obtain ⟨rfl, rfl⟩ := hp
  refine lv_if_eq (tgt := 21) hx hb dX4_talkAt_14 (by decide) (fun hc => ?_) (fun hc => ?_)
  · have hb1 := h.b_ta
    obtain ⟨j, hj, rfl⟩ := out_in (by omega) (b2i_f hc)
    refine lv_aload_n hx hb dX4_talkAt_21 rfl (lv_at hl 0 rfl) ?_
    refine g_4_0 (S := S) (x := (some (gG S 17 3))) X w h.v4 wF_X4_12 (h.f64) dX4_talkAt_22 ?_
    refine lv_iload_n hx hb dX4_talkAt_25 rfl (lv_at hl 1 rfl) ?_
    refine cV (S := S) (nA := 1) (As := [.int (nI j)]) (rest := []) X w hl h.l_ta.1 (m_get G S ea 3 j nt (some (gG S 9 j)) h.l_ta hj (h.e_ta j hj).1) wY_Jx4a65c_get_915e3 wM_X4_36 wIn_Jx4a65c_get_915e3 wSe_Jx4a65c_Jx4a65c_get_915e3 wI_Jx4a65c (by decide) rfl (by decide +kernel) rfl rfl dX4_talkAt_26 ⟨by decide, by decide⟩ (Nat.le_of_ble_eq_true rfl) (⟨Nat.le_of_ble_eq_true rfl, Nat.le_of_ble_eq_true rfl⟩) (fun v3 S1 H locs hp w => ?_)
    obtain ⟨rfl, rfl⟩ := hp
    refine ckC (S := S) (t := 9) X w (h.e_ta j hj).2 (by decide) rfl wC_X4_40 dX4_talkAt_29 ?_
    exact rA (v := (some (gG S 9 j))) X w rfl (Or.inl ⟨_, rfl⟩) dX4_talkAt_32 (by decide) (by decide) (by first | exact at_null (b2i_t hc) | exact at_some hj rfl)
  · refine lv_null hx hb dX4_talkAt_17 ?_
    refine lv_goto (tgt := 32) hx hb dX4_talkAt_18 (by decide) ?_
    exact rA (v := none) X w rfl (Or.inl ⟨_, rfl⟩) dX4_talkAt_32 (by decide) (by decide) (by first | exact at_null (b2i_t hc) | exact at_some hj rfl)

theorem dX4_readerAt_0 : decode cX4_readerAt 0 = .ok (.iload_n 1, 1) := by decide +kernel
theorem dX4_readerAt_1 : decode cX4_readerAt 1 = .ok (.iconst 0, 1) := by decide +kernel
theorem dX4_readerAt_2 : decode cX4_readerAt 2 = .ok (.aload_n 0, 1) := by decide +kernel
theorem dX4_readerAt_3 : decode cX4_readerAt 3 = .ok (.getfield 18, 3) := by decide +kernel
theorem dX4_readerAt_6 : decode cX4_readerAt 6 = .ok (.invokevirtual 28, 3) := by decide +kernel
theorem dX4_readerAt_9 : decode cX4_readerAt 9 = .ok (.iconst 1, 1) := by decide +kernel
theorem dX4_readerAt_10 : decode cX4_readerAt 10 = .ok (.isub, 1) := by decide +kernel
theorem dX4_readerAt_11 : decode cX4_readerAt 11 = .ok (.invokestatic 32, 3) := by decide +kernel
theorem dX4_readerAt_14 : decode cX4_readerAt 14 = .ok (.ifCond .eq 7, 3) := by decide +kernel
theorem dX4_readerAt_17 : decode cX4_readerAt 17 = .ok (.aconst_null, 1) := by decide +kernel
theorem dX4_readerAt_18 : decode cX4_readerAt 18 = .ok (.goto 14, 3) := by decide +kernel
theorem dX4_readerAt_21 : decode cX4_readerAt 21 = .ok (.aload_n 0, 1) := by decide +kernel
theorem dX4_readerAt_22 : decode cX4_readerAt 22 = .ok (.getfield 18, 3) := by decide +kernel
theorem dX4_readerAt_25 : decode cX4_readerAt 25 = .ok (.iload_n 1, 1) := by decide +kernel
theorem dX4_readerAt_26 : decode cX4_readerAt 26 = .ok (.invokevirtual 36, 3) := by decide +kernel
theorem dX4_readerAt_29 : decode cX4_readerAt 29 = .ok (.checkcast 42, 3) := by decide +kernel
theorem dX4_readerAt_32 : decode cX4_readerAt 32 = .ok (.areturn, 1) := by decide +kernel
abbrev rm_m_X4_readerAt : Room := { frames := 3, cells := 0, slots := 0, locals := 64 }
set_option maxHeartbeats 4000000 in
set_option maxRecDepth 100000 in
theorem m_X4_readerAt {s0 : State} {l : Launch} {D : va_G} {cy : Nat → ClassId} (G : Gl s0 l D cy) (S : HS) (ea ns nj nm nt nr nc : Nat) (h : CI ea S ns nj nm nt nr nc) (k : Int32) : Ctr s0 l D cy yX4_readerAt cX4_readerAt 2 (some (.object "CavershamShift$Reader")) rm_m_X4_readerAt S [.ref (gG S 4 0), .int k] (AtP S 5 nr k) := by
  refine pro "CavershamShift$Newsroom" G rfl rfl (Nat.le_of_ble_eq_true rfl) (fun p e s m below meth c ls X w hnm hl => ?_)
  have hx := X.1
  have hb := X.2.1
  have hown := X.2.2.2.1
  have hts := X.2.2.2.2.1
  have hl : lv_has ls 2 [(0, .ref (gG S 4 0)), (1, .int k)] := hl
  refine lv_iload_n hx hb dX4_readerAt_0 rfl (lv_at hl 1 rfl) ?_
  refine lv_iconst (v := 0) hx hb dX4_readerAt_1 (by decide) ?_
  refine lv_aload_n hx hb dX4_readerAt_2 rfl (lv_at hl 0 rfl) ?_
  refine g_4_1 (S := S) (x := (some (gG S 17 4))) X w h.v4 wF_X4_18 (h.f65) dX4_readerAt_3 ?_
  refine cV (S := S) (nA := 0) (As := []) (rest := [.int 0, .int k]) X w hl h.l_re.1 (m_size G S ea 4 nr h.l_re) wY_Jx4a65c_size_8abf5 wM_X4_28 wIn_Jx4a65c_size_8abf5 wSe_Jx4a65c_Jx4a65c_size_8abf5 wI_Jx4a65c (by decide) rfl (by decide +kernel) rfl rfl dX4_readerAt_6 ⟨by decide, by decide⟩ (Nat.le_of_ble_eq_true rfl) (⟨Nat.le_of_ble_eq_true rfl, Nat.le_of_ble_eq_true rfl⟩) (fun v1 S1 H locs hp w => ?_)
  obtain ⟨rfl, rfl⟩ := hp
  refine lv_iconst (v := 1) hx hb dX4_readerAt_9 (by decide) ?_
  refine lv_isub hx hb dX4_readerAt_10 ?_
  refine cSN (S := S) (nA := 3) (As := [.int k, .int 0, .int ((nI nr) - 1)]) (rest := []) X w hl (m_X10_isOutside G S k 0 ((nI nr) - 1)) wY_X10_isOutside wMN_X4_32 wSt_X10_isOutside wI_X10 (by decide +kernel) rfl rfl dX4_readerAt_11 ⟨by decide, by decide⟩ (Nat.le_of_ble_eq_true rfl) (⟨Nat.le_of_ble_eq_true rfl, Nat.le_of_ble_eq_true rfl⟩) (fun v2 S1 H locs hp w => ?_)
  obtain ⟨rfl, rfl⟩ := hp
  refine lv_if_eq (tgt := 21) hx hb dX4_readerAt_14 (by decide) (fun hc => ?_) (fun hc => ?_)
  · have hb1 := h.b_re
    obtain ⟨j, hj, rfl⟩ := out_in (by omega) (b2i_f hc)
    refine lv_aload_n hx hb dX4_readerAt_21 rfl (lv_at hl 0 rfl) ?_
    refine g_4_1 (S := S) (x := (some (gG S 17 4))) X w h.v4 wF_X4_18 (h.f65) dX4_readerAt_22 ?_
    refine lv_iload_n hx hb dX4_readerAt_25 rfl (lv_at hl 1 rfl) ?_
    refine cV (S := S) (nA := 1) (As := [.int (nI j)]) (rest := []) X w hl h.l_re.1 (m_get G S ea 4 j nr (some (gG S 5 j)) h.l_re hj (h.e_re j hj).1) wY_Jx4a65c_get_915e3 wM_X4_36 wIn_Jx4a65c_get_915e3 wSe_Jx4a65c_Jx4a65c_get_915e3 wI_Jx4a65c (by decide) rfl (by decide +kernel) rfl rfl dX4_readerAt_26 ⟨by decide, by decide⟩ (Nat.le_of_ble_eq_true rfl) (⟨Nat.le_of_ble_eq_true rfl, Nat.le_of_ble_eq_true rfl⟩) (fun v3 S1 H locs hp w => ?_)
    obtain ⟨rfl, rfl⟩ := hp
    refine ckC (S := S) (t := 5) X w (h.e_re j hj).2 (by decide) rfl wC_X4_42 dX4_readerAt_29 ?_
    exact rA (v := (some (gG S 5 j))) X w rfl (Or.inl ⟨_, rfl⟩) dX4_readerAt_32 (by decide) (by decide) (by first | exact at_null (b2i_t hc) | exact at_some hj rfl)
  · refine lv_null hx hb dX4_readerAt_17 ?_
    refine lv_goto (tgt := 32) hx hb dX4_readerAt_18 (by decide) ?_
    exact rA (v := none) X w rfl (Or.inl ⟨_, rfl⟩) dX4_readerAt_32 (by decide) (by decide) (by first | exact at_null (b2i_t hc) | exact at_some hj rfl)

theorem dX8_isOnAir_0 : decode cX8_isOnAir 0 = .ok (.aload_n 0, 1) := by decide +kernel
theorem dX8_isOnAir_1 : decode cX8_isOnAir 1 = .ok (.getfield 28, 3) := by decide +kernel
theorem dX8_isOnAir_4 : decode cX8_isOnAir 4 = .ok (.iload_n 1, 1) := by decide +kernel
theorem dX8_isOnAir_5 : decode cX8_isOnAir 5 = .ok (.ishr, 1) := by decide +kernel
theorem dX8_isOnAir_6 : decode cX8_isOnAir 6 = .ok (.iconst 1, 1) := by decide +kernel
theorem dX8_isOnAir_7 : decode cX8_isOnAir 7 = .ok (.iand, 1) := by decide +kernel
theorem dX8_isOnAir_8 : decode cX8_isOnAir 8 = .ok (.iconst 1, 1) := by decide +kernel
theorem dX8_isOnAir_9 : decode cX8_isOnAir 9 = .ok (.if_icmp .ne 7, 3) := by decide +kernel
theorem dX8_isOnAir_12 : decode cX8_isOnAir 12 = .ok (.iconst 1, 1) := by decide +kernel
theorem dX8_isOnAir_13 : decode cX8_isOnAir 13 = .ok (.goto 4, 3) := by decide +kernel
theorem dX8_isOnAir_16 : decode cX8_isOnAir 16 = .ok (.iconst 0, 1) := by decide +kernel
theorem dX8_isOnAir_17 : decode cX8_isOnAir 17 = .ok (.ireturn, 1) := by decide +kernel
abbrev rm_m_X8_isOnAir : Room := { frames := 0, cells := 0, slots := 0, locals := 0 }
set_option maxHeartbeats 4000000 in
set_option maxRecDepth 100000 in
theorem m_X8_isOnAir {s0 : State} {l : Launch} {D : va_G} {cy : Nat → ClassId} (G : Gl s0 l D cy) (S : HS) (ea ns nj nm nt nr nc : Nat) (h : CI ea S ns nj nm nt nr nc) (i : Nat) (hi : i < ns) (a : Int32) : Ctr s0 l D cy yX8_isOnAir cX8_isOnAir 2 (some .boolean) rm_m_X8_isOnAir S [.ref (gG S 8 i), .int a] (PU S (some (.int (b2i (sIn (mI S 134 i) a))))) := by
  refine pro "CavershamShift$Station" G rfl rfl (Nat.le_of_ble_eq_true rfl) (fun p e s m below meth c ls X w hnm hl => ?_)
  have hx := X.1
  have hb := X.2.1
  have hown := X.2.2.2.1
  have hts := X.2.2.2.2.1
  have hl : lv_has ls 2 [(0, .ref (gG S 8 i)), (1, .int a)] := hl
  refine lv_aload_n hx hb dX8_isOnAir_0 rfl (lv_at hl 0 rfl) ?_
  refine g_8_6 (S := S) (x := (mI S 134 i)) X w (h.e_st i hi).2 wF_X8_28 (rfl) dX8_isOnAir_1 ?_
  refine lv_iload_n hx hb dX8_isOnAir_4 rfl (lv_at hl 1 rfl) ?_
  refine lv_ishr hx hb dX8_isOnAir_5 ?_
  refine lv_iconst (v := 1) hx hb dX8_isOnAir_6 (by decide) ?_
  refine lv_iand hx hb dX8_isOnAir_7 ?_
  refine lv_iconst (v := 1) hx hb dX8_isOnAir_8 (by decide) ?_
  refine lv_icmp_ne (tgt := 16) hx hb dX8_isOnAir_9 (by decide) (fun hc1 => ?_) (fun hc1 => ?_)
  · refine lv_iconst (v := 0) hx hb dX8_isOnAir_16 (by decide) ?_
    exact rZ X w rfl dX8_isOnAir_17 (by decide) (by decide) (by decide) (pu_i (by simp_all [sIn, b2i]))
  · refine lv_iconst (v := 1) hx hb dX8_isOnAir_12 (by decide) ?_
    refine lv_goto (tgt := 17) hx hb dX8_isOnAir_13 (by decide) ?_
    exact rZ X w rfl dX8_isOnAir_17 (by decide) (by decide) (by decide) (pu_i (by simp_all [sIn, b2i]))

theorem dX10_hourOfDay_0 : decode cX10_hourOfDay 0 = .ok (.aload_n 0, 1) := by decide +kernel
theorem dX10_hourOfDay_1 : decode cX10_hourOfDay 1 = .ok (.getfield 41, 3) := by decide +kernel
theorem dX10_hourOfDay_4 : decode cX10_hourOfDay 4 = .ok (.bipush 24, 2) := by decide +kernel
theorem dX10_hourOfDay_6 : decode cX10_hourOfDay 6 = .ok (.irem, 1) := by decide +kernel
theorem dX10_hourOfDay_7 : decode cX10_hourOfDay 7 = .ok (.ireturn, 1) := by decide +kernel
abbrev rm_m_X10_hourOfDay : Room := { frames := 0, cells := 0, slots := 0, locals := 0 }
set_option maxHeartbeats 4000000 in
set_option maxRecDepth 100000 in
theorem m_X10_hourOfDay {s0 : State} {l : Launch} {D : va_G} {cy : Nat → ClassId} (G : Gl s0 l D cy) (S : HS) (ea ns nj nm nt nr nc : Nat) (h : CI ea S ns nj nm nt nr nc)  : Ctr s0 l D cy yX10_hourOfDay cX10_hourOfDay 1 (some .int) rm_m_X10_hourOfDay S [.ref (gG S 10 0)] (PU S (some (.int (mI S 164 0 - mI S 164 0 / 24 * 24)))) := by
  refine pro "CavershamShift" G rfl rfl (Nat.le_of_ble_eq_true rfl) (fun p e s m below meth c ls X w hnm hl => ?_)
  have hx := X.1
  have hb := X.2.1
  have hown := X.2.2.2.1
  have hts := X.2.2.2.2.1
  have hl : lv_has ls 1 [(0, .ref (gG S 10 0))] := hl
  refine lv_aload_n hx hb dX10_hourOfDay_0 rfl (lv_at hl 0 rfl) ?_
  refine g_10_4 (S := S) (x := (mI S 164 0)) X w h.v10 wF_X10_41 (rfl) dX10_hourOfDay_1 ?_
  refine lv_bipush (v := 24) hx hb dX10_hourOfDay_4 (by decide) ?_
  refine lv_irem hx hb dX10_hourOfDay_6 (by decide) ?_
  exact rI X w rfl dX10_hourOfDay_7 (by decide) (by decide) (pu_i rfl)

theorem dX10_day_0 : decode cX10_day 0 = .ok (.aload_n 0, 1) := by decide +kernel
theorem dX10_day_1 : decode cX10_day 1 = .ok (.getfield 41, 3) := by decide +kernel
theorem dX10_day_4 : decode cX10_day 4 = .ok (.bipush 24, 2) := by decide +kernel
theorem dX10_day_6 : decode cX10_day 6 = .ok (.idiv, 1) := by decide +kernel
theorem dX10_day_7 : decode cX10_day 7 = .ok (.ireturn, 1) := by decide +kernel
abbrev rm_m_X10_day : Room := { frames := 0, cells := 0, slots := 0, locals := 0 }
set_option maxHeartbeats 4000000 in
set_option maxRecDepth 100000 in
theorem m_X10_day {s0 : State} {l : Launch} {D : va_G} {cy : Nat → ClassId} (G : Gl s0 l D cy) (S : HS) (ea ns nj nm nt nr nc : Nat) (h : CI ea S ns nj nm nt nr nc)  : Ctr s0 l D cy yX10_day cX10_day 1 (some .int) rm_m_X10_day S [.ref (gG S 10 0)] (PU S (some (.int (mI S 164 0 / 24)))) := by
  refine pro "CavershamShift" G rfl rfl (Nat.le_of_ble_eq_true rfl) (fun p e s m below meth c ls X w hnm hl => ?_)
  have hx := X.1
  have hb := X.2.1
  have hown := X.2.2.2.1
  have hts := X.2.2.2.2.1
  have hl : lv_has ls 1 [(0, .ref (gG S 10 0))] := hl
  refine lv_aload_n hx hb dX10_day_0 rfl (lv_at hl 0 rfl) ?_
  refine g_10_4 (S := S) (x := (mI S 164 0)) X w h.v10 wF_X10_41 (rfl) dX10_day_1 ?_
  refine lv_bipush (v := 24) hx hb dX10_day_4 (by decide) ?_
  refine lv_idiv hx hb dX10_day_6 (by decide) ?_
  exact rI X w rfl dX10_day_7 (by decide) (by decide) (pu_i rfl)

def cIsSlot (a b : Int32) : Bool := !(sOut a 0 23) && !(sOut b 0 2)
def cSlot (S : HS) (r : Nat) (a b : Int32) : Int32 := if cIsSlot a b = true then mA S 32 r (a * 3 + b).toNatClampNeg else -1
theorem slot_in {a b : Int32} (h : cIsSlot a b = true) : ∃ x y : Nat, x < 24 ∧ y < 3 ∧ a = nI x ∧ b = nI y ∧ a * 3 + b = nI (x * 3 + y) := by
  unfold cIsSlot at h
  rw [Bool.and_eq_true] at h
  obtain ⟨x, hx, rfl⟩ := out_in (n := 24) (by decide) (by rw [show (nI 24 - 1 : Int32) = 23 by decide]; simpa using h.1)
  obtain ⟨y, hy, rfl⟩ := out_in (n := 3) (by decide) (by rw [show (nI 3 - 1 : Int32) = 2 by decide]; simpa using h.2)
  refine ⟨x, y, hx, hy, rfl, rfl, ?_⟩
  rw [show (3 : Int32) = nI 3 from rfl, pk_mul, nI_add]
theorem slot_vp {a b : Int32} (h : cIsSlot a b = true) : vp_in (a * 3 + b) 72 := by
  obtain ⟨x, y, hx, hy, -, -, e⟩ := slot_in h
  rw [e]; exact nI_vp (by omega) (by decide)

theorem dX7_isSlot_0 : decode cX7_isSlot 0 = .ok (.iload_n 0, 1) := by decide +kernel
theorem dX7_isSlot_1 : decode cX7_isSlot 1 = .ok (.iconst 0, 1) := by decide +kernel
theorem dX7_isSlot_2 : decode cX7_isSlot 2 = .ok (.bipush 23, 2) := by decide +kernel
theorem dX7_isSlot_4 : decode cX7_isSlot 4 = .ok (.invokestatic 39, 3) := by decide +kernel
theorem dX7_isSlot_7 : decode cX7_isSlot 7 = .ok (.ifCond .ne 16, 3) := by decide +kernel
theorem dX7_isSlot_10 : decode cX7_isSlot 10 = .ok (.iload_n 1, 1) := by decide +kernel
theorem dX7_isSlot_11 : decode cX7_isSlot 11 = .ok (.iconst 0, 1) := by decide +kernel
theorem dX7_isSlot_12 : decode cX7_isSlot 12 = .ok (.iconst 2, 1) := by decide +kernel
theorem dX7_isSlot_13 : decode cX7_isSlot 13 = .ok (.invokestatic 39, 3) := by decide +kernel
theorem dX7_isSlot_16 : decode cX7_isSlot 16 = .ok (.ifCond .ne 7, 3) := by decide +kernel
theorem dX7_isSlot_19 : decode cX7_isSlot 19 = .ok (.iconst 1, 1) := by decide +kernel
theorem dX7_isSlot_20 : decode cX7_isSlot 20 = .ok (.goto 4, 3) := by decide +kernel
theorem dX7_isSlot_23 : decode cX7_isSlot 23 = .ok (.iconst 0, 1) := by decide +kernel
theorem dX7_isSlot_24 : decode cX7_isSlot 24 = .ok (.ireturn, 1) := by decide +kernel
abbrev rm_m_X7_isSlot : Room := { frames := 1, cells := 0, slots := 0, locals := 22 }
set_option maxHeartbeats 4000000 in
set_option maxRecDepth 100000 in
theorem m_X7_isSlot {s0 : State} {l : Launch} {D : va_G} {cy : Nat → ClassId} (G : Gl s0 l D cy) (S : HS) (ea ns nj nm nt nr nc : Nat) (h : CI ea S ns nj nm nt nr nc) (a b : Int32) : Ctr s0 l D cy yX7_isSlot cX7_isSlot 2 (some .boolean) rm_m_X7_isSlot S [.int a, .int b] (PU S (some (.int (b2i (cIsSlot a b))))) := by
  refine pro "CavershamShift$Room" G rfl rfl (Nat.le_of_ble_eq_true rfl) (fun p e s m below meth c ls X w hnm hl => ?_)
  have hx := X.1
  have hb := X.2.1
  have hown := X.2.2.2.1
  have hts := X.2.2.2.2.1
  have hl : lv_has ls 2 [(0, .int a), (1, .int b)] := hl
  refine lv_iload_n hx hb dX7_isSlot_0 rfl (lv_at hl 0 rfl) ?_
  refine lv_iconst (v := 0) hx hb dX7_isSlot_1 (by decide) ?_
  refine lv_bipush (v := 23) hx hb dX7_isSlot_2 (by decide) ?_
  refine cSN (S := S) (nA := 3) (As := [.int a, .int 0, .int 23]) (rest := []) X w hl (m_X10_isOutside G S a 0 23) wY_X10_isOutside wMN_X7_39 wSt_X10_isOutside wI_X10 (by decide +kernel) rfl rfl dX7_isSlot_4 ⟨by decide, by decide⟩ (Nat.le_of_ble_eq_true rfl) (⟨Nat.le_of_ble_eq_true rfl, Nat.le_of_ble_eq_true rfl⟩) (fun v1 S1 H locs hp w => ?_)
  obtain ⟨rfl, rfl⟩ := hp
  refine lv_if_ne (tgt := 23) hx hb dX7_isSlot_7 (by decide) (fun hc2 => ?_) (fun hc2 => ?_)
  · refine lv_iconst (v := 0) hx hb dX7_isSlot_23 (by decide) ?_
    exact rZ X w rfl dX7_isSlot_24 (by decide) (by decide) (by decide) (pu_i (by simp_all [cIsSlot, b2i]))
  · obtain ⟨j3, hlj3, hvj3⟩ := out_in (n := 24) (by decide) (by rw [show (nI 24 - 1 : Int32) = 23 by decide]; exact b2i_f hc2)
    rw [hvj3] at hl
    refine lv_iload_n hx hb dX7_isSlot_10 rfl (lv_at hl 1 rfl) ?_
    refine lv_iconst (v := 0) hx hb dX7_isSlot_11 (by decide) ?_
    refine lv_iconst (v := 2) hx hb dX7_isSlot_12 (by decide) ?_
    refine cSN (S := S) (nA := 3) (As := [.int b, .int 0, .int 2]) (rest := []) X w hl (m_X10_isOutside G S b 0 2) wY_X10_isOutside wMN_X7_39 wSt_X10_isOutside wI_X10 (by decide +kernel) rfl rfl dX7_isSlot_13 ⟨by decide, by decide⟩ (Nat.le_of_ble_eq_true rfl) (⟨Nat.le_of_ble_eq_true rfl, Nat.le_of_ble_eq_true rfl⟩) (fun v4 S1 H locs hp w => ?_)
    obtain ⟨rfl, rfl⟩ := hp
    refine lv_if_ne (tgt := 23) hx hb dX7_isSlot_16 (by decide) (fun hc5 => ?_) (fun hc5 => ?_)
    · refine lv_iconst (v := 0) hx hb dX7_isSlot_23 (by decide) ?_
      exact rZ X w rfl dX7_isSlot_24 (by decide) (by decide) (by decide) (pu_i (by simp_all [cIsSlot, b2i]))
    · obtain ⟨j6, hlj6, hvj6⟩ := out_in (n := 3) (by decide) (by rw [show (nI 3 - 1 : Int32) = 2 by decide]; exact b2i_f hc5)
      rw [hvj6] at hl
      refine lv_iconst (v := 1) hx hb dX7_isSlot_19 (by decide) ?_
      refine lv_goto (tgt := 24) hx hb dX7_isSlot_20 (by decide) ?_
      exact rZ X w rfl dX7_isSlot_24 (by decide) (by decide) (by decide) (pu_i (by simp_all [cIsSlot, b2i]))

theorem dX7_stationIn_0 : decode cX7_stationIn 0 = .ok (.iload_n 1, 1) := by decide +kernel
theorem dX7_stationIn_1 : decode cX7_stationIn 1 = .ok (.iload_n 2, 1) := by decide +kernel
theorem dX7_stationIn_2 : decode cX7_stationIn 2 = .ok (.invokestatic 49, 3) := by decide +kernel
theorem dX7_stationIn_5 : decode cX7_stationIn 5 = .ok (.ifCond .eq 16, 3) := by decide +kernel
theorem dX7_stationIn_8 : decode cX7_stationIn 8 = .ok (.aload_n 0, 1) := by decide +kernel
theorem dX7_stationIn_9 : decode cX7_stationIn 9 = .ok (.getfield 18, 3) := by decide +kernel
theorem dX7_stationIn_12 : decode cX7_stationIn 12 = .ok (.iload_n 1, 1) := by decide +kernel
theorem dX7_stationIn_13 : decode cX7_stationIn 13 = .ok (.iconst 3, 1) := by decide +kernel
theorem dX7_stationIn_14 : decode cX7_stationIn 14 = .ok (.imul, 1) := by decide +kernel
theorem dX7_stationIn_15 : decode cX7_stationIn 15 = .ok (.iload_n 2, 1) := by decide +kernel
theorem dX7_stationIn_16 : decode cX7_stationIn 16 = .ok (.iadd, 1) := by decide +kernel
theorem dX7_stationIn_17 : decode cX7_stationIn 17 = .ok (.iaload, 1) := by decide +kernel
theorem dX7_stationIn_18 : decode cX7_stationIn 18 = .ok (.goto 4, 3) := by decide +kernel
theorem dX7_stationIn_21 : decode cX7_stationIn 21 = .ok (.iconst (-1), 1) := by decide +kernel
theorem dX7_stationIn_22 : decode cX7_stationIn 22 = .ok (.ireturn, 1) := by decide +kernel
abbrev rm_m_X7_stationIn : Room := { frames := 2, cells := 0, slots := 0, locals := 43 }
set_option maxHeartbeats 4000000 in
set_option maxRecDepth 100000 in
theorem m_X7_stationIn {s0 : State} {l : Launch} {D : va_G} {cy : Nat → ClassId} (G : Gl s0 l D cy) (S : HS) (ea ns nj nm nt nr nc : Nat) (h : CI ea S ns nj nm nt nr nc) (a b : Int32) : Ctr s0 l D cy yX7_stationIn cX7_stationIn 3 (some .int) rm_m_X7_stationIn S [.ref (gG S 7 0), .int a, .int b] (PU S (some (.int (cSlot S 0 a b)))) := by
  refine pro "CavershamShift$Room" G rfl rfl (Nat.le_of_ble_eq_true rfl) (fun p e s m below meth c ls X w hnm hl => ?_)
  have hx := X.1
  have hb := X.2.1
  have hown := X.2.2.2.1
  have hts := X.2.2.2.2.1
  have hl : lv_has ls 3 [(0, .ref (gG S 7 0)), (1, .int a), (2, .int b)] := hl
  refine lv_iload_n hx hb dX7_stationIn_0 rfl (lv_at hl 1 rfl) ?_
  refine lv_iload_n hx hb dX7_stationIn_1 rfl (lv_at hl 2 rfl) ?_
  refine cS (S := S) (nA := 2) (As := [.int a, .int b]) (rest := []) X w hl (m_X7_isSlot G S ea ns nj nm nt nr nc h a b) wY_X7_isSlot wM_X7_49 wSt_X7_isSlot wI_X7 (by decide +kernel) rfl rfl dX7_stationIn_2 ⟨by decide, by decide⟩ (Nat.le_of_ble_eq_true rfl) (⟨Nat.le_of_ble_eq_true rfl, Nat.le_of_ble_eq_true rfl⟩) (fun v1 S1 H locs hp w => ?_)
  obtain ⟨rfl, rfl⟩ := hp
  refine lv_if_eq (tgt := 21) hx hb dX7_stationIn_5 (by decide) (fun hc => ?_) (fun hc => ?_)
  · refine lv_iconst (v := (-1)) hx hb dX7_stationIn_21 (by decide) ?_
    exact rI X w rfl dX7_stationIn_22 (by decide) (by decide) (pu_i (by unfold cSlot; first | rw [if_pos (b2i_t hc)] | rw [if_neg (by rw [b2i_f hc]; decide)]))
  · refine lv_aload_n hx hb dX7_stationIn_8 rfl (lv_at hl 0 rfl) ?_
    refine g_7_2 (S := S) (x := (some (gG S 32 0))) X w h.v7 wF_X7_18 (h.f114) dX7_stationIn_9 ?_
    refine lv_iload_n hx hb dX7_stationIn_12 rfl (lv_at hl 1 rfl) ?_
    refine lv_iconst (v := 3) hx hb dX7_stationIn_13 (by decide) ?_
    refine lv_imul hx hb dX7_stationIn_14 ?_
    refine lv_iload_n hx hb dX7_stationIn_15 rfl (lv_at hl 2 rfl) ?_
    refine lv_iadd hx hb dX7_stationIn_16 ?_
    refine aLdI (S := S) (t := 32) (v := mA S 32 0 (a * 3 + b).toNatClampNeg) X w h.a0.1 (by decide) rfl rfl (by rw [h.a0.2]; exact slot_vp (b2i_t hc)) (rfl) dX7_stationIn_17 ?_
    refine lv_goto (tgt := 22) hx hb dX7_stationIn_18 (by decide) ?_
    exact rI X w rfl dX7_stationIn_22 (by decide) (by decide) (pu_i (by unfold cSlot; first | rw [if_pos (b2i_t hc)] | rw [if_neg (by rw [b2i_f hc]; decide)]))

theorem dX7_monitorIn_0 : decode cX7_monitorIn 0 = .ok (.iload_n 1, 1) := by decide +kernel
theorem dX7_monitorIn_1 : decode cX7_monitorIn 1 = .ok (.iload_n 2, 1) := by decide +kernel
theorem dX7_monitorIn_2 : decode cX7_monitorIn 2 = .ok (.invokestatic 49, 3) := by decide +kernel
theorem dX7_monitorIn_5 : decode cX7_monitorIn 5 = .ok (.ifCond .eq 16, 3) := by decide +kernel
theorem dX7_monitorIn_8 : decode cX7_monitorIn 8 = .ok (.aload_n 0, 1) := by decide +kernel
theorem dX7_monitorIn_9 : decode cX7_monitorIn 9 = .ok (.getfield 22, 3) := by decide +kernel
theorem dX7_monitorIn_12 : decode cX7_monitorIn 12 = .ok (.iload_n 1, 1) := by decide +kernel
theorem dX7_monitorIn_13 : decode cX7_monitorIn 13 = .ok (.iconst 3, 1) := by decide +kernel
theorem dX7_monitorIn_14 : decode cX7_monitorIn 14 = .ok (.imul, 1) := by decide +kernel
theorem dX7_monitorIn_15 : decode cX7_monitorIn 15 = .ok (.iload_n 2, 1) := by decide +kernel
theorem dX7_monitorIn_16 : decode cX7_monitorIn 16 = .ok (.iadd, 1) := by decide +kernel
theorem dX7_monitorIn_17 : decode cX7_monitorIn 17 = .ok (.iaload, 1) := by decide +kernel
theorem dX7_monitorIn_18 : decode cX7_monitorIn 18 = .ok (.goto 4, 3) := by decide +kernel
theorem dX7_monitorIn_21 : decode cX7_monitorIn 21 = .ok (.iconst (-1), 1) := by decide +kernel
theorem dX7_monitorIn_22 : decode cX7_monitorIn 22 = .ok (.ireturn, 1) := by decide +kernel
abbrev rm_m_X7_monitorIn : Room := { frames := 2, cells := 0, slots := 0, locals := 43 }
set_option maxHeartbeats 4000000 in
set_option maxRecDepth 100000 in
theorem m_X7_monitorIn {s0 : State} {l : Launch} {D : va_G} {cy : Nat → ClassId} (G : Gl s0 l D cy) (S : HS) (ea ns nj nm nt nr nc : Nat) (h : CI ea S ns nj nm nt nr nc) (a b : Int32) : Ctr s0 l D cy yX7_monitorIn cX7_monitorIn 3 (some .int) rm_m_X7_monitorIn S [.ref (gG S 7 0), .int a, .int b] (PU S (some (.int (cSlot S 1 a b)))) := by
  refine pro "CavershamShift$Room" G rfl rfl (Nat.le_of_ble_eq_true rfl) (fun p e s m below meth c ls X w hnm hl => ?_)
  have hx := X.1
  have hb := X.2.1
  have hown := X.2.2.2.1
  have hts := X.2.2.2.2.1
  have hl : lv_has ls 3 [(0, .ref (gG S 7 0)), (1, .int a), (2, .int b)] := hl
  refine lv_iload_n hx hb dX7_monitorIn_0 rfl (lv_at hl 1 rfl) ?_
  refine lv_iload_n hx hb dX7_monitorIn_1 rfl (lv_at hl 2 rfl) ?_
  refine cS (S := S) (nA := 2) (As := [.int a, .int b]) (rest := []) X w hl (m_X7_isSlot G S ea ns nj nm nt nr nc h a b) wY_X7_isSlot wM_X7_49 wSt_X7_isSlot wI_X7 (by decide +kernel) rfl rfl dX7_monitorIn_2 ⟨by decide, by decide⟩ (Nat.le_of_ble_eq_true rfl) (⟨Nat.le_of_ble_eq_true rfl, Nat.le_of_ble_eq_true rfl⟩) (fun v1 S1 H locs hp w => ?_)
  obtain ⟨rfl, rfl⟩ := hp
  refine lv_if_eq (tgt := 21) hx hb dX7_monitorIn_5 (by decide) (fun hc => ?_) (fun hc => ?_)
  · refine lv_iconst (v := (-1)) hx hb dX7_monitorIn_21 (by decide) ?_
    exact rI X w rfl dX7_monitorIn_22 (by decide) (by decide) (pu_i (by unfold cSlot; first | rw [if_pos (b2i_t hc)] | rw [if_neg (by rw [b2i_f hc]; decide)]))
  · refine lv_aload_n hx hb dX7_monitorIn_8 rfl (lv_at hl 0 rfl) ?_
    refine g_7_3 (S := S) (x := (some (gG S 32 1))) X w h.v7 wF_X7_22 (h.f115) dX7_monitorIn_9 ?_
    refine lv_iload_n hx hb dX7_monitorIn_12 rfl (lv_at hl 1 rfl) ?_
    refine lv_iconst (v := 3) hx hb dX7_monitorIn_13 (by decide) ?_
    refine lv_imul hx hb dX7_monitorIn_14 ?_
    refine lv_iload_n hx hb dX7_monitorIn_15 rfl (lv_at hl 2 rfl) ?_
    refine lv_iadd hx hb dX7_monitorIn_16 ?_
    refine aLdI (S := S) (t := 32) (v := mA S 32 1 (a * 3 + b).toNatClampNeg) X w h.a1.1 (by decide) rfl rfl (by rw [h.a1.2]; exact slot_vp (b2i_t hc)) (rfl) dX7_monitorIn_17 ?_
    refine lv_goto (tgt := 22) hx hb dX7_monitorIn_18 (by decide) ?_
    exact rI X w rfl dX7_monitorIn_22 (by decide) (by decide) (pu_i (by unfold cSlot; first | rw [if_pos (b2i_t hc)] | rw [if_neg (by rw [b2i_f hc]; decide)]))

theorem dX3_skillFor_0 : decode cX3_skillFor 0 = .ok (.aload_n 0, 1) := by decide +kernel
theorem dX3_skillFor_1 : decode cX3_skillFor 1 = .ok (.getfield 13, 3) := by decide +kernel
theorem dX3_skillFor_4 : decode cX3_skillFor 4 = .ok (.istore_n 2, 1) := by decide +kernel
theorem dX3_skillFor_5 : decode cX3_skillFor 5 = .ok (.iconst 0, 1) := by decide +kernel
theorem dX3_skillFor_6 : decode cX3_skillFor 6 = .ok (.istore_n 3, 1) := by decide +kernel
theorem dX3_skillFor_7 : decode cX3_skillFor 7 = .ok (.iload_n 3, 1) := by decide +kernel
theorem dX3_skillFor_8 : decode cX3_skillFor 8 = .ok (.iload_n 1, 1) := by decide +kernel
theorem dX3_skillFor_9 : decode cX3_skillFor 9 = .ok (.if_icmp .ge 14, 3) := by decide +kernel
theorem dX3_skillFor_12 : decode cX3_skillFor 12 = .ok (.iload_n 2, 1) := by decide +kernel
theorem dX3_skillFor_13 : decode cX3_skillFor 13 = .ok (.bipush 10, 2) := by decide +kernel
theorem dX3_skillFor_15 : decode cX3_skillFor 15 = .ok (.idiv, 1) := by decide +kernel
theorem dX3_skillFor_16 : decode cX3_skillFor 16 = .ok (.istore_n 2, 1) := by decide +kernel
theorem dX3_skillFor_17 : decode cX3_skillFor 17 = .ok (.iinc 3 1, 3) := by decide +kernel
theorem dX3_skillFor_20 : decode cX3_skillFor 20 = .ok (.goto (-13), 3) := by decide +kernel
theorem dX3_skillFor_23 : decode cX3_skillFor 23 = .ok (.iload_n 2, 1) := by decide +kernel
theorem dX3_skillFor_24 : decode cX3_skillFor 24 = .ok (.bipush 10, 2) := by decide +kernel
theorem dX3_skillFor_26 : decode cX3_skillFor 26 = .ok (.irem, 1) := by decide +kernel
theorem dX3_skillFor_27 : decode cX3_skillFor 27 = .ok (.ireturn, 1) := by decide +kernel
abbrev rm_m_X3_skillFor : Room := { frames := 0, cells := 0, slots := 0, locals := 0 }
set_option maxHeartbeats 4000000 in
set_option maxRecDepth 100000 in
theorem m_X3_skillFor {s0 : State} {l : Launch} {D : va_G} {cy : Nat → ClassId} (G : Gl s0 l D cy) (S : HS) (ea ns nj nm nt nr nc : Nat) (h : CI ea S ns nj nm nt nr nc) (i g : Nat) (hi : i < nm) (hg : g < 10) : Ctr s0 l D cy yX3_skillFor cX3_skillFor 4 (some .int) rm_m_X3_skillFor S [.ref (gG S 3 i), .int (nI g)] (PXi S) := by
  refine pro "CavershamShift$Monitor" G rfl rfl (Nat.le_of_ble_eq_true rfl) (fun p e s m below meth c ls X w hnm hl => ?_)
  have hx := X.1
  have hb := X.2.1
  have hown := X.2.2.2.1
  have hts := X.2.2.2.2.1
  have hl : lv_has ls 4 [(0, .ref (gG S 3 i)), (1, .int (nI g))] := hl
  refine lv_aload_n hx hb dX3_skillFor_0 rfl (lv_at hl 0 rfl) ?_
  refine g_3_1 (S := S) (x := (mI S 49 i)) X w (h.e_mo i hi).2 wF_X3_13 (rfl) dX3_skillFor_1 ?_
  refine lv_istore_n (lv' := [(2, .int (mI S 49 i)), (0, .ref (gG S 3 i)), (1, .int (nI g))]) hx hb dX3_skillFor_4 rfl hl (by decide) rfl (fun ls hl => ?_)
  refine lv_iconst (v := 0) hx hb dX3_skillFor_5 (by decide) ?_
  refine lv_istore_n (lv' := [(3, .int 0), (2, .int (mI S 49 i)), (0, .ref (gG S 3 i)), (1, .int (nI g))]) hx hb dX3_skillFor_6 rfl hl (by decide) rfl (fun ls hl => ?_)
  have L7 : ∀ (N : Nat) (k : Nat) (v7_2 : Int32) (H : Heap) (locs : List Loc) (ls : Array Slot), g - k < N → (k ≤ g) → Wd s0 D cy S s.heap H locs → lv_has ls 4 [(3, .int (nI k)), (2, .int v7_2), (0, .ref (gG S 3 i)), (1, .int (nI g))] → W p l e rm_m_X3_skillFor s m ([.ref (gG S 3 i), .int (nI g)] : List Value).toArray below meth c H locs 0 0 (MQ below (GQ s0 D cy (PXi S)) ([.ref (gG S 3 i), .int (nI g)] : List Value).toArray s rm_m_X3_skillFor.cells rm_m_X3_skillFor.slots (A0 s0)) (F0 m 7 ls []) := by
    intro N
    induction N with
    | zero => intros; omega
    | succ N ih7 =>
      intro k v7_2 H locs ls hmu hk_k w hl
      refine lv_iload_n hx hb dX3_skillFor_7 rfl (lv_at hl 0 rfl) ?_
      refine lv_iload_n hx hb dX3_skillFor_8 rfl (lv_at hl 3 rfl) ?_
      refine lv_icmp_ge (tgt := 23) hx hb dX3_skillFor_9 (by decide) (fun hc_k => ?_) (fun hc_k => ?_)
      · have hge_k : g ≤ k := by
          skip
          exact (nI_leI (a := g) (b := k) (by omega) (by omega)).mp hc_k
        refine lv_iload_n hx hb dX3_skillFor_23 rfl (lv_at hl 1 rfl) ?_
        refine lv_bipush (v := 10) hx hb dX3_skillFor_24 (by decide) ?_
        refine lv_irem hx hb dX3_skillFor_26 (by decide) ?_
        exact rI X w rfl dX3_skillFor_27 (by decide) (by decide) (px_i)
      · have hlt_k : k < g := by
          skip
          exact Nat.lt_of_not_le (fun z => hc_k ((nI_leI (a := g) (b := k) (by omega) (by omega)).mpr z))
        refine lv_iload_n hx hb dX3_skillFor_12 rfl (lv_at hl 1 rfl) ?_
        refine lv_bipush (v := 10) hx hb dX3_skillFor_13 (by decide) ?_
        refine lv_idiv hx hb dX3_skillFor_15 (by decide) ?_
        refine lv_istore_n (lv' := [(2, .int (v7_2 / 10)), (3, .int (nI k)), (0, .ref (gG S 3 i)), (1, .int (nI g))]) hx hb dX3_skillFor_16 rfl hl (by decide) rfl (fun ls hl => ?_)
        refine lv_iinc (v := nI (k + 1)) (lv' := [(3, .int (nI (k + 1))), (2, .int (v7_2 / 10)), (0, .ref (gG S 3 i)), (1, .int (nI g))]) hx hb dX3_skillFor_17 hl (k := 1) rfl (nI_1 _) (by decide) rfl (fun ls hl => ?_)
        refine lv_goto (tgt := 7) hx hb dX3_skillFor_20 (by decide) ?_
        exact ih7 (k + 1) (v7_2 / 10) _ _ _ (by omega) (hlt_k) w (lv_sub hl [0, 1, 2, 3] rfl)
  exact L7 _ 0 (mI S 49 i) _ _ _ (Nat.lt_succ_self _) (Nat.zero_le _) w (lv_sub hl [0, 1, 2, 3] rfl)

/-- how strong station i comes in the hour of the day a, as the class has it -/
def cComes (S : HS) (ns nj i : Nat) (a : Int32) : Int32 := if sIn (mI S 134 i) a = false then 0 else cSta i (mI S 129 i) (fun k => sIn (mI S 134 k) a) (fun k => mI S 129 k) (cJam (mI S 129 i) (fun k => mI S 16 k) (fun k => mI S 17 k) (cBase (mI S 130 i) (mI S 131 i) (mI S 129 i) a) nj) ns

theorem dX0_strengthOf_0 : decode cX0_strengthOf 0 = .ok (.aload_n 1, 1) := by decide +kernel
theorem dX0_strengthOf_1 : decode cX0_strengthOf 1 = .ok (.iload_n 2, 1) := by decide +kernel
theorem dX0_strengthOf_2 : decode cX0_strengthOf 2 = .ok (.invokevirtual 37, 3) := by decide +kernel
theorem dX0_strengthOf_5 : decode cX0_strengthOf 5 = .ok (.ifCond .ne 5, 3) := by decide +kernel
theorem dX0_strengthOf_8 : decode cX0_strengthOf 8 = .ok (.iconst 0, 1) := by decide +kernel
theorem dX0_strengthOf_9 : decode cX0_strengthOf 9 = .ok (.ireturn, 1) := by decide +kernel
theorem dX0_strengthOf_10 : decode cX0_strengthOf 10 = .ok (.bipush 10, 2) := by decide +kernel
theorem dX0_strengthOf_12 : decode cX0_strengthOf 12 = .ok (.aload_n 1, 1) := by decide +kernel
theorem dX0_strengthOf_13 : decode cX0_strengthOf 13 = .ok (.getfield 41, 3) := by decide +kernel
theorem dX0_strengthOf_16 : decode cX0_strengthOf 16 = .ok (.imul, 1) := by decide +kernel
theorem dX0_strengthOf_17 : decode cX0_strengthOf 17 = .ok (.bipush 6, 2) := by decide +kernel
theorem dX0_strengthOf_19 : decode cX0_strengthOf 19 = .ok (.aload_n 1, 1) := by decide +kernel
theorem dX0_strengthOf_20 : decode cX0_strengthOf 20 = .ok (.getfield 45, 3) := by decide +kernel
theorem dX0_strengthOf_23 : decode cX0_strengthOf 23 = .ok (.imul, 1) := by decide +kernel
theorem dX0_strengthOf_24 : decode cX0_strengthOf 24 = .ok (.isub, 1) := by decide +kernel
theorem dX0_strengthOf_25 : decode cX0_strengthOf 25 = .ok (.istore_n 3, 1) := by decide +kernel
theorem dX0_strengthOf_26 : decode cX0_strengthOf 26 = .ok (.aload_n 1, 1) := by decide +kernel
theorem dX0_strengthOf_27 : decode cX0_strengthOf 27 = .ok (.getfield 45, 3) := by decide +kernel
theorem dX0_strengthOf_30 : decode cX0_strengthOf 30 = .ok (.iconst 4, 1) := by decide +kernel
theorem dX0_strengthOf_31 : decode cX0_strengthOf 31 = .ok (.if_icmp .lt 27, 3) := by decide +kernel
theorem dX0_strengthOf_34 : decode cX0_strengthOf 34 = .ok (.iload_n 2, 1) := by decide +kernel
theorem dX0_strengthOf_35 : decode cX0_strengthOf 35 = .ok (.invokestatic 48, 3) := by decide +kernel
theorem dX0_strengthOf_38 : decode cX0_strengthOf 38 = .ok (.aload_n 1, 1) := by decide +kernel
theorem dX0_strengthOf_39 : decode cX0_strengthOf 39 = .ok (.getfield 51, 3) := by decide +kernel
theorem dX0_strengthOf_42 : decode cX0_strengthOf 42 = .ok (.bipush 50, 2) := by decide +kernel
theorem dX0_strengthOf_44 : decode cX0_strengthOf 44 = .ok (.if_icmp .ge 7, 3) := by decide +kernel
theorem dX0_strengthOf_47 : decode cX0_strengthOf 47 = .ok (.iconst 1, 1) := by decide +kernel
theorem dX0_strengthOf_48 : decode cX0_strengthOf 48 = .ok (.goto 4, 3) := by decide +kernel
theorem dX0_strengthOf_51 : decode cX0_strengthOf 51 = .ok (.iconst 0, 1) := by decide +kernel
theorem dX0_strengthOf_52 : decode cX0_strengthOf 52 = .ok (.if_icmp .ne 6, 3) := by decide +kernel
theorem dX0_strengthOf_55 : decode cX0_strengthOf 55 = .ok (.iinc 3 25, 3) := by decide +kernel
theorem dX0_strengthOf_58 : decode cX0_strengthOf 58 = .ok (.iconst 0, 1) := by decide +kernel
theorem dX0_strengthOf_59 : decode cX0_strengthOf 59 = .ok (.istore 4, 2) := by decide +kernel
theorem dX0_strengthOf_61 : decode cX0_strengthOf 61 = .ok (.iload 4, 2) := by decide +kernel
theorem dX0_strengthOf_63 : decode cX0_strengthOf 63 = .ok (.aload_n 0, 1) := by decide +kernel
theorem dX0_strengthOf_64 : decode cX0_strengthOf 64 = .ok (.getfield 16, 3) := by decide +kernel
theorem dX0_strengthOf_67 : decode cX0_strengthOf 67 = .ok (.invokevirtual 19, 3) := by decide +kernel
theorem dX0_strengthOf_70 : decode cX0_strengthOf 70 = .ok (.if_icmp .ge 49, 3) := by decide +kernel
theorem dX0_strengthOf_73 : decode cX0_strengthOf 73 = .ok (.aload_n 0, 1) := by decide +kernel
theorem dX0_strengthOf_74 : decode cX0_strengthOf 74 = .ok (.getfield 16, 3) := by decide +kernel
theorem dX0_strengthOf_77 : decode cX0_strengthOf 77 = .ok (.iload 4, 2) := by decide +kernel
theorem dX0_strengthOf_79 : decode cX0_strengthOf 79 = .ok (.invokevirtual 29, 3) := by decide +kernel
theorem dX0_strengthOf_82 : decode cX0_strengthOf 82 = .ok (.checkcast 35, 3) := by decide +kernel
theorem dX0_strengthOf_85 : decode cX0_strengthOf 85 = .ok (.astore 5, 2) := by decide +kernel
theorem dX0_strengthOf_87 : decode cX0_strengthOf 87 = .ok (.aload 5, 2) := by decide +kernel
theorem dX0_strengthOf_89 : decode cX0_strengthOf 89 = .ok (.getfield 54, 3) := by decide +kernel
theorem dX0_strengthOf_92 : decode cX0_strengthOf 92 = .ok (.aload_n 1, 1) := by decide +kernel
theorem dX0_strengthOf_93 : decode cX0_strengthOf 93 = .ok (.getfield 51, 3) := by decide +kernel
theorem dX0_strengthOf_96 : decode cX0_strengthOf 96 = .ok (.invokestatic 55, 3) := by decide +kernel
theorem dX0_strengthOf_99 : decode cX0_strengthOf 99 = .ok (.ifCond .eq 14, 3) := by decide +kernel
theorem dX0_strengthOf_102 : decode cX0_strengthOf 102 = .ok (.iload_n 3, 1) := by decide +kernel
theorem dX0_strengthOf_103 : decode cX0_strengthOf 103 = .ok (.bipush 8, 2) := by decide +kernel
theorem dX0_strengthOf_105 : decode cX0_strengthOf 105 = .ok (.aload 5, 2) := by decide +kernel
theorem dX0_strengthOf_107 : decode cX0_strengthOf 107 = .ok (.getfield 59, 3) := by decide +kernel
theorem dX0_strengthOf_110 : decode cX0_strengthOf 110 = .ok (.imul, 1) := by decide +kernel
theorem dX0_strengthOf_111 : decode cX0_strengthOf 111 = .ok (.isub, 1) := by decide +kernel
theorem dX0_strengthOf_112 : decode cX0_strengthOf 112 = .ok (.istore_n 3, 1) := by decide +kernel
theorem dX0_strengthOf_113 : decode cX0_strengthOf 113 = .ok (.iinc 4 1, 3) := by decide +kernel
theorem dX0_strengthOf_116 : decode cX0_strengthOf 116 = .ok (.goto (-55), 3) := by decide +kernel
theorem dX0_strengthOf_119 : decode cX0_strengthOf 119 = .ok (.iconst 0, 1) := by decide +kernel
theorem dX0_strengthOf_120 : decode cX0_strengthOf 120 = .ok (.istore 4, 2) := by decide +kernel
theorem dX0_strengthOf_122 : decode cX0_strengthOf 122 = .ok (.iload 4, 2) := by decide +kernel
theorem dX0_strengthOf_124 : decode cX0_strengthOf 124 = .ok (.aload_n 0, 1) := by decide +kernel
theorem dX0_strengthOf_125 : decode cX0_strengthOf 125 = .ok (.getfield 10, 3) := by decide +kernel
theorem dX0_strengthOf_128 : decode cX0_strengthOf 128 = .ok (.invokevirtual 19, 3) := by decide +kernel
theorem dX0_strengthOf_131 : decode cX0_strengthOf 131 = .ok (.if_icmp .ge 56, 3) := by decide +kernel
theorem dX0_strengthOf_134 : decode cX0_strengthOf 134 = .ok (.aload_n 0, 1) := by decide +kernel
theorem dX0_strengthOf_135 : decode cX0_strengthOf 135 = .ok (.getfield 10, 3) := by decide +kernel
theorem dX0_strengthOf_138 : decode cX0_strengthOf 138 = .ok (.iload 4, 2) := by decide +kernel
theorem dX0_strengthOf_140 : decode cX0_strengthOf 140 = .ok (.invokevirtual 29, 3) := by decide +kernel
theorem dX0_strengthOf_143 : decode cX0_strengthOf 143 = .ok (.checkcast 33, 3) := by decide +kernel
theorem dX0_strengthOf_146 : decode cX0_strengthOf 146 = .ok (.astore 5, 2) := by decide +kernel
theorem dX0_strengthOf_148 : decode cX0_strengthOf 148 = .ok (.aload 5, 2) := by decide +kernel
theorem dX0_strengthOf_150 : decode cX0_strengthOf 150 = .ok (.aload_n 1, 1) := by decide +kernel
theorem dX0_strengthOf_151 : decode cX0_strengthOf 151 = .ok (.if_acmp .eq 30, 3) := by decide +kernel
theorem dX0_strengthOf_154 : decode cX0_strengthOf 154 = .ok (.aload 5, 2) := by decide +kernel
theorem dX0_strengthOf_156 : decode cX0_strengthOf 156 = .ok (.iload_n 2, 1) := by decide +kernel
theorem dX0_strengthOf_157 : decode cX0_strengthOf 157 = .ok (.invokevirtual 37, 3) := by decide +kernel
theorem dX0_strengthOf_160 : decode cX0_strengthOf 160 = .ok (.ifCond .eq 21, 3) := by decide +kernel
theorem dX0_strengthOf_163 : decode cX0_strengthOf 163 = .ok (.aload 5, 2) := by decide +kernel
theorem dX0_strengthOf_165 : decode cX0_strengthOf 165 = .ok (.getfield 51, 3) := by decide +kernel
theorem dX0_strengthOf_168 : decode cX0_strengthOf 168 = .ok (.aload_n 1, 1) := by decide +kernel
theorem dX0_strengthOf_169 : decode cX0_strengthOf 169 = .ok (.getfield 51, 3) := by decide +kernel
theorem dX0_strengthOf_172 : decode cX0_strengthOf 172 = .ok (.invokestatic 55, 3) := by decide +kernel
theorem dX0_strengthOf_175 : decode cX0_strengthOf 175 = .ok (.ifCond .eq 6, 3) := by decide +kernel
theorem dX0_strengthOf_178 : decode cX0_strengthOf 178 = .ok (.iinc 3 (-10), 3) := by decide +kernel
theorem dX0_strengthOf_181 : decode cX0_strengthOf 181 = .ok (.iinc 4 1, 3) := by decide +kernel
theorem dX0_strengthOf_184 : decode cX0_strengthOf 184 = .ok (.goto (-62), 3) := by decide +kernel
theorem dX0_strengthOf_187 : decode cX0_strengthOf 187 = .ok (.iload_n 3, 1) := by decide +kernel
theorem dX0_strengthOf_188 : decode cX0_strengthOf 188 = .ok (.ireturn, 1) := by decide +kernel
abbrev rm_m_X0_strengthOf : Room := { frames := 3, cells := 0, slots := 0, locals := 64 }
set_option maxHeartbeats 4000000 in
set_option maxRecDepth 100000 in
theorem m_X0_strengthOf {s0 : State} {l : Launch} {D : va_G} {cy : Nat → ClassId} (G : Gl s0 l D cy) (S : HS) (ea ns nj nm nt nr nc : Nat) (h : CI ea S ns nj nm nt nr nc) (i : Nat) (hi : i < ns) (a : Int32) : Ctr s0 l D cy yX0_strengthOf cX0_strengthOf 6 (some .int) rm_m_X0_strengthOf S [.ref (gG S 0 0), .ref (gG S 8 i), .int a] (PU S (some (.int (cComes S ns nj i a)))) := by
  refine pro "CavershamShift$Dial" G rfl rfl (Nat.le_of_ble_eq_true rfl) (fun p e s m below meth c ls X w hnm hl => ?_)
  have hx := X.1
  have hb := X.2.1
  have hown := X.2.2.2.1
  have hts := X.2.2.2.2.1
  have hl : lv_has ls 6 [(0, .ref (gG S 0 0)), (1, .ref (gG S 8 i)), (2, .int a)] := hl
  refine lv_aload_n hx hb dX0_strengthOf_0 rfl (lv_at hl 1 rfl) ?_
  refine lv_iload_n hx hb dX0_strengthOf_1 rfl (lv_at hl 2 rfl) ?_
  refine cV (S := S) (nA := 1) (As := [.int a]) (rest := []) X w hl (h.e_st i hi).2 (m_X8_isOnAir G S ea ns nj nm nt nr nc h i hi a) wY_X8_isOnAir wM_X0_37 wIn_X8_isOnAir wSe_X8_X8_isOnAir wI_X8 (by decide) rfl (by decide +kernel) rfl rfl dX0_strengthOf_2 ⟨by decide, by decide⟩ (Nat.le_of_ble_eq_true rfl) (⟨Nat.le_of_ble_eq_true rfl, Nat.le_of_ble_eq_true rfl⟩) (fun v1 S1 H locs hp w => ?_)
  obtain ⟨rfl, rfl⟩ := hp
  refine lv_if_ne (tgt := 10) hx hb dX0_strengthOf_5 (by decide) (fun h0 => ?_) (fun h0 => ?_)
  · refine lv_bipush (v := 10) hx hb dX0_strengthOf_10 (by decide) ?_
    refine lv_aload_n hx hb dX0_strengthOf_12 rfl (lv_at hl 1 rfl) ?_
    refine g_8_2 (S := S) (x := (mI S 130 i)) X w (h.e_st i hi).2 wF_X0_41 (rfl) dX0_strengthOf_13 ?_
    refine lv_imul hx hb dX0_strengthOf_16 ?_
    refine lv_bipush (v := 6) hx hb dX0_strengthOf_17 (by decide) ?_
    refine lv_aload_n hx hb dX0_strengthOf_19 rfl (lv_at hl 1 rfl) ?_
    refine g_8_3 (S := S) (x := (mI S 131 i)) X w (h.e_st i hi).2 wF_X0_45 (rfl) dX0_strengthOf_20 ?_
    refine lv_imul hx hb dX0_strengthOf_23 ?_
    refine lv_isub hx hb dX0_strengthOf_24 ?_
    refine lv_istore_n (lv' := [(3, .int ((10 * (mI S 130 i)) - (6 * (mI S 131 i)))), (0, .ref (gG S 0 0)), (1, .ref (gG S 8 i)), (2, .int a)]) hx hb dX0_strengthOf_25 rfl hl (by decide) rfl (fun ls hl => ?_)
    refine lv_aload_n hx hb dX0_strengthOf_26 rfl (lv_at hl 2 rfl) ?_
    refine g_8_3 (S := S) (x := (mI S 131 i)) X w (h.e_st i hi).2 wF_X0_45 (rfl) dX0_strengthOf_27 ?_
    refine lv_iconst (v := 4) hx hb dX0_strengthOf_30 (by decide) ?_
    have J58 : ∀ (x : Int32) (H : Heap) (locs : List Loc) (ls : Array Slot), (x = cBase (mI S 130 i) (mI S 131 i) (mI S 129 i) a) → Wd s0 D cy S s.heap H locs → lv_has ls 6 [(0, .ref (gG S 0 0)), (1, .ref (gG S 8 i)), (2, .int a), (3, .int x)] → W p l e rm_m_X0_strengthOf s m ([.ref (gG S 0 0), .ref (gG S 8 i), .int a] : List Value).toArray below meth c H locs 0 0 (MQ below (GQ s0 D cy (PU S (some (.int (cComes S ns nj i a))))) ([.ref (gG S 0 0), .ref (gG S 8 i), .int a] : List Value).toArray s rm_m_X0_strengthOf.cells rm_m_X0_strengthOf.slots (A0 s0)) (F0 m 58 ls []) := by
      intro x H locs ls hbb w hl
      refine lv_iconst (v := 0) hx hb dX0_strengthOf_58 (by decide) ?_
      refine lv_istore (lv' := [(4, .int 0), (0, .ref (gG S 0 0)), (1, .ref (gG S 8 i)), (2, .int a), (3, .int x)]) hx hb dX0_strengthOf_59 hl (by decide) rfl (fun ls hl => ?_)
      have L61 : ∀ (N : Nat) (k : Nat) (y : Int32) (H : Heap) (locs : List Loc) (ls : Array Slot), nj - k < N → (k ≤ nj) → (y = cJam (mI S 129 i) (fun k => mI S 16 k) (fun k => mI S 17 k) (cBase (mI S 130 i) (mI S 131 i) (mI S 129 i) a) k) → Wd s0 D cy S s.heap H locs → lv_has ls 6 [(0, .ref (gG S 0 0)), (1, .ref (gG S 8 i)), (2, .int a), (3, .int y), (4, .int (nI k))] → W p l e rm_m_X0_strengthOf s m ([.ref (gG S 0 0), .ref (gG S 8 i), .int a] : List Value).toArray below meth c H locs 0 0 (MQ below (GQ s0 D cy (PU S (some (.int (cComes S ns nj i a))))) ([.ref (gG S 0 0), .ref (gG S 8 i), .int a] : List Value).toArray s rm_m_X0_strengthOf.cells rm_m_X0_strengthOf.slots (A0 s0)) (F0 m 61 ls []) := by
        intro N
        induction N with
        | zero => intros; omega
        | succ N ih61 =>
          intro k y H locs ls hmu hk hy w hl
          refine lv_iload hx hb dX0_strengthOf_61 (lv_at hl 4 rfl) ?_
          refine lv_aload_n hx hb dX0_strengthOf_63 rfl (lv_at hl 0 rfl) ?_
          refine g_0_1 (S := S) (x := (some (gG S 17 1))) X w h.v0 wF_X0_16 (h.f1) dX0_strengthOf_64 ?_
          refine cV (S := S) (nA := 0) (As := []) (rest := [.int (nI k)]) X w hl h.l_jm.1 (m_size G S ea 1 nj h.l_jm) wY_Jx4a65c_size_8abf5 wM_X0_19 wIn_Jx4a65c_size_8abf5 wSe_Jx4a65c_Jx4a65c_size_8abf5 wI_Jx4a65c (by decide) rfl (by decide +kernel) rfl rfl dX0_strengthOf_67 ⟨by decide, by decide⟩ (Nat.le_of_ble_eq_true rfl) (⟨Nat.le_of_ble_eq_true rfl, Nat.le_of_ble_eq_true rfl⟩) (fun v2 S1 H locs hp w => ?_)
          obtain ⟨rfl, rfl⟩ := hp
          refine lv_icmp_ge (tgt := 119) hx hb dX0_strengthOf_70 (by decide) (fun hc9 => ?_) (fun hc9 => ?_)
          · have hge : nj ≤ k := by
              have hb1 := h.b_jm
              exact (nI_leI (by omega) (by omega)).mp hc9
            refine lv_iconst (v := 0) hx hb dX0_strengthOf_119 (by decide) ?_
            refine lv_istore (lv' := [(4, .int 0), (0, .ref (gG S 0 0)), (1, .ref (gG S 8 i)), (2, .int a), (3, .int y)]) hx hb dX0_strengthOf_120 hl (by decide) rfl (fun ls hl => ?_)
            have L122 : ∀ (N : Nat) (k : Nat) (y : Int32) (H : Heap) (locs : List Loc) (ls : Array Slot), ns - k < N → (k ≤ ns) → (y = cSta i (mI S 129 i) (fun k => sIn (mI S 134 k) a) (fun k => mI S 129 k) (cJam (mI S 129 i) (fun k => mI S 16 k) (fun k => mI S 17 k) (cBase (mI S 130 i) (mI S 131 i) (mI S 129 i) a) nj) k) → Wd s0 D cy S s.heap H locs → lv_has ls 6 [(0, .ref (gG S 0 0)), (1, .ref (gG S 8 i)), (2, .int a), (3, .int y), (4, .int (nI k))] → W p l e rm_m_X0_strengthOf s m ([.ref (gG S 0 0), .ref (gG S 8 i), .int a] : List Value).toArray below meth c H locs 0 0 (MQ below (GQ s0 D cy (PU S (some (.int (cComes S ns nj i a))))) ([.ref (gG S 0 0), .ref (gG S 8 i), .int a] : List Value).toArray s rm_m_X0_strengthOf.cells rm_m_X0_strengthOf.slots (A0 s0)) (F0 m 122 ls []) := by
              intro N
              induction N with
              | zero => intros; omega
              | succ N ih122 =>
                intro k y H locs ls hmu hk hy w hl
                refine lv_iload hx hb dX0_strengthOf_122 (lv_at hl 4 rfl) ?_
                refine lv_aload_n hx hb dX0_strengthOf_124 rfl (lv_at hl 0 rfl) ?_
                refine g_0_0 (S := S) (x := (some (gG S 17 0))) X w h.v0 wF_X0_10 (h.f0) dX0_strengthOf_125 ?_
                refine cV (S := S) (nA := 0) (As := []) (rest := [.int (nI k)]) X w hl h.l_st.1 (m_size G S ea 0 ns h.l_st) wY_Jx4a65c_size_8abf5 wM_X0_19 wIn_Jx4a65c_size_8abf5 wSe_Jx4a65c_Jx4a65c_size_8abf5 wI_Jx4a65c (by decide) rfl (by decide +kernel) rfl rfl dX0_strengthOf_128 ⟨by decide, by decide⟩ (Nat.le_of_ble_eq_true rfl) (⟨Nat.le_of_ble_eq_true rfl, Nat.le_of_ble_eq_true rfl⟩) (fun v3 S1 H locs hp w => ?_)
                obtain ⟨rfl, rfl⟩ := hp
                refine lv_icmp_ge (tgt := 187) hx hb dX0_strengthOf_131 (by decide) (fun hc8 => ?_) (fun hc8 => ?_)
                · have hge : ns ≤ k := by
                    have hb1 := h.b_st
                    exact (nI_leI (by omega) (by omega)).mp hc8
                  refine lv_iload_n hx hb dX0_strengthOf_187 rfl (lv_at hl 3 rfl) ?_
                  exact rI X w rfl dX0_strengthOf_188 (by decide) (by decide) (pu_i (by unfold cComes; rw [if_neg (by rw [b2i_t h0]; decide), hy, show k = ns by omega]))
                · have hlt : k < ns := by
                    have hb1 := h.b_st
                    exact Nat.lt_of_not_le (fun z => hc8 ((nI_leI (by omega) (by omega)).mpr z))
                  refine lv_aload_n hx hb dX0_strengthOf_134 rfl (lv_at hl 0 rfl) ?_
                  refine g_0_0 (S := S) (x := (some (gG S 17 0))) X w h.v0 wF_X0_10 (h.f0) dX0_strengthOf_135 ?_
                  refine lv_iload hx hb dX0_strengthOf_138 (lv_at hl 4 rfl) ?_
                  refine cV (S := S) (nA := 1) (As := [.int (nI k)]) (rest := []) X w hl h.l_st.1 (m_get G S ea 0 k ns (some (gG S 8 k)) h.l_st hlt (h.e_st k hlt).1) wY_Jx4a65c_get_915e3 wM_X0_29 wIn_Jx4a65c_get_915e3 wSe_Jx4a65c_Jx4a65c_get_915e3 wI_Jx4a65c (by decide) rfl (by decide +kernel) rfl rfl dX0_strengthOf_140 ⟨by decide, by decide⟩ (Nat.le_of_ble_eq_true rfl) (⟨Nat.le_of_ble_eq_true rfl, Nat.le_of_ble_eq_true rfl⟩) (fun v4 S1 H locs hp w => ?_)
                  obtain ⟨rfl, rfl⟩ := hp
                  refine ckC (S := S) (t := 8) X w (h.e_st k hlt).2 (by decide) rfl wC_X0_33 dX0_strengthOf_143 ?_
                  refine lv_astore (lv' := [(5, .ref (gG S 8 k)), (0, .ref (gG S 0 0)), (1, .ref (gG S 8 i)), (2, .int a), (3, .int y), (4, .int (nI k))]) hx hb dX0_strengthOf_146 hl (by decide) rfl (fun ls hl => ?_)
                  refine lv_aload hx hb dX0_strengthOf_148 (lv_at hl 0 rfl) ?_
                  refine lv_aload_n hx hb dX0_strengthOf_150 rfl (lv_at hl 2 rfl) ?_
                  refine lv_acmp_eq (rx := (some (gG S 8 k))) (ry := (some (gG S 8 i))) (tgt := 181) hx hb dX0_strengthOf_151 (by decide) (fun hac => ?_) (fun hac => ?_)
                  · skip
                    have hki : k = i := (w.1.2 8 k 8 i (h.e_st k hlt).2 (h.e_st i hi).2 (Option.some.inj hac)).2
                    have ez : (if k ≠ i ∧ sIn (mI S 134 k) a = true ∧ sNear (mI S 129 k) (mI S 129 i) = true then 10 else (0 : Int32)) = 0 := if_neg (fun z => z.1 hki)
                    have ey : y = cSta i (mI S 129 i) (fun k => sIn (mI S 134 k) a) (fun k => mI S 129 k) (cJam (mI S 129 i) (fun k => mI S 16 k) (fun k => mI S 17 k) (cBase (mI S 130 i) (mI S 131 i) (mI S 129 i) a) nj) (k + 1) := by rw [hy]; show _ = _ - _; rw [ez]; exact (Int32.sub_zero _).symm
                    refine lv_iinc (v := nI (k + 1)) (lv' := [(4, .int (nI (k + 1))), (5, .ref (gG S 8 k)), (0, .ref (gG S 0 0)), (1, .ref (gG S 8 i)), (2, .int a), (3, .int y)]) hx hb dX0_strengthOf_181 hl (k := 5) rfl (nI_1 _) (by decide) rfl (fun ls hl => ?_)
                    refine lv_goto (tgt := 122) hx hb dX0_strengthOf_184 (by decide) ?_
                    exact ih122 (k + 1) y _ _ _ (by omega) (by omega) (ey) w (lv_sub hl [2, 3, 4, 5, 0] rfl)
                  · skip
                    have hni : ¬ k = i := fun z => hac (by rw [z])
                    refine lv_aload hx hb dX0_strengthOf_154 (lv_at hl 0 rfl) ?_
                    refine lv_iload_n hx hb dX0_strengthOf_156 rfl (lv_at hl 3 rfl) ?_
                    refine cV (S := S) (nA := 1) (As := [.int a]) (rest := []) X w hl (h.e_st k hlt).2 (m_X8_isOnAir G S ea ns nj nm nt nr nc h k hlt a) wY_X8_isOnAir wM_X0_37 wIn_X8_isOnAir wSe_X8_X8_isOnAir wI_X8 (by decide) rfl (by decide +kernel) rfl rfl dX0_strengthOf_157 ⟨by decide, by decide⟩ (Nat.le_of_ble_eq_true rfl) (⟨Nat.le_of_ble_eq_true rfl, Nat.le_of_ble_eq_true rfl⟩) (fun v5 S1 H locs hp w => ?_)
                    obtain ⟨rfl, rfl⟩ := hp
                    refine lv_if_eq (tgt := 181) hx hb dX0_strengthOf_160 (by decide) (fun hon => ?_) (fun hon => ?_)
                    · have ez : (if k ≠ i ∧ sIn (mI S 134 k) a = true ∧ sNear (mI S 129 k) (mI S 129 i) = true then 10 else (0 : Int32)) = 0 := if_neg (fun z => by rw [b2i_f hon] at z; exact absurd z.2.1 (by decide))
                      have ey : y = cSta i (mI S 129 i) (fun k => sIn (mI S 134 k) a) (fun k => mI S 129 k) (cJam (mI S 129 i) (fun k => mI S 16 k) (fun k => mI S 17 k) (cBase (mI S 130 i) (mI S 131 i) (mI S 129 i) a) nj) (k + 1) := by rw [hy]; show _ = _ - _; rw [ez]; exact (Int32.sub_zero _).symm
                      refine lv_iinc (v := nI (k + 1)) (lv' := [(4, .int (nI (k + 1))), (5, .ref (gG S 8 k)), (0, .ref (gG S 0 0)), (1, .ref (gG S 8 i)), (2, .int a), (3, .int y)]) hx hb dX0_strengthOf_181 hl (k := 5) rfl (nI_1 _) (by decide) rfl (fun ls hl => ?_)
                      refine lv_goto (tgt := 122) hx hb dX0_strengthOf_184 (by decide) ?_
                      exact ih122 (k + 1) y _ _ _ (by omega) (by omega) (ey) w (lv_sub hl [2, 3, 4, 5, 0] rfl)
                    · refine lv_aload hx hb dX0_strengthOf_163 (lv_at hl 0 rfl) ?_
                      refine g_8_1 (S := S) (x := (mI S 129 k)) X w (h.e_st k hlt).2 wF_X0_51 (rfl) dX0_strengthOf_165 ?_
                      refine lv_aload_n hx hb dX0_strengthOf_168 rfl (lv_at hl 2 rfl) ?_
                      refine g_8_1 (S := S) (x := (mI S 129 i)) X w (h.e_st i hi).2 wF_X0_51 (rfl) dX0_strengthOf_169 ?_
                      refine cS (S := S) (nA := 2) (As := [.int (mI S 129 k), .int (mI S 129 i)]) (rest := []) X w hl (m_X0_isNear G S (mI S 129 k) (mI S 129 i)) wY_X0_isNear wM_X0_55 wSt_X0_isNear wI_X0 (by decide +kernel) rfl rfl dX0_strengthOf_172 ⟨by decide, by decide⟩ (Nat.le_of_ble_eq_true rfl) (⟨Nat.le_of_ble_eq_true rfl, Nat.le_of_ble_eq_true rfl⟩) (fun v6 S1 H locs hp w => ?_)
                      obtain ⟨rfl, rfl⟩ := hp
                      refine lv_if_eq (tgt := 181) hx hb dX0_strengthOf_175 (by decide) (fun hne => ?_) (fun hne => ?_)
                      · have ez : (if k ≠ i ∧ sIn (mI S 134 k) a = true ∧ sNear (mI S 129 k) (mI S 129 i) = true then 10 else (0 : Int32)) = 0 := if_neg (fun z => by rw [b2i_f hne] at z; exact absurd z.2.2 (by decide))
                        have ey : y = cSta i (mI S 129 i) (fun k => sIn (mI S 134 k) a) (fun k => mI S 129 k) (cJam (mI S 129 i) (fun k => mI S 16 k) (fun k => mI S 17 k) (cBase (mI S 130 i) (mI S 131 i) (mI S 129 i) a) nj) (k + 1) := by rw [hy]; show _ = _ - _; rw [ez]; exact (Int32.sub_zero _).symm
                        refine lv_iinc (v := nI (k + 1)) (lv' := [(4, .int (nI (k + 1))), (5, .ref (gG S 8 k)), (0, .ref (gG S 0 0)), (1, .ref (gG S 8 i)), (2, .int a), (3, .int y)]) hx hb dX0_strengthOf_181 hl (k := 5) rfl (nI_1 _) (by decide) rfl (fun ls hl => ?_)
                        refine lv_goto (tgt := 122) hx hb dX0_strengthOf_184 (by decide) ?_
                        exact ih122 (k + 1) y _ _ _ (by omega) (by omega) (ey) w (lv_sub hl [2, 3, 4, 5, 0] rfl)
                      · have ez : (if k ≠ i ∧ sIn (mI S 134 k) a = true ∧ sNear (mI S 129 k) (mI S 129 i) = true then 10 else (0 : Int32)) = 10 := if_pos ⟨hni, b2i_t hon, b2i_t hne⟩
                        have ey : y + (-10) = cSta i (mI S 129 i) (fun k => sIn (mI S 134 k) a) (fun k => mI S 129 k) (cJam (mI S 129 i) (fun k => mI S 16 k) (fun k => mI S 17 k) (cBase (mI S 130 i) (mI S 131 i) (mI S 129 i) a) nj) (k + 1) := by rw [hy]; show _ = _ - _; rw [ez]; exact (Int32.sub_eq_add_neg _ _).symm
                        refine lv_iinc (v := (y + (-10))) (lv' := [(3, .int (y + (-10))), (5, .ref (gG S 8 k)), (0, .ref (gG S 0 0)), (1, .ref (gG S 8 i)), (2, .int a), (4, .int (nI k))]) hx hb dX0_strengthOf_178 hl (k := 4) rfl (rfl) (by decide) rfl (fun ls hl => ?_)
                        refine lv_iinc (v := nI (k + 1)) (lv' := [(4, .int (nI (k + 1))), (3, .int (y + (-10))), (5, .ref (gG S 8 k)), (0, .ref (gG S 0 0)), (1, .ref (gG S 8 i)), (2, .int a)]) hx hb dX0_strengthOf_181 hl (k := 5) rfl (nI_1 _) (by decide) rfl (fun ls hl => ?_)
                        refine lv_goto (tgt := 122) hx hb dX0_strengthOf_184 (by decide) ?_
                        exact ih122 (k + 1) (y + (-10)) _ _ _ (by omega) (by omega) (ey) w (lv_sub hl [3, 4, 5, 1, 0] rfl)
            exact L122 _ 0 y _ _ _ (Nat.lt_succ_self _) (by omega) (by rw [hy, show k = nj by omega]; rfl) w (lv_sub hl [1, 2, 3, 4, 0] rfl)
          · have hlt : k < nj := by
              have hb1 := h.b_jm
              exact Nat.lt_of_not_le (fun z => hc9 ((nI_leI (by omega) (by omega)).mpr z))
            refine lv_aload_n hx hb dX0_strengthOf_73 rfl (lv_at hl 0 rfl) ?_
            refine g_0_1 (S := S) (x := (some (gG S 17 1))) X w h.v0 wF_X0_16 (h.f1) dX0_strengthOf_74 ?_
            refine lv_iload hx hb dX0_strengthOf_77 (lv_at hl 4 rfl) ?_
            refine cV (S := S) (nA := 1) (As := [.int (nI k)]) (rest := []) X w hl h.l_jm.1 (m_get G S ea 1 k nj (some (gG S 1 k)) h.l_jm hlt (h.e_jm k hlt).1) wY_Jx4a65c_get_915e3 wM_X0_29 wIn_Jx4a65c_get_915e3 wSe_Jx4a65c_Jx4a65c_get_915e3 wI_Jx4a65c (by decide) rfl (by decide +kernel) rfl rfl dX0_strengthOf_79 ⟨by decide, by decide⟩ (Nat.le_of_ble_eq_true rfl) (⟨Nat.le_of_ble_eq_true rfl, Nat.le_of_ble_eq_true rfl⟩) (fun v7 S1 H locs hp w => ?_)
            obtain ⟨rfl, rfl⟩ := hp
            refine ckC (S := S) (t := 1) X w (h.e_jm k hlt).2 (by decide) rfl wC_X0_35 dX0_strengthOf_82 ?_
            refine lv_astore (lv' := [(5, .ref (gG S 1 k)), (0, .ref (gG S 0 0)), (1, .ref (gG S 8 i)), (2, .int a), (3, .int y), (4, .int (nI k))]) hx hb dX0_strengthOf_85 hl (by decide) rfl (fun ls hl => ?_)
            refine lv_aload hx hb dX0_strengthOf_87 (lv_at hl 0 rfl) ?_
            refine g_1_0 (S := S) (x := (mI S 16 k)) X w (h.e_jm k hlt).2 wF_X0_54 (rfl) dX0_strengthOf_89 ?_
            refine lv_aload_n hx hb dX0_strengthOf_92 rfl (lv_at hl 2 rfl) ?_
            refine g_8_1 (S := S) (x := (mI S 129 i)) X w (h.e_st i hi).2 wF_X0_51 (rfl) dX0_strengthOf_93 ?_
            refine cS (S := S) (nA := 2) (As := [.int (mI S 16 k), .int (mI S 129 i)]) (rest := []) X w hl (m_X0_isNear G S (mI S 16 k) (mI S 129 i)) wY_X0_isNear wM_X0_55 wSt_X0_isNear wI_X0 (by decide +kernel) rfl rfl dX0_strengthOf_96 ⟨by decide, by decide⟩ (Nat.le_of_ble_eq_true rfl) (⟨Nat.le_of_ble_eq_true rfl, Nat.le_of_ble_eq_true rfl⟩) (fun v8 S1 H locs hp w => ?_)
            obtain ⟨rfl, rfl⟩ := hp
            refine lv_if_eq (tgt := 113) hx hb dX0_strengthOf_99 (by decide) (fun hne => ?_) (fun hne => ?_)
            · have ez : (if sNear (mI S 16 k) (mI S 129 i) = true then 8 * mI S 17 k else 0) = 0 := by rw [b2i_f hne]; rfl
              have ey : y = cJam (mI S 129 i) (fun k => mI S 16 k) (fun k => mI S 17 k) (cBase (mI S 130 i) (mI S 131 i) (mI S 129 i) a) (k + 1) := by rw [hy]; show _ = _ - _; rw [ez]; exact (Int32.sub_zero _).symm
              refine lv_iinc (v := nI (k + 1)) (lv' := [(4, .int (nI (k + 1))), (5, .ref (gG S 1 k)), (0, .ref (gG S 0 0)), (1, .ref (gG S 8 i)), (2, .int a), (3, .int y)]) hx hb dX0_strengthOf_113 hl (k := 5) rfl (nI_1 _) (by decide) rfl (fun ls hl => ?_)
              refine lv_goto (tgt := 61) hx hb dX0_strengthOf_116 (by decide) ?_
              exact ih61 (k + 1) y _ _ _ (by omega) (by omega) (ey) w (lv_sub hl [2, 3, 4, 5, 0] rfl)
            · have ez : (if sNear (mI S 16 k) (mI S 129 i) = true then 8 * mI S 17 k else 0) = 8 * mI S 17 k := by rw [b2i_t hne]; rfl
              have ey : y - (8 * mI S 17 k) = cJam (mI S 129 i) (fun k => mI S 16 k) (fun k => mI S 17 k) (cBase (mI S 130 i) (mI S 131 i) (mI S 129 i) a) (k + 1) := by rw [hy]; show _ = _ - _; rw [ez]
              refine lv_iload_n hx hb dX0_strengthOf_102 rfl (lv_at hl 4 rfl) ?_
              refine lv_bipush (v := 8) hx hb dX0_strengthOf_103 (by decide) ?_
              refine lv_aload hx hb dX0_strengthOf_105 (lv_at hl 0 rfl) ?_
              refine g_1_1 (S := S) (x := (mI S 17 k)) X w (h.e_jm k hlt).2 wF_X0_59 (rfl) dX0_strengthOf_107 ?_
              refine lv_imul hx hb dX0_strengthOf_110 ?_
              refine lv_isub hx hb dX0_strengthOf_111 ?_
              refine lv_istore_n (lv' := [(3, .int (y - (8 * (mI S 17 k)))), (5, .ref (gG S 1 k)), (0, .ref (gG S 0 0)), (1, .ref (gG S 8 i)), (2, .int a), (4, .int (nI k))]) hx hb dX0_strengthOf_112 rfl hl (by decide) rfl (fun ls hl => ?_)
              refine lv_iinc (v := nI (k + 1)) (lv' := [(4, .int (nI (k + 1))), (3, .int (y - (8 * (mI S 17 k)))), (5, .ref (gG S 1 k)), (0, .ref (gG S 0 0)), (1, .ref (gG S 8 i)), (2, .int a)]) hx hb dX0_strengthOf_113 hl (k := 5) rfl (nI_1 _) (by decide) rfl (fun ls hl => ?_)
              refine lv_goto (tgt := 61) hx hb dX0_strengthOf_116 (by decide) ?_
              exact ih61 (k + 1) (y - (8 * (mI S 17 k))) _ _ _ (by omega) (by omega) (ey) w (lv_sub hl [3, 4, 5, 1, 0] rfl)
      exact L61 _ 0 x _ _ _ (Nat.lt_succ_self _) (by omega) (hbb) w (lv_sub hl [1, 2, 3, 4, 0] rfl)
    refine lv_icmp_lt (tgt := 58) hx hb dX0_strengthOf_31 (by decide) (fun hc9 => ?_) (fun hc9 => ?_)
    · exact J58 ((10 * (mI S 130 i)) - (6 * (mI S 131 i))) _ _ _ (by simp_all [cBase, b2i, ← Int32.not_le]) w (lv_sub hl [1, 2, 3, 0] rfl)
    · refine lv_iload_n hx hb dX0_strengthOf_34 rfl (lv_at hl 3 rfl) ?_
      refine cS (S := S) (nA := 1) (As := [.int a]) (rest := []) X w hl (m_X0_isNight G S a) wY_X0_isNight wM_X0_48 wSt_X0_isNight wI_X0 (by decide +kernel) rfl rfl dX0_strengthOf_35 ⟨by decide, by decide⟩ (Nat.le_of_ble_eq_true rfl) (⟨Nat.le_of_ble_eq_true rfl, Nat.le_of_ble_eq_true rfl⟩) (fun v10 S1 H locs hp w => ?_)
      obtain ⟨rfl, rfl⟩ := hp
      refine lv_aload_n hx hb dX0_strengthOf_38 rfl (lv_at hl 2 rfl) ?_
      refine g_8_1 (S := S) (x := (mI S 129 i)) X w (h.e_st i hi).2 wF_X0_51 (rfl) dX0_strengthOf_39 ?_
      refine lv_bipush (v := 50) hx hb dX0_strengthOf_42 (by decide) ?_
      refine lv_icmp_ge (tgt := 51) hx hb dX0_strengthOf_44 (by decide) (fun hc11 => ?_) (fun hc11 => ?_)
      · refine lv_iconst (v := 0) hx hb dX0_strengthOf_51 (by decide) ?_
        refine lv_icmp_ne (tgt := 58) hx hb dX0_strengthOf_52 (by decide) (fun hc12 => ?_) (fun hc12 => ?_)
        · exact J58 ((10 * (mI S 130 i)) - (6 * (mI S 131 i))) _ _ _ (by simp_all [cBase, b2i, ← Int32.not_le]) w (lv_sub hl [1, 2, 3, 0] rfl)
        · refine lv_iinc (v := (((10 * (mI S 130 i)) - (6 * (mI S 131 i))) + 25)) (lv' := [(3, .int (((10 * (mI S 130 i)) - (6 * (mI S 131 i))) + 25)), (0, .ref (gG S 0 0)), (1, .ref (gG S 8 i)), (2, .int a)]) hx hb dX0_strengthOf_55 hl (k := 0) rfl (rfl) (by decide) rfl (fun ls hl => ?_)
          exact J58 (((10 * (mI S 130 i)) - (6 * (mI S 131 i))) + 25) _ _ _ (by simp_all [cBase, b2i, ← Int32.not_le]) w (lv_sub hl [1, 2, 3, 0] rfl)
      · refine lv_iconst (v := 1) hx hb dX0_strengthOf_47 (by decide) ?_
        refine lv_goto (tgt := 52) hx hb dX0_strengthOf_48 (by decide) ?_
        refine lv_icmp_ne (tgt := 58) hx hb dX0_strengthOf_52 (by decide) (fun hc13 => ?_) (fun hc13 => ?_)
        · exact J58 ((10 * (mI S 130 i)) - (6 * (mI S 131 i))) _ _ _ (by simp_all [cBase, b2i, ← Int32.not_le]) w (lv_sub hl [1, 2, 3, 0] rfl)
        · refine lv_iinc (v := (((10 * (mI S 130 i)) - (6 * (mI S 131 i))) + 25)) (lv' := [(3, .int (((10 * (mI S 130 i)) - (6 * (mI S 131 i))) + 25)), (0, .ref (gG S 0 0)), (1, .ref (gG S 8 i)), (2, .int a)]) hx hb dX0_strengthOf_55 hl (k := 0) rfl (rfl) (by decide) rfl (fun ls hl => ?_)
          exact J58 (((10 * (mI S 130 i)) - (6 * (mI S 131 i))) + 25) _ _ _ (by simp_all [cBase, b2i, ← Int32.not_le]) w (lv_sub hl [1, 2, 3, 0] rfl)
  · refine lv_iconst (v := 0) hx hb dX0_strengthOf_8 (by decide) ?_
    exact rI X w rfl dX0_strengthOf_9 (by decide) (by decide) (pu_i (by unfold cComes; rw [if_pos (b2i_f h0)]))

theorem dX7_qualityOf_0 : decode cX7_qualityOf 0 = .ok (.aload_n 0, 1) := by decide +kernel
theorem dX7_qualityOf_1 : decode cX7_qualityOf 1 = .ok (.getfield 25, 3) := by decide +kernel
theorem dX7_qualityOf_4 : decode cX7_qualityOf 4 = .ok (.aload_n 2, 1) := by decide +kernel
theorem dX7_qualityOf_5 : decode cX7_qualityOf 5 = .ok (.iload_n 3, 1) := by decide +kernel
theorem dX7_qualityOf_6 : decode cX7_qualityOf 6 = .ok (.invokevirtual 57, 3) := by decide +kernel
theorem dX7_qualityOf_9 : decode cX7_qualityOf 9 = .ok (.bipush 10, 2) := by decide +kernel
theorem dX7_qualityOf_11 : decode cX7_qualityOf 11 = .ok (.idiv, 1) := by decide +kernel
theorem dX7_qualityOf_12 : decode cX7_qualityOf 12 = .ok (.iconst 0, 1) := by decide +kernel
theorem dX7_qualityOf_13 : decode cX7_qualityOf 13 = .ok (.bipush 9, 2) := by decide +kernel
theorem dX7_qualityOf_15 : decode cX7_qualityOf 15 = .ok (.invokestatic 63, 3) := by decide +kernel
theorem dX7_qualityOf_18 : decode cX7_qualityOf 18 = .ok (.istore 4, 2) := by decide +kernel
theorem dX7_qualityOf_20 : decode cX7_qualityOf 20 = .ok (.aload_n 1, 1) := by decide +kernel
theorem dX7_qualityOf_21 : decode cX7_qualityOf 21 = .ok (.aload_n 2, 1) := by decide +kernel
theorem dX7_qualityOf_22 : decode cX7_qualityOf 22 = .ok (.getfield 67, 3) := by decide +kernel
theorem dX7_qualityOf_25 : decode cX7_qualityOf 25 = .ok (.invokevirtual 73, 3) := by decide +kernel
theorem dX7_qualityOf_28 : decode cX7_qualityOf 28 = .ok (.istore 5, 2) := by decide +kernel
theorem dX7_qualityOf_30 : decode cX7_qualityOf 30 = .ok (.iload 4, 2) := by decide +kernel
theorem dX7_qualityOf_32 : decode cX7_qualityOf 32 = .ok (.ifCond .eq 8, 3) := by decide +kernel
theorem dX7_qualityOf_35 : decode cX7_qualityOf 35 = .ok (.iload 5, 2) := by decide +kernel
theorem dX7_qualityOf_37 : decode cX7_qualityOf 37 = .ok (.ifCond .ne 5, 3) := by decide +kernel
theorem dX7_qualityOf_40 : decode cX7_qualityOf 40 = .ok (.iconst 0, 1) := by decide +kernel
theorem dX7_qualityOf_41 : decode cX7_qualityOf 41 = .ok (.ireturn, 1) := by decide +kernel
theorem dX7_qualityOf_42 : decode cX7_qualityOf 42 = .ok (.iload 4, 2) := by decide +kernel
theorem dX7_qualityOf_44 : decode cX7_qualityOf 44 = .ok (.iload 5, 2) := by decide +kernel
theorem dX7_qualityOf_46 : decode cX7_qualityOf 46 = .ok (.iadd, 1) := by decide +kernel
theorem dX7_qualityOf_47 : decode cX7_qualityOf 47 = .ok (.aload_n 1, 1) := by decide +kernel
theorem dX7_qualityOf_48 : decode cX7_qualityOf 48 = .ok (.getfield 77, 3) := by decide +kernel
theorem dX7_qualityOf_51 : decode cX7_qualityOf 51 = .ok (.iconst 4, 1) := by decide +kernel
theorem dX7_qualityOf_52 : decode cX7_qualityOf 52 = .ok (.idiv, 1) := by decide +kernel
theorem dX7_qualityOf_53 : decode cX7_qualityOf 53 = .ok (.isub, 1) := by decide +kernel
theorem dX7_qualityOf_54 : decode cX7_qualityOf 54 = .ok (.iconst 0, 1) := by decide +kernel
theorem dX7_qualityOf_55 : decode cX7_qualityOf 55 = .ok (.bipush 18, 2) := by decide +kernel
theorem dX7_qualityOf_57 : decode cX7_qualityOf 57 = .ok (.invokestatic 63, 3) := by decide +kernel
theorem dX7_qualityOf_60 : decode cX7_qualityOf 60 = .ok (.ireturn, 1) := by decide +kernel
abbrev rm_m_X7_qualityOf : Room := { frames := 4, cells := 0, slots := 0, locals := 89 }
set_option maxHeartbeats 4000000 in
set_option maxRecDepth 100000 in
theorem m_X7_qualityOf {s0 : State} {l : Launch} {D : va_G} {cy : Nat → ClassId} (G : Gl s0 l D cy) (S : HS) (ea ns nj nm nt nr nc : Nat) (h : CI ea S ns nj nm nt nr nc) (mo i : Nat) (hmo : mo < nm) (hi : i < ns) (a : Int32) : Ctr s0 l D cy yX7_qualityOf cX7_qualityOf 6 (some .int) rm_m_X7_qualityOf S [.ref (gG S 7 0), .ref (gG S 3 mo), .ref (gG S 8 i), .int a] (PXb S 18) := by
  refine pro "CavershamShift$Room" G rfl rfl (Nat.le_of_ble_eq_true rfl) (fun p e s m below meth c ls X w hnm hl => ?_)
  have hx := X.1
  have hb := X.2.1
  have hown := X.2.2.2.1
  have hts := X.2.2.2.2.1
  have hl : lv_has ls 6 [(0, .ref (gG S 7 0)), (1, .ref (gG S 3 mo)), (2, .ref (gG S 8 i)), (3, .int a)] := hl
  refine lv_aload_n hx hb dX7_qualityOf_0 rfl (lv_at hl 0 rfl) ?_
  refine g_7_0 (S := S) (x := (some (gG S 0 0))) X w h.v7 wF_X7_25 (h.f112) dX7_qualityOf_1 ?_
  refine lv_aload_n hx hb dX7_qualityOf_4 rfl (lv_at hl 2 rfl) ?_
  refine lv_iload_n hx hb dX7_qualityOf_5 rfl (lv_at hl 3 rfl) ?_
  refine cV (S := S) (nA := 2) (As := [.ref (gG S 8 i), .int a]) (rest := []) X w hl h.v0 (m_X0_strengthOf G S ea ns nj nm nt nr nc h i hi a) wY_X0_strengthOf wM_X7_57 wIn_X0_strengthOf wSe_X0_X0_strengthOf wI_X0 (by decide) rfl (by decide +kernel) rfl rfl dX7_qualityOf_6 ⟨by decide, by decide⟩ (Nat.le_of_ble_eq_true rfl) (⟨Nat.le_of_ble_eq_true rfl, Nat.le_of_ble_eq_true rfl⟩) (fun v1 S1 H locs hp w => ?_)
  obtain ⟨rfl, rfl⟩ := hp
  refine lv_bipush (v := 10) hx hb dX7_qualityOf_9 (by decide) ?_
  refine lv_idiv hx hb dX7_qualityOf_11 (by decide) ?_
  refine lv_iconst (v := 0) hx hb dX7_qualityOf_12 (by decide) ?_
  refine lv_bipush (v := 9) hx hb dX7_qualityOf_13 (by decide) ?_
  refine cSN (S := S) (nA := 3) (As := [.int ((cComes S ns nj i a) / 10), .int 0, .int 9]) (rest := []) X w hl (m_X10_hold G S ((cComes S ns nj i a) / 10) 0 9) wY_X10_hold wMN_X7_63 wSt_X10_hold wI_X10 (by decide +kernel) rfl rfl dX7_qualityOf_15 ⟨by decide, by decide⟩ (Nat.le_of_ble_eq_true rfl) (⟨Nat.le_of_ble_eq_true rfl, Nat.le_of_ble_eq_true rfl⟩) (fun v2 S1 H locs hp w => ?_)
  obtain ⟨rfl, rfl⟩ := hp
  refine lv_istore (lv' := [(4, .int (sHold ((cComes S ns nj i a) / 10) 0 9)), (0, .ref (gG S 7 0)), (1, .ref (gG S 3 mo)), (2, .ref (gG S 8 i)), (3, .int a)]) hx hb dX7_qualityOf_18 hl (by decide) rfl (fun ls hl => ?_)
  refine lv_aload_n hx hb dX7_qualityOf_20 rfl (lv_at hl 2 rfl) ?_
  refine lv_aload_n hx hb dX7_qualityOf_21 rfl (lv_at hl 3 rfl) ?_
  obtain ⟨g3, hlg3, heg3⟩ := h.x_to i hi
  refine g_8_5 (S := S) (x := (nI g3)) X w (h.e_st i hi).2 wF_X7_67 (heg3) dX7_qualityOf_22 ?_
  refine cV (S := S) (nA := 1) (As := [.int (nI g3)]) (rest := []) X w hl (h.e_mo mo hmo).2 (m_X3_skillFor G S ea ns nj nm nt nr nc h mo g3 hmo (by omega)) wY_X3_skillFor wM_X7_73 wIn_X3_skillFor wSe_X3_X3_skillFor wI_X3 (by decide) rfl (by decide +kernel) rfl rfl dX7_qualityOf_25 ⟨by decide, by decide⟩ (Nat.le_of_ble_eq_true rfl) (⟨Nat.le_of_ble_eq_true rfl, Nat.le_of_ble_eq_true rfl⟩) (fun v5 S1 H locs hp w => ?_)
  obtain ⟨⟨x4, rfl⟩, rfl⟩ := hp
  refine lv_istore (lv' := [(5, .int x4), (4, .int (sHold ((cComes S ns nj i a) / 10) 0 9)), (0, .ref (gG S 7 0)), (1, .ref (gG S 3 mo)), (2, .ref (gG S 8 i)), (3, .int a)]) hx hb dX7_qualityOf_28 hl (by decide) rfl (fun ls hl => ?_)
  refine lv_iload hx hb dX7_qualityOf_30 (lv_at hl 1 rfl) ?_
  refine lv_if_eq (tgt := 40) hx hb dX7_qualityOf_32 (by decide) (fun hc6 => ?_) (fun hc6 => ?_)
  · refine lv_iconst (v := 0) hx hb dX7_qualityOf_40 (by decide) ?_
    exact rI X w rfl dX7_qualityOf_41 (by decide) (by decide) (by first | exact px_hold | exact px_b0)
  · refine lv_iload hx hb dX7_qualityOf_35 (lv_at hl 0 rfl) ?_
    refine lv_if_ne (tgt := 42) hx hb dX7_qualityOf_37 (by decide) (fun hc7 => ?_) (fun hc7 => ?_)
    · refine lv_iload hx hb dX7_qualityOf_42 (lv_at hl 1 rfl) ?_
      refine lv_iload hx hb dX7_qualityOf_44 (lv_at hl 0 rfl) ?_
      refine lv_iadd hx hb dX7_qualityOf_46 ?_
      refine lv_aload_n hx hb dX7_qualityOf_47 rfl (lv_at hl 3 rfl) ?_
      refine g_3_2 (S := S) (x := (mI S 50 mo)) X w (h.e_mo mo hmo).2 wF_X7_77 (rfl) dX7_qualityOf_48 ?_
      refine lv_iconst (v := 4) hx hb dX7_qualityOf_51 (by decide) ?_
      refine lv_idiv hx hb dX7_qualityOf_52 (by decide) ?_
      refine lv_isub hx hb dX7_qualityOf_53 ?_
      refine lv_iconst (v := 0) hx hb dX7_qualityOf_54 (by decide) ?_
      refine lv_bipush (v := 18) hx hb dX7_qualityOf_55 (by decide) ?_
      refine cSN (S := S) (nA := 3) (As := [.int (((sHold ((cComes S ns nj i a) / 10) 0 9) + x4) - ((mI S 50 mo) / 4)), .int 0, .int 18]) (rest := []) X w hl (m_X10_hold G S (((sHold ((cComes S ns nj i a) / 10) 0 9) + x4) - ((mI S 50 mo) / 4)) 0 18) wY_X10_hold wMN_X7_63 wSt_X10_hold wI_X10 (by decide +kernel) rfl rfl dX7_qualityOf_57 ⟨by decide, by decide⟩ (Nat.le_of_ble_eq_true rfl) (⟨Nat.le_of_ble_eq_true rfl, Nat.le_of_ble_eq_true rfl⟩) (fun v8 S1 H locs hp w => ?_)
      obtain ⟨rfl, rfl⟩ := hp
      exact rI X w rfl dX7_qualityOf_60 (by decide) (by decide) (by first | exact px_hold | exact px_b0)
    · refine lv_iconst (v := 0) hx hb dX7_qualityOf_40 (by decide) ?_
      exact rI X w rfl dX7_qualityOf_41 (by decide) (by decide) (by first | exact px_hold | exact px_b0)

