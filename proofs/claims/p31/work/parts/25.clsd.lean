theorem dX10_wouldSend_0 : decode cX10_wouldSend 0 = .ok (.aload_n 0, 1) := by decide +kernel
theorem dX10_wouldSend_1 : decode cX10_wouldSend 1 = .ok (.getfield 28, 3) := by decide +kernel
theorem dX10_wouldSend_4 : decode cX10_wouldSend 4 = .ok (.aload_n 0, 1) := by decide +kernel
theorem dX10_wouldSend_5 : decode cX10_wouldSend 5 = .ok (.getfield 41, 3) := by decide +kernel
theorem dX10_wouldSend_8 : decode cX10_wouldSend 8 = .ok (.invokevirtual 380, 3) := by decide +kernel
theorem dX10_wouldSend_11 : decode cX10_wouldSend 11 = .ok (.ireturn, 1) := by decide +kernel
abbrev rm_m_X10_wouldSend : Room := { frames := 5, cells := 0, slots := 0, locals := 115 }
set_option maxHeartbeats 4000000 in
set_option maxRecDepth 100000 in
theorem m_X10_wouldSend {s0 : State} {l : Launch} {D : va_G} {cy : Nat → ClassId} (G : Gl s0 l D cy) (S : HS) (ea ns nj nm nt nr nc : Nat) (h : CI ea S ns nj nm nt nr nc)  : Ctr s0 l D cy yX10_wouldSend cX10_wouldSend 1 (some .int) rm_m_X10_wouldSend S [.ref (gG S 10 0)] (PXi S) := by
  refine pro "CavershamShift" G rfl rfl (Nat.le_of_ble_eq_true rfl) (fun p e s m below meth c ls X w hnm hl => ?_)
  have hx := X.1
  have hb := X.2.1
  have hown := X.2.2.2.1
  have hts := X.2.2.2.2.1
  have hl : lv_has ls 1 [(0, .ref (gG S 10 0))] := hl
  refine lv_aload_n hx hb dX10_wouldSend_0 rfl (lv_at hl 0 rfl) ?_
  refine g_10_2 (S := S) (x := (some (gG S 4 0))) X w h.v10 wF_X10_28 (h.f162) dX10_wouldSend_1 ?_
  refine lv_aload_n hx hb dX10_wouldSend_4 rfl (lv_at hl 0 rfl) ?_
  refine g_10_4 (S := S) (x := (mI S 164 0)) X w h.v10 wF_X10_41 (rfl) dX10_wouldSend_5 ?_
  refine cV (S := S) (nA := 1) (As := [.int (mI S 164 0)]) (rest := []) X w hl h.v4 (m_X4_countToSend G S ea ns nj nm nt nr nc h (mI S 164 0)) wY_X4_countToSend wM_X10_380 wIn_X4_countToSend wSe_X4_X4_countToSend wI_X4 (by decide) rfl (by decide +kernel) rfl rfl dX10_wouldSend_8 ⟨by decide, by decide⟩ (Nat.le_of_ble_eq_true rfl) (⟨Nat.le_of_ble_eq_true rfl, Nat.le_of_ble_eq_true rfl⟩) (fun v2 S1 H locs hp w => ?_)
  obtain ⟨⟨x1, rfl⟩, rfl⟩ := hp
  exact rI X w rfl dX10_wouldSend_11 (by decide) (by decide) (px_i)

theorem dX10_isSound_0 : decode cX10_isSound 0 = .ok (.aload_n 0, 1) := by decide +kernel
theorem dX10_isSound_1 : decode cX10_isSound 1 = .ok (.getfield 21, 3) := by decide +kernel
theorem dX10_isSound_4 : decode cX10_isSound 4 = .ok (.invokevirtual 383, 3) := by decide +kernel
theorem dX10_isSound_7 : decode cX10_isSound 7 = .ok (.ifCond .eq 17, 3) := by decide +kernel
theorem dX10_isSound_10 : decode cX10_isSound 10 = .ok (.aload_n 0, 1) := by decide +kernel
theorem dX10_isSound_11 : decode cX10_isSound 11 = .ok (.getfield 28, 3) := by decide +kernel
theorem dX10_isSound_14 : decode cX10_isSound 14 = .ok (.invokevirtual 387, 3) := by decide +kernel
theorem dX10_isSound_17 : decode cX10_isSound 17 = .ok (.ifCond .eq 7, 3) := by decide +kernel
theorem dX10_isSound_20 : decode cX10_isSound 20 = .ok (.iconst 1, 1) := by decide +kernel
theorem dX10_isSound_21 : decode cX10_isSound 21 = .ok (.goto 4, 3) := by decide +kernel
theorem dX10_isSound_24 : decode cX10_isSound 24 = .ok (.iconst 0, 1) := by decide +kernel
theorem dX10_isSound_25 : decode cX10_isSound 25 = .ok (.ireturn, 1) := by decide +kernel
abbrev rm_m_X10_isSound : Room := { frames := 5, cells := 0, slots := 0, locals := 112 }
set_option maxHeartbeats 4000000 in
set_option maxRecDepth 100000 in
theorem m_X10_isSound {s0 : State} {l : Launch} {D : va_G} {cy : Nat → ClassId} (G : Gl s0 l D cy) (S : HS) (ea ns nj nm nt nr nc : Nat) (h : CI ea S ns nj nm nt nr nc)  : Ctr s0 l D cy yX10_isSound cX10_isSound 1 (some .boolean) rm_m_X10_isSound S [.ref (gG S 10 0)] (PXz S) := by
  refine pro "CavershamShift" G rfl rfl (Nat.le_of_ble_eq_true rfl) (fun p e s m below meth c ls X w hnm hl => ?_)
  have hx := X.1
  have hb := X.2.1
  have hown := X.2.2.2.1
  have hts := X.2.2.2.2.1
  have hl : lv_has ls 1 [(0, .ref (gG S 10 0))] := hl
  refine lv_aload_n hx hb dX10_isSound_0 rfl (lv_at hl 0 rfl) ?_
  refine g_10_1 (S := S) (x := (some (gG S 7 0))) X w h.v10 wF_X10_21 (h.f161) dX10_isSound_1 ?_
  refine cV (S := S) (nA := 0) (As := []) (rest := []) X w hl h.v7 (m_X7_isShiftSound G S ea ns nj nm nt nr nc h ) wY_X7_isShiftSound wM_X10_383 wIn_X7_isShiftSound wSe_X7_X7_isShiftSound wI_X7 (by decide) rfl (by decide +kernel) rfl rfl dX10_isSound_4 ⟨by decide, by decide⟩ (Nat.le_of_ble_eq_true rfl) (⟨Nat.le_of_ble_eq_true rfl, Nat.le_of_ble_eq_true rfl⟩) (fun v2 S1 H locs hp w => ?_)
  obtain ⟨⟨x1, rfl⟩, rfl⟩ := hp
  refine lv_if_eq (tgt := 24) hx hb dX10_isSound_7 (by decide) (fun hc3 => ?_) (fun hc3 => ?_)
  · refine lv_iconst (v := 0) hx hb dX10_isSound_24 (by decide) ?_
    exact rZ X w rfl dX10_isSound_25 (by decide) (by decide) (by decide) (px_z01 (by first | exact Or.inl rfl | exact Or.inr rfl | exact b2i_01 _))
  · refine lv_aload_n hx hb dX10_isSound_10 rfl (lv_at hl 0 rfl) ?_
    refine g_10_2 (S := S) (x := (some (gG S 4 0))) X w h.v10 wF_X10_28 (h.f162) dX10_isSound_11 ?_
    refine cV (S := S) (nA := 0) (As := []) (rest := []) X w hl h.v4 (m_X4_isStateSound G S ea ns nj nm nt nr nc h ) wY_X4_isStateSound wM_X10_387 wIn_X4_isStateSound wSe_X4_X4_isStateSound wI_X4 (by decide) rfl (by decide +kernel) rfl rfl dX10_isSound_14 ⟨by decide, by decide⟩ (Nat.le_of_ble_eq_true rfl) (⟨Nat.le_of_ble_eq_true rfl, Nat.le_of_ble_eq_true rfl⟩) (fun v5 S1 H locs hp w => ?_)
    obtain ⟨⟨x4, rfl⟩, rfl⟩ := hp
    refine lv_if_eq (tgt := 24) hx hb dX10_isSound_17 (by decide) (fun hc6 => ?_) (fun hc6 => ?_)
    · refine lv_iconst (v := 0) hx hb dX10_isSound_24 (by decide) ?_
      exact rZ X w rfl dX10_isSound_25 (by decide) (by decide) (by decide) (px_z01 (by first | exact Or.inl rfl | exact Or.inr rfl | exact b2i_01 _))
    · refine lv_iconst (v := 1) hx hb dX10_isSound_20 (by decide) ?_
      refine lv_goto (tgt := 25) hx hb dX10_isSound_21 (by decide) ?_
      exact rZ X w rfl dX10_isSound_25 (by decide) (by decide) (by decide) (px_z01 (by first | exact Or.inl rfl | exact Or.inr rfl | exact b2i_01 _))

theorem dX10_withDial_0 : decode cX10_withDial 0 = .ok (.lload_n 1, 1) := by decide +kernel
theorem dX10_withDial_1 : decode cX10_withDial 1 = .ok (.lstore_n 3, 1) := by decide +kernel
theorem dX10_withDial_2 : decode cX10_withDial 2 = .ok (.iconst 0, 1) := by decide +kernel
theorem dX10_withDial_3 : decode cX10_withDial 3 = .ok (.istore 5, 2) := by decide +kernel
theorem dX10_withDial_5 : decode cX10_withDial 5 = .ok (.iload 5, 2) := by decide +kernel
theorem dX10_withDial_7 : decode cX10_withDial 7 = .ok (.aload_n 0, 1) := by decide +kernel
theorem dX10_withDial_8 : decode cX10_withDial 8 = .ok (.getfield 12, 3) := by decide +kernel
theorem dX10_withDial_11 : decode cX10_withDial 11 = .ok (.getfield 62, 3) := by decide +kernel
theorem dX10_withDial_14 : decode cX10_withDial 14 = .ok (.invokevirtual 66, 3) := by decide +kernel
theorem dX10_withDial_17 : decode cX10_withDial 17 = .ok (.if_icmp .ge 52, 3) := by decide +kernel
theorem dX10_withDial_20 : decode cX10_withDial 20 = .ok (.iconst 0, 1) := by decide +kernel
theorem dX10_withDial_21 : decode cX10_withDial 21 = .ok (.istore 6, 2) := by decide +kernel
theorem dX10_withDial_23 : decode cX10_withDial 23 = .ok (.iload 6, 2) := by decide +kernel
theorem dX10_withDial_25 : decode cX10_withDial 25 = .ok (.bipush 9, 2) := by decide +kernel
theorem dX10_withDial_27 : decode cX10_withDial 27 = .ok (.if_icmp .ge 36, 3) := by decide +kernel
theorem dX10_withDial_30 : decode cX10_withDial 30 = .ok (.lload_n 3, 1) := by decide +kernel
theorem dX10_withDial_31 : decode cX10_withDial 31 = .ok (.aload_n 0, 1) := by decide +kernel
theorem dX10_withDial_32 : decode cX10_withDial 32 = .ok (.aload_n 0, 1) := by decide +kernel
theorem dX10_withDial_33 : decode cX10_withDial 33 = .ok (.getfield 12, 3) := by decide +kernel
theorem dX10_withDial_36 : decode cX10_withDial 36 = .ok (.getfield 62, 3) := by decide +kernel
theorem dX10_withDial_39 : decode cX10_withDial 39 = .ok (.iload 5, 2) := by decide +kernel
theorem dX10_withDial_41 : decode cX10_withDial 41 = .ok (.invokevirtual 417, 3) := by decide +kernel
theorem dX10_withDial_44 : decode cX10_withDial 44 = .ok (.checkcast 77, 3) := by decide +kernel
theorem dX10_withDial_47 : decode cX10_withDial 47 = .ok (.iload 6, 2) := by decide +kernel
theorem dX10_withDial_49 : decode cX10_withDial 49 = .ok (.invokevirtual 246, 3) := by decide +kernel
theorem dX10_withDial_52 : decode cX10_withDial 52 = .ok (.i2l, 1) := by decide +kernel
theorem dX10_withDial_53 : decode cX10_withDial 53 = .ok (.invokestatic 392, 3) := by decide +kernel
theorem dX10_withDial_56 : decode cX10_withDial 56 = .ok (.lstore_n 3, 1) := by decide +kernel
theorem dX10_withDial_57 : decode cX10_withDial 57 = .ok (.iinc 6 1, 3) := by decide +kernel
theorem dX10_withDial_60 : decode cX10_withDial 60 = .ok (.goto (-37), 3) := by decide +kernel
theorem dX10_withDial_63 : decode cX10_withDial 63 = .ok (.iinc 5 1, 3) := by decide +kernel
theorem dX10_withDial_66 : decode cX10_withDial 66 = .ok (.goto (-61), 3) := by decide +kernel
theorem dX10_withDial_69 : decode cX10_withDial 69 = .ok (.iconst 0, 1) := by decide +kernel
theorem dX10_withDial_70 : decode cX10_withDial 70 = .ok (.istore 5, 2) := by decide +kernel
theorem dX10_withDial_72 : decode cX10_withDial 72 = .ok (.iload 5, 2) := by decide +kernel
theorem dX10_withDial_74 : decode cX10_withDial 74 = .ok (.aload_n 0, 1) := by decide +kernel
theorem dX10_withDial_75 : decode cX10_withDial 75 = .ok (.getfield 21, 3) := by decide +kernel
theorem dX10_withDial_78 : decode cX10_withDial 78 = .ok (.getfield 124, 3) := by decide +kernel
theorem dX10_withDial_81 : decode cX10_withDial 81 = .ok (.invokevirtual 66, 3) := by decide +kernel
theorem dX10_withDial_84 : decode cX10_withDial 84 = .ok (.if_icmp .ge 52, 3) := by decide +kernel
theorem dX10_withDial_87 : decode cX10_withDial 87 = .ok (.iconst 0, 1) := by decide +kernel
theorem dX10_withDial_88 : decode cX10_withDial 88 = .ok (.istore 6, 2) := by decide +kernel
theorem dX10_withDial_90 : decode cX10_withDial 90 = .ok (.iload 6, 2) := by decide +kernel
theorem dX10_withDial_92 : decode cX10_withDial 92 = .ok (.bipush 9, 2) := by decide +kernel
theorem dX10_withDial_94 : decode cX10_withDial 94 = .ok (.if_icmp .ge 36, 3) := by decide +kernel
theorem dX10_withDial_97 : decode cX10_withDial 97 = .ok (.lload_n 3, 1) := by decide +kernel
theorem dX10_withDial_98 : decode cX10_withDial 98 = .ok (.aload_n 0, 1) := by decide +kernel
theorem dX10_withDial_99 : decode cX10_withDial 99 = .ok (.aload_n 0, 1) := by decide +kernel
theorem dX10_withDial_100 : decode cX10_withDial 100 = .ok (.getfield 21, 3) := by decide +kernel
theorem dX10_withDial_103 : decode cX10_withDial 103 = .ok (.getfield 124, 3) := by decide +kernel
theorem dX10_withDial_106 : decode cX10_withDial 106 = .ok (.iload 5, 2) := by decide +kernel
theorem dX10_withDial_108 : decode cX10_withDial 108 = .ok (.invokevirtual 417, 3) := by decide +kernel
theorem dX10_withDial_111 : decode cX10_withDial 111 = .ok (.checkcast 129, 3) := by decide +kernel
theorem dX10_withDial_114 : decode cX10_withDial 114 = .ok (.iload 6, 2) := by decide +kernel
theorem dX10_withDial_116 : decode cX10_withDial 116 = .ok (.invokevirtual 255, 3) := by decide +kernel
theorem dX10_withDial_119 : decode cX10_withDial 119 = .ok (.i2l, 1) := by decide +kernel
theorem dX10_withDial_120 : decode cX10_withDial 120 = .ok (.invokestatic 392, 3) := by decide +kernel
theorem dX10_withDial_123 : decode cX10_withDial 123 = .ok (.lstore_n 3, 1) := by decide +kernel
theorem dX10_withDial_124 : decode cX10_withDial 124 = .ok (.iinc 6 1, 3) := by decide +kernel
theorem dX10_withDial_127 : decode cX10_withDial 127 = .ok (.goto (-37), 3) := by decide +kernel
theorem dX10_withDial_130 : decode cX10_withDial 130 = .ok (.iinc 5 1, 3) := by decide +kernel
theorem dX10_withDial_133 : decode cX10_withDial 133 = .ok (.goto (-61), 3) := by decide +kernel
theorem dX10_withDial_136 : decode cX10_withDial 136 = .ok (.lload_n 3, 1) := by decide +kernel
theorem dX10_withDial_137 : decode cX10_withDial 137 = .ok (.lreturn, 1) := by decide +kernel
abbrev rm_m_X10_withDial : Room := { frames := 5, cells := 0, slots := 0, locals := 111 }
set_option maxHeartbeats 4000000 in
set_option maxRecDepth 100000 in
theorem m_X10_withDial {s0 : State} {l : Launch} {D : va_G} {cy : Nat → ClassId} (G : Gl s0 l D cy) (S : HS) (ea ns nj nm nt nr nc : Nat) (h : CI ea S ns nj nm nt nr nc) (d : Int64) : Ctr s0 l D cy yX10_withDial cX10_withDial 7 (some .long) rm_m_X10_withDial S [.ref (gG S 10 0), .long d] (PXl S) := by
  refine pro "CavershamShift" G rfl rfl (Nat.le_of_ble_eq_true rfl) (fun p e s m below meth c ls X w hnm hl => ?_)
  have hx := X.1
  have hb := X.2.1
  have hown := X.2.2.2.1
  have hts := X.2.2.2.2.1
  have hl : lv_has ls 7 [(0, .ref (gG S 10 0)), (1, .long d)] := hl
  refine lv_lload_n hx hb dX10_withDial_0 rfl (lv_at hl 1 rfl) ?_
  refine lv_lstore_n (lv' := [(3, .long d), (0, .ref (gG S 10 0)), (1, .long d)]) hx hb dX10_withDial_1 rfl hl (by decide) rfl (fun ls hl => ?_)
  refine lv_iconst (v := 0) hx hb dX10_withDial_2 (by decide) ?_
  refine lv_istore (lv' := [(5, .int 0), (3, .long d), (0, .ref (gG S 10 0)), (1, .long d)]) hx hb dX10_withDial_3 hl (by decide) rfl (fun ls hl => ?_)
  have L5 : ∀ (N : Nat) (k5 : Nat) (v5_3 : Int64) (H : Heap) (locs : List Loc) (ls : Array Slot), ns - k5 < N → (k5 ≤ ns) → Wd s0 D cy S s.heap H locs → lv_has ls 7 [(5, .int (nI k5)), (3, .long v5_3), (0, .ref (gG S 10 0)), (1, .long d)] → W p l e rm_m_X10_withDial s m ([.ref (gG S 10 0), .long d] : List Value).toArray below meth c H locs 0 0 (MQ below (GQ s0 D cy (PXl S)) ([.ref (gG S 10 0), .long d] : List Value).toArray s rm_m_X10_withDial.cells rm_m_X10_withDial.slots (A0 s0)) (F0 m 5 ls []) := by
    intro N
    induction N with
    | zero => intros; omega
    | succ N ih5 =>
      intro k5 v5_3 H locs ls hmu hk_k5 w hl
      refine lv_iload hx hb dX10_withDial_5 (lv_at hl 0 rfl) ?_
      refine lv_aload_n hx hb dX10_withDial_7 rfl (lv_at hl 2 rfl) ?_
      refine g_10_0 (S := S) (x := (some (gG S 0 0))) X w h.v10 wF_X10_12 (h.f160) dX10_withDial_8 ?_
      refine g_0_0 (S := S) (x := (some (gG S 17 0))) X w h.v0 wF_X10_62 (h.f0) dX10_withDial_11 ?_
      refine cV (S := S) (nA := 0) (As := []) (rest := [.int (nI k5)]) X w hl h.l_st.1 (m_size G S ea 0 ns h.l_st) wY_Jx4a65c_size_8abf5 wM_X10_66 wIn_Jx4a65c_size_8abf5 wSe_Jx4a65c_Jx4a65c_size_8abf5 wI_Jx4a65c (by decide) rfl (by decide +kernel) rfl rfl dX10_withDial_14 ⟨by decide, by decide⟩ (Nat.le_of_ble_eq_true rfl) (⟨Nat.le_of_ble_eq_true rfl, Nat.le_of_ble_eq_true rfl⟩) (fun v1 S1 H locs hp w => ?_)
      obtain ⟨rfl, rfl⟩ := hp
      refine lv_icmp_ge (tgt := 69) hx hb dX10_withDial_17 (by decide) (fun hc_k5 => ?_) (fun hc_k5 => ?_)
      · have hge_k5 : ns ≤ k5 := by
          have hb1 := h.b_st
          exact (nI_leI (a := ns) (b := k5) (by omega) (by omega)).mp hc_k5
        refine lv_iconst (v := 0) hx hb dX10_withDial_69 (by decide) ?_
        refine lv_istore (lv' := [(5, .int 0), (3, .long v5_3), (0, .ref (gG S 10 0)), (1, .long d)]) hx hb dX10_withDial_70 hl (by decide) rfl (fun ls hl => ?_)
        have L72 : ∀ (N : Nat) (k72 : Nat) (v72_3 : Int64) (H : Heap) (locs : List Loc) (ls : Array Slot), nm - k72 < N → (k72 ≤ nm) → Wd s0 D cy S s.heap H locs → lv_has ls 7 [(5, .int (nI k72)), (3, .long v72_3), (0, .ref (gG S 10 0)), (1, .long d)] → W p l e rm_m_X10_withDial s m ([.ref (gG S 10 0), .long d] : List Value).toArray below meth c H locs 0 0 (MQ below (GQ s0 D cy (PXl S)) ([.ref (gG S 10 0), .long d] : List Value).toArray s rm_m_X10_withDial.cells rm_m_X10_withDial.slots (A0 s0)) (F0 m 72 ls []) := by
          intro N
          induction N with
          | zero => intros; omega
          | succ N ih72 =>
            intro k72 v72_3 H locs ls hmu hk_k72 w hl
            refine lv_iload hx hb dX10_withDial_72 (lv_at hl 0 rfl) ?_
            refine lv_aload_n hx hb dX10_withDial_74 rfl (lv_at hl 2 rfl) ?_
            refine g_10_1 (S := S) (x := (some (gG S 7 0))) X w h.v10 wF_X10_21 (h.f161) dX10_withDial_75 ?_
            refine g_7_1 (S := S) (x := (some (gG S 17 2))) X w h.v7 wF_X10_124 (h.f113) dX10_withDial_78 ?_
            refine cV (S := S) (nA := 0) (As := []) (rest := [.int (nI k72)]) X w hl h.l_mo.1 (m_size G S ea 2 nm h.l_mo) wY_Jx4a65c_size_8abf5 wM_X10_66 wIn_Jx4a65c_size_8abf5 wSe_Jx4a65c_Jx4a65c_size_8abf5 wI_Jx4a65c (by decide) rfl (by decide +kernel) rfl rfl dX10_withDial_81 ⟨by decide, by decide⟩ (Nat.le_of_ble_eq_true rfl) (⟨Nat.le_of_ble_eq_true rfl, Nat.le_of_ble_eq_true rfl⟩) (fun v2 S1 H locs hp w => ?_)
            obtain ⟨rfl, rfl⟩ := hp
            refine lv_icmp_ge (tgt := 136) hx hb dX10_withDial_84 (by decide) (fun hc_k72 => ?_) (fun hc_k72 => ?_)
            · have hge_k72 : nm ≤ k72 := by
                have hb1 := h.b_mo
                exact (nI_leI (a := nm) (b := k72) (by omega) (by omega)).mp hc_k72
              refine lv_lload_n hx hb dX10_withDial_136 rfl (lv_at hl 1 rfl) ?_
              exact rL X w rfl dX10_withDial_137 (by decide) (by decide) (px_l)
            · have hlt_k72 : k72 < nm := by
                have hb1 := h.b_mo
                exact Nat.lt_of_not_le (fun z => hc_k72 ((nI_leI (a := nm) (b := k72) (by omega) (by omega)).mpr z))
              refine lv_iconst (v := 0) hx hb dX10_withDial_87 (by decide) ?_
              refine lv_istore (lv' := [(6, .int 0), (5, .int (nI k72)), (3, .long v72_3), (0, .ref (gG S 10 0)), (1, .long d)]) hx hb dX10_withDial_88 hl (by decide) rfl (fun ls hl => ?_)
              have L90 : ∀ (N : Nat) (k90 : Nat) (v90_3 : Int64) (H : Heap) (locs : List Loc) (ls : Array Slot), 9 - k90 < N → (k90 ≤ 9) → Wd s0 D cy S s.heap H locs → lv_has ls 7 [(6, .int (nI k90)), (5, .int (nI k72)), (3, .long v90_3), (0, .ref (gG S 10 0)), (1, .long d)] → W p l e rm_m_X10_withDial s m ([.ref (gG S 10 0), .long d] : List Value).toArray below meth c H locs 0 0 (MQ below (GQ s0 D cy (PXl S)) ([.ref (gG S 10 0), .long d] : List Value).toArray s rm_m_X10_withDial.cells rm_m_X10_withDial.slots (A0 s0)) (F0 m 90 ls []) := by
                intro N
                induction N with
                | zero => intros; omega
                | succ N ih90 =>
                  intro k90 v90_3 H locs ls hmu hk_k90 w hl
                  refine lv_iload hx hb dX10_withDial_90 (lv_at hl 0 rfl) ?_
                  refine lv_bipush (v := 9) hx hb dX10_withDial_92 (by decide) ?_
                  refine lv_icmp_ge (tgt := 130) hx hb dX10_withDial_94 (by decide) (fun hc_k90 => ?_) (fun hc_k90 => ?_)
                  · have hge_k90 : 9 ≤ k90 := by
                      skip
                      exact (nI_leI (a := 9) (b := k90) (by omega) (by omega)).mp hc_k90
                    refine lv_iinc (v := nI (k72 + 1)) (lv' := [(5, .int (nI (k72 + 1))), (6, .int (nI k90)), (3, .long v90_3), (0, .ref (gG S 10 0)), (1, .long d)]) hx hb dX10_withDial_130 hl (k := 1) rfl (nI_1 _) (by decide) rfl (fun ls hl => ?_)
                    refine lv_goto (tgt := 72) hx hb dX10_withDial_133 (by decide) ?_
                    exact ih72 (k72 + 1) v90_3 _ _ _ (by omega) (hlt_k72) w (lv_sub hl [0, 2, 3, 4] rfl)
                  · have hlt_k90 : k90 < 9 := by
                      skip
                      exact Nat.lt_of_not_le (fun z => hc_k90 ((nI_leI (a := 9) (b := k90) (by omega) (by omega)).mpr z))
                    refine lv_lload_n hx hb dX10_withDial_97 rfl (lv_at hl 2 rfl) ?_
                    refine lv_aload_n hx hb dX10_withDial_98 rfl (lv_at hl 3 rfl) ?_
                    refine lv_aload_n hx hb dX10_withDial_99 rfl (lv_at hl 3 rfl) ?_
                    refine g_10_1 (S := S) (x := (some (gG S 7 0))) X w h.v10 wF_X10_21 (h.f161) dX10_withDial_100 ?_
                    refine g_7_1 (S := S) (x := (some (gG S 17 2))) X w h.v7 wF_X10_124 (h.f113) dX10_withDial_103 ?_
                    refine lv_iload hx hb dX10_withDial_106 (lv_at hl 1 rfl) ?_
                    refine cV (S := S) (nA := 1) (As := [.int (nI k72)]) (rest := [.ref (gG S 10 0), .long v90_3]) X w hl h.l_mo.1 (m_get G S ea 2 k72 nm (some (gG S 3 k72)) h.l_mo hlt_k72 (h.e_mo k72 hlt_k72).1) wY_Jx4a65c_get_915e3 wM_X10_417 wIn_Jx4a65c_get_915e3 wSe_Jx4a65c_Jx4a65c_get_915e3 wI_Jx4a65c (by decide) rfl (by decide +kernel) rfl rfl dX10_withDial_108 ⟨by decide, by decide⟩ (Nat.le_of_ble_eq_true rfl) (⟨Nat.le_of_ble_eq_true rfl, Nat.le_of_ble_eq_true rfl⟩) (fun v3 S1 H locs hp w => ?_)
                    obtain ⟨rfl, rfl⟩ := hp
                    refine ckC (S := S) (t := 3) X w (h.e_mo k72 hlt_k72).2 (by decide) rfl wC_X10_129 dX10_withDial_111 ?_
                    refine lv_iload hx hb dX10_withDial_114 (lv_at hl 0 rfl) ?_
                    refine cV (S := S) (nA := 2) (As := [.ref (gG S 3 k72), .int (nI k90)]) (rest := [.long v90_3]) X w hl h.v10 (m_X10_monitorFact G S ea ns nj nm nt nr nc h k72 k90 hlt_k72 (by omega)) wY_X10_monitorFact wM_X10_255 wIn_X10_monitorFact wSe_X10_X10_monitorFact wI_X10 (by decide) rfl (by decide +kernel) rfl rfl dX10_withDial_116 ⟨by decide, by decide⟩ (Nat.le_of_ble_eq_true rfl) (⟨Nat.le_of_ble_eq_true rfl, Nat.le_of_ble_eq_true rfl⟩) (fun v5 S1 H locs hp w => ?_)
                    obtain ⟨⟨x4, rfl⟩, rfl⟩ := hp
                    refine lv_i2l hx hb dX10_withDial_119 rfl ?_
                    refine cS (S := S) (nA := 2) (As := [.long v90_3, .long x4.toInt64]) (rest := []) X w hl (m_X10_mixed G S ea ns nj nm nt nr nc h v90_3 x4.toInt64) wY_X10_mixed wM_X10_392 wSt_X10_mixed wI_X10 (by decide +kernel) rfl rfl dX10_withDial_120 ⟨by decide, by decide⟩ (Nat.le_of_ble_eq_true rfl) (⟨Nat.le_of_ble_eq_true rfl, Nat.le_of_ble_eq_true rfl⟩) (fun v6 S1 H locs hp w => ?_)
                    obtain ⟨rfl, rfl⟩ := hp
                    refine lv_lstore_n (lv' := [(3, .long (v90_3 * 31 + x4.toInt64)), (6, .int (nI k90)), (5, .int (nI k72)), (0, .ref (gG S 10 0)), (1, .long d)]) hx hb dX10_withDial_123 rfl hl (by decide) rfl (fun ls hl => ?_)
                    refine lv_iinc (v := nI (k90 + 1)) (lv' := [(6, .int (nI (k90 + 1))), (3, .long (v90_3 * 31 + x4.toInt64)), (5, .int (nI k72)), (0, .ref (gG S 10 0)), (1, .long d)]) hx hb dX10_withDial_124 hl (k := 1) rfl (nI_1 _) (by decide) rfl (fun ls hl => ?_)
                    refine lv_goto (tgt := 90) hx hb dX10_withDial_127 (by decide) ?_
                    exact ih90 (k90 + 1) (v90_3 * 31 + x4.toInt64) _ _ _ (by omega) (hlt_k90) w (lv_sub hl [0, 2, 1, 3, 4] rfl)
              exact L90 _ 0 v72_3 _ _ _ (Nat.lt_succ_self _) (Nat.zero_le _) w (lv_sub hl [0, 1, 2, 3, 4] rfl)
        exact L72 _ 0 v5_3 _ _ _ (Nat.lt_succ_self _) (Nat.zero_le _) w (lv_sub hl [0, 1, 2, 3] rfl)
      · have hlt_k5 : k5 < ns := by
          have hb1 := h.b_st
          exact Nat.lt_of_not_le (fun z => hc_k5 ((nI_leI (a := ns) (b := k5) (by omega) (by omega)).mpr z))
        refine lv_iconst (v := 0) hx hb dX10_withDial_20 (by decide) ?_
        refine lv_istore (lv' := [(6, .int 0), (5, .int (nI k5)), (3, .long v5_3), (0, .ref (gG S 10 0)), (1, .long d)]) hx hb dX10_withDial_21 hl (by decide) rfl (fun ls hl => ?_)
        have L23 : ∀ (N : Nat) (k23 : Nat) (v23_3 : Int64) (H : Heap) (locs : List Loc) (ls : Array Slot), 9 - k23 < N → (k23 ≤ 9) → Wd s0 D cy S s.heap H locs → lv_has ls 7 [(6, .int (nI k23)), (5, .int (nI k5)), (3, .long v23_3), (0, .ref (gG S 10 0)), (1, .long d)] → W p l e rm_m_X10_withDial s m ([.ref (gG S 10 0), .long d] : List Value).toArray below meth c H locs 0 0 (MQ below (GQ s0 D cy (PXl S)) ([.ref (gG S 10 0), .long d] : List Value).toArray s rm_m_X10_withDial.cells rm_m_X10_withDial.slots (A0 s0)) (F0 m 23 ls []) := by
          intro N
          induction N with
          | zero => intros; omega
          | succ N ih23 =>
            intro k23 v23_3 H locs ls hmu hk_k23 w hl
            refine lv_iload hx hb dX10_withDial_23 (lv_at hl 0 rfl) ?_
            refine lv_bipush (v := 9) hx hb dX10_withDial_25 (by decide) ?_
            refine lv_icmp_ge (tgt := 63) hx hb dX10_withDial_27 (by decide) (fun hc_k23 => ?_) (fun hc_k23 => ?_)
            · have hge_k23 : 9 ≤ k23 := by
                skip
                exact (nI_leI (a := 9) (b := k23) (by omega) (by omega)).mp hc_k23
              have hge_k23 : 9 ≤ k23 := by
                skip
                exact (nI_leI (a := 9) (b := k23) (by omega) (by omega)).mp hc_k23
              refine lv_iinc (v := nI (k5 + 1)) (lv' := [(5, .int (nI (k5 + 1))), (6, .int (nI k23)), (3, .long v23_3), (0, .ref (gG S 10 0)), (1, .long d)]) hx hb dX10_withDial_63 hl (k := 1) rfl (nI_1 _) (by decide) rfl (fun ls hl => ?_)
              refine lv_goto (tgt := 5) hx hb dX10_withDial_66 (by decide) ?_
              exact ih5 (k5 + 1) v23_3 _ _ _ (by omega) (hlt_k5) w (lv_sub hl [0, 2, 3, 4] rfl)
            · have hlt_k23 : k23 < 9 := by
                skip
                exact Nat.lt_of_not_le (fun z => hc_k23 ((nI_leI (a := 9) (b := k23) (by omega) (by omega)).mpr z))
              have hlt_k23 : k23 < 9 := by
                skip
                exact Nat.lt_of_not_le (fun z => hc_k23 ((nI_leI (a := 9) (b := k23) (by omega) (by omega)).mpr z))
              refine lv_lload_n hx hb dX10_withDial_30 rfl (lv_at hl 2 rfl) ?_
              refine lv_aload_n hx hb dX10_withDial_31 rfl (lv_at hl 3 rfl) ?_
              refine lv_aload_n hx hb dX10_withDial_32 rfl (lv_at hl 3 rfl) ?_
              refine g_10_0 (S := S) (x := (some (gG S 0 0))) X w h.v10 wF_X10_12 (h.f160) dX10_withDial_33 ?_
              refine g_0_0 (S := S) (x := (some (gG S 17 0))) X w h.v0 wF_X10_62 (h.f0) dX10_withDial_36 ?_
              refine lv_iload hx hb dX10_withDial_39 (lv_at hl 1 rfl) ?_
              refine cV (S := S) (nA := 1) (As := [.int (nI k5)]) (rest := [.ref (gG S 10 0), .long v23_3]) X w hl h.l_st.1 (m_get G S ea 0 k5 ns (some (gG S 8 k5)) h.l_st hlt_k5 (h.e_st k5 hlt_k5).1) wY_Jx4a65c_get_915e3 wM_X10_417 wIn_Jx4a65c_get_915e3 wSe_Jx4a65c_Jx4a65c_get_915e3 wI_Jx4a65c (by decide) rfl (by decide +kernel) rfl rfl dX10_withDial_41 ⟨by decide, by decide⟩ (Nat.le_of_ble_eq_true rfl) (⟨Nat.le_of_ble_eq_true rfl, Nat.le_of_ble_eq_true rfl⟩) (fun v7 S1 H locs hp w => ?_)
              obtain ⟨rfl, rfl⟩ := hp
              refine ckC (S := S) (t := 8) X w (h.e_st k5 hlt_k5).2 (by decide) rfl wC_X10_77 dX10_withDial_44 ?_
              refine lv_iload hx hb dX10_withDial_47 (lv_at hl 0 rfl) ?_
              refine cV (S := S) (nA := 2) (As := [.ref (gG S 8 k5), .int (nI k23)]) (rest := [.long v23_3]) X w hl h.v10 (m_X10_stationFact G S ea ns nj nm nt nr nc h k5 hlt_k5 (nI k23)) wY_X10_stationFact wM_X10_246 wIn_X10_stationFact wSe_X10_X10_stationFact wI_X10 (by decide) rfl (by decide +kernel) rfl rfl dX10_withDial_49 ⟨by decide, by decide⟩ (Nat.le_of_ble_eq_true rfl) (⟨Nat.le_of_ble_eq_true rfl, Nat.le_of_ble_eq_true rfl⟩) (fun v9 S1 H locs hp w => ?_)
              obtain ⟨⟨x8, rfl⟩, rfl⟩ := hp
              refine lv_i2l hx hb dX10_withDial_52 rfl ?_
              refine cS (S := S) (nA := 2) (As := [.long v23_3, .long x8.toInt64]) (rest := []) X w hl (m_X10_mixed G S ea ns nj nm nt nr nc h v23_3 x8.toInt64) wY_X10_mixed wM_X10_392 wSt_X10_mixed wI_X10 (by decide +kernel) rfl rfl dX10_withDial_53 ⟨by decide, by decide⟩ (Nat.le_of_ble_eq_true rfl) (⟨Nat.le_of_ble_eq_true rfl, Nat.le_of_ble_eq_true rfl⟩) (fun v10 S1 H locs hp w => ?_)
              obtain ⟨rfl, rfl⟩ := hp
              refine lv_lstore_n (lv' := [(3, .long (v23_3 * 31 + x8.toInt64)), (6, .int (nI k23)), (5, .int (nI k5)), (0, .ref (gG S 10 0)), (1, .long d)]) hx hb dX10_withDial_56 rfl hl (by decide) rfl (fun ls hl => ?_)
              refine lv_iinc (v := nI (k23 + 1)) (lv' := [(6, .int (nI (k23 + 1))), (3, .long (v23_3 * 31 + x8.toInt64)), (5, .int (nI k5)), (0, .ref (gG S 10 0)), (1, .long d)]) hx hb dX10_withDial_57 hl (k := 1) rfl (nI_1 _) (by decide) rfl (fun ls hl => ?_)
              refine lv_goto (tgt := 23) hx hb dX10_withDial_60 (by decide) ?_
              exact ih23 (k23 + 1) (v23_3 * 31 + x8.toInt64) _ _ _ (by omega) (hlt_k23) w (lv_sub hl [0, 2, 1, 3, 4] rfl)
        exact L23 _ 0 v5_3 _ _ _ (Nat.lt_succ_self _) (Nat.zero_le _) w (lv_sub hl [0, 1, 2, 3, 4] rfl)
  exact L5 _ 0 d _ _ _ (Nat.lt_succ_self _) (Nat.zero_le _) w (lv_sub hl [0, 1, 2, 3] rfl)

theorem dX10_withTalks_0 : decode cX10_withTalks 0 = .ok (.lload_n 1, 1) := by decide +kernel
theorem dX10_withTalks_1 : decode cX10_withTalks 1 = .ok (.lstore_n 3, 1) := by decide +kernel
theorem dX10_withTalks_2 : decode cX10_withTalks 2 = .ok (.iconst 0, 1) := by decide +kernel
theorem dX10_withTalks_3 : decode cX10_withTalks 3 = .ok (.istore 5, 2) := by decide +kernel
theorem dX10_withTalks_5 : decode cX10_withTalks 5 = .ok (.iload 5, 2) := by decide +kernel
theorem dX10_withTalks_7 : decode cX10_withTalks 7 = .ok (.aload_n 0, 1) := by decide +kernel
theorem dX10_withTalks_8 : decode cX10_withTalks 8 = .ok (.getfield 28, 3) := by decide +kernel
theorem dX10_withTalks_11 : decode cX10_withTalks 11 = .ok (.getfield 162, 3) := by decide +kernel
theorem dX10_withTalks_14 : decode cX10_withTalks 14 = .ok (.invokevirtual 66, 3) := by decide +kernel
theorem dX10_withTalks_17 : decode cX10_withTalks 17 = .ok (.if_icmp .ge 136, 3) := by decide +kernel
theorem dX10_withTalks_20 : decode cX10_withTalks 20 = .ok (.aload_n 0, 1) := by decide +kernel
theorem dX10_withTalks_21 : decode cX10_withTalks 21 = .ok (.getfield 28, 3) := by decide +kernel
theorem dX10_withTalks_24 : decode cX10_withTalks 24 = .ok (.getfield 162, 3) := by decide +kernel
theorem dX10_withTalks_27 : decode cX10_withTalks 27 = .ok (.iload 5, 2) := by decide +kernel
theorem dX10_withTalks_29 : decode cX10_withTalks 29 = .ok (.invokevirtual 417, 3) := by decide +kernel
theorem dX10_withTalks_32 : decode cX10_withTalks 32 = .ok (.checkcast 177, 3) := by decide +kernel
theorem dX10_withTalks_35 : decode cX10_withTalks 35 = .ok (.astore 6, 2) := by decide +kernel
theorem dX10_withTalks_37 : decode cX10_withTalks 37 = .ok (.iconst 0, 1) := by decide +kernel
theorem dX10_withTalks_38 : decode cX10_withTalks 38 = .ok (.istore 7, 2) := by decide +kernel
theorem dX10_withTalks_40 : decode cX10_withTalks 40 = .ok (.iload 7, 2) := by decide +kernel
theorem dX10_withTalks_42 : decode cX10_withTalks 42 = .ok (.bipush 8, 2) := by decide +kernel
theorem dX10_withTalks_44 : decode cX10_withTalks 44 = .ok (.if_icmp .ge 23, 3) := by decide +kernel
theorem dX10_withTalks_47 : decode cX10_withTalks 47 = .ok (.lload_n 3, 1) := by decide +kernel
theorem dX10_withTalks_48 : decode cX10_withTalks 48 = .ok (.aload_n 0, 1) := by decide +kernel
theorem dX10_withTalks_49 : decode cX10_withTalks 49 = .ok (.aload 6, 2) := by decide +kernel
theorem dX10_withTalks_51 : decode cX10_withTalks 51 = .ok (.iload 7, 2) := by decide +kernel
theorem dX10_withTalks_53 : decode cX10_withTalks 53 = .ok (.invokevirtual 268, 3) := by decide +kernel
theorem dX10_withTalks_56 : decode cX10_withTalks 56 = .ok (.i2l, 1) := by decide +kernel
theorem dX10_withTalks_57 : decode cX10_withTalks 57 = .ok (.invokestatic 392, 3) := by decide +kernel
theorem dX10_withTalks_60 : decode cX10_withTalks 60 = .ok (.lstore_n 3, 1) := by decide +kernel
theorem dX10_withTalks_61 : decode cX10_withTalks 61 = .ok (.iinc 7 1, 3) := by decide +kernel
theorem dX10_withTalks_64 : decode cX10_withTalks 64 = .ok (.goto (-24), 3) := by decide +kernel
theorem dX10_withTalks_67 : decode cX10_withTalks 67 = .ok (.iconst 0, 1) := by decide +kernel
theorem dX10_withTalks_68 : decode cX10_withTalks 68 = .ok (.istore 7, 2) := by decide +kernel
theorem dX10_withTalks_70 : decode cX10_withTalks 70 = .ok (.iload 7, 2) := by decide +kernel
theorem dX10_withTalks_72 : decode cX10_withTalks 72 = .ok (.bipush 12, 2) := by decide +kernel
theorem dX10_withTalks_74 : decode cX10_withTalks 74 = .ok (.if_icmp .ge 23, 3) := by decide +kernel
theorem dX10_withTalks_77 : decode cX10_withTalks 77 = .ok (.lload_n 3, 1) := by decide +kernel
theorem dX10_withTalks_78 : decode cX10_withTalks 78 = .ok (.aload_n 0, 1) := by decide +kernel
theorem dX10_withTalks_79 : decode cX10_withTalks 79 = .ok (.aload 6, 2) := by decide +kernel
theorem dX10_withTalks_81 : decode cX10_withTalks 81 = .ok (.iload 7, 2) := by decide +kernel
theorem dX10_withTalks_83 : decode cX10_withTalks 83 = .ok (.invokevirtual 272, 3) := by decide +kernel
theorem dX10_withTalks_86 : decode cX10_withTalks 86 = .ok (.i2l, 1) := by decide +kernel
theorem dX10_withTalks_87 : decode cX10_withTalks 87 = .ok (.invokestatic 392, 3) := by decide +kernel
theorem dX10_withTalks_90 : decode cX10_withTalks 90 = .ok (.lstore_n 3, 1) := by decide +kernel
theorem dX10_withTalks_91 : decode cX10_withTalks 91 = .ok (.iinc 7 1, 3) := by decide +kernel
theorem dX10_withTalks_94 : decode cX10_withTalks 94 = .ok (.goto (-24), 3) := by decide +kernel
theorem dX10_withTalks_97 : decode cX10_withTalks 97 = .ok (.iconst 0, 1) := by decide +kernel
theorem dX10_withTalks_98 : decode cX10_withTalks 98 = .ok (.istore 7, 2) := by decide +kernel
theorem dX10_withTalks_100 : decode cX10_withTalks 100 = .ok (.iload 7, 2) := by decide +kernel
theorem dX10_withTalks_102 : decode cX10_withTalks 102 = .ok (.aload_n 0, 1) := by decide +kernel
theorem dX10_withTalks_103 : decode cX10_withTalks 103 = .ok (.getfield 28, 3) := by decide +kernel
theorem dX10_withTalks_106 : decode cX10_withTalks 106 = .ok (.getfield 207, 3) := by decide +kernel
theorem dX10_withTalks_109 : decode cX10_withTalks 109 = .ok (.invokevirtual 66, 3) := by decide +kernel
theorem dX10_withTalks_112 : decode cX10_withTalks 112 = .ok (.if_icmp .ge 35, 3) := by decide +kernel
theorem dX10_withTalks_115 : decode cX10_withTalks 115 = .ok (.lload_n 3, 1) := by decide +kernel
theorem dX10_withTalks_116 : decode cX10_withTalks 116 = .ok (.aload 6, 2) := by decide +kernel
theorem dX10_withTalks_118 : decode cX10_withTalks 118 = .ok (.aload_n 0, 1) := by decide +kernel
theorem dX10_withTalks_119 : decode cX10_withTalks 119 = .ok (.getfield 28, 3) := by decide +kernel
theorem dX10_withTalks_122 : decode cX10_withTalks 122 = .ok (.getfield 207, 3) := by decide +kernel
theorem dX10_withTalks_125 : decode cX10_withTalks 125 = .ok (.iload 7, 2) := by decide +kernel
theorem dX10_withTalks_127 : decode cX10_withTalks 127 = .ok (.invokevirtual 417, 3) := by decide +kernel
theorem dX10_withTalks_130 : decode cX10_withTalks 130 = .ok (.checkcast 212, 3) := by decide +kernel
theorem dX10_withTalks_133 : decode cX10_withTalks 133 = .ok (.invokevirtual 277, 3) := by decide +kernel
theorem dX10_withTalks_136 : decode cX10_withTalks 136 = .ok (.i2l, 1) := by decide +kernel
theorem dX10_withTalks_137 : decode cX10_withTalks 137 = .ok (.invokestatic 392, 3) := by decide +kernel
theorem dX10_withTalks_140 : decode cX10_withTalks 140 = .ok (.lstore_n 3, 1) := by decide +kernel
theorem dX10_withTalks_141 : decode cX10_withTalks 141 = .ok (.iinc 7 1, 3) := by decide +kernel
theorem dX10_withTalks_144 : decode cX10_withTalks 144 = .ok (.goto (-44), 3) := by decide +kernel
theorem dX10_withTalks_147 : decode cX10_withTalks 147 = .ok (.iinc 5 1, 3) := by decide +kernel
theorem dX10_withTalks_150 : decode cX10_withTalks 150 = .ok (.goto (-145), 3) := by decide +kernel
theorem dX10_withTalks_153 : decode cX10_withTalks 153 = .ok (.lload_n 3, 1) := by decide +kernel
theorem dX10_withTalks_154 : decode cX10_withTalks 154 = .ok (.lreturn, 1) := by decide +kernel
abbrev rm_m_X10_withTalks : Room := { frames := 3, cells := 0, slots := 0, locals := 65 }
set_option maxHeartbeats 4000000 in
set_option maxRecDepth 100000 in
theorem m_X10_withTalks {s0 : State} {l : Launch} {D : va_G} {cy : Nat → ClassId} (G : Gl s0 l D cy) (S : HS) (ea ns nj nm nt nr nc : Nat) (h : CI ea S ns nj nm nt nr nc) (d : Int64) : Ctr s0 l D cy yX10_withTalks cX10_withTalks 8 (some .long) rm_m_X10_withTalks S [.ref (gG S 10 0), .long d] (PXl S) := by
  refine pro "CavershamShift" G rfl rfl (Nat.le_of_ble_eq_true rfl) (fun p e s m below meth c ls X w hnm hl => ?_)
  have hx := X.1
  have hb := X.2.1
  have hown := X.2.2.2.1
  have hts := X.2.2.2.2.1
  have hl : lv_has ls 8 [(0, .ref (gG S 10 0)), (1, .long d)] := hl
  refine lv_lload_n hx hb dX10_withTalks_0 rfl (lv_at hl 1 rfl) ?_
  refine lv_lstore_n (lv' := [(3, .long d), (0, .ref (gG S 10 0)), (1, .long d)]) hx hb dX10_withTalks_1 rfl hl (by decide) rfl (fun ls hl => ?_)
  refine lv_iconst (v := 0) hx hb dX10_withTalks_2 (by decide) ?_
  refine lv_istore (lv' := [(5, .int 0), (3, .long d), (0, .ref (gG S 10 0)), (1, .long d)]) hx hb dX10_withTalks_3 hl (by decide) rfl (fun ls hl => ?_)
  have L5 : ∀ (N : Nat) (k5 : Nat) (v5_3 : Int64) (H : Heap) (locs : List Loc) (ls : Array Slot), nt - k5 < N → (k5 ≤ nt) → Wd s0 D cy S s.heap H locs → lv_has ls 8 [(5, .int (nI k5)), (3, .long v5_3), (0, .ref (gG S 10 0)), (1, .long d)] → W p l e rm_m_X10_withTalks s m ([.ref (gG S 10 0), .long d] : List Value).toArray below meth c H locs 0 0 (MQ below (GQ s0 D cy (PXl S)) ([.ref (gG S 10 0), .long d] : List Value).toArray s rm_m_X10_withTalks.cells rm_m_X10_withTalks.slots (A0 s0)) (F0 m 5 ls []) := by
    intro N
    induction N with
    | zero => intros; omega
    | succ N ih5 =>
      intro k5 v5_3 H locs ls hmu hk_k5 w hl
      refine lv_iload hx hb dX10_withTalks_5 (lv_at hl 0 rfl) ?_
      refine lv_aload_n hx hb dX10_withTalks_7 rfl (lv_at hl 2 rfl) ?_
      refine g_10_2 (S := S) (x := (some (gG S 4 0))) X w h.v10 wF_X10_28 (h.f162) dX10_withTalks_8 ?_
      refine g_4_0 (S := S) (x := (some (gG S 17 3))) X w h.v4 wF_X10_162 (h.f64) dX10_withTalks_11 ?_
      refine cV (S := S) (nA := 0) (As := []) (rest := [.int (nI k5)]) X w hl h.l_ta.1 (m_size G S ea 3 nt h.l_ta) wY_Jx4a65c_size_8abf5 wM_X10_66 wIn_Jx4a65c_size_8abf5 wSe_Jx4a65c_Jx4a65c_size_8abf5 wI_Jx4a65c (by decide) rfl (by decide +kernel) rfl rfl dX10_withTalks_14 ⟨by decide, by decide⟩ (Nat.le_of_ble_eq_true rfl) (⟨Nat.le_of_ble_eq_true rfl, Nat.le_of_ble_eq_true rfl⟩) (fun v1 S1 H locs hp w => ?_)
      obtain ⟨rfl, rfl⟩ := hp
      refine lv_icmp_ge (tgt := 153) hx hb dX10_withTalks_17 (by decide) (fun hc_k5 => ?_) (fun hc_k5 => ?_)
      · have hge_k5 : nt ≤ k5 := by
          have hb1 := h.b_ta
          exact (nI_leI (a := nt) (b := k5) (by omega) (by omega)).mp hc_k5
        refine lv_lload_n hx hb dX10_withTalks_153 rfl (lv_at hl 1 rfl) ?_
        exact rL X w rfl dX10_withTalks_154 (by decide) (by decide) (px_l)
      · have hlt_k5 : k5 < nt := by
          have hb1 := h.b_ta
          exact Nat.lt_of_not_le (fun z => hc_k5 ((nI_leI (a := nt) (b := k5) (by omega) (by omega)).mpr z))
        refine lv_aload_n hx hb dX10_withTalks_20 rfl (lv_at hl 2 rfl) ?_
        refine g_10_2 (S := S) (x := (some (gG S 4 0))) X w h.v10 wF_X10_28 (h.f162) dX10_withTalks_21 ?_
        refine g_4_0 (S := S) (x := (some (gG S 17 3))) X w h.v4 wF_X10_162 (h.f64) dX10_withTalks_24 ?_
        refine lv_iload hx hb dX10_withTalks_27 (lv_at hl 0 rfl) ?_
        refine cV (S := S) (nA := 1) (As := [.int (nI k5)]) (rest := []) X w hl h.l_ta.1 (m_get G S ea 3 k5 nt (some (gG S 9 k5)) h.l_ta hlt_k5 (h.e_ta k5 hlt_k5).1) wY_Jx4a65c_get_915e3 wM_X10_417 wIn_Jx4a65c_get_915e3 wSe_Jx4a65c_Jx4a65c_get_915e3 wI_Jx4a65c (by decide) rfl (by decide +kernel) rfl rfl dX10_withTalks_29 ⟨by decide, by decide⟩ (Nat.le_of_ble_eq_true rfl) (⟨Nat.le_of_ble_eq_true rfl, Nat.le_of_ble_eq_true rfl⟩) (fun v2 S1 H locs hp w => ?_)
        obtain ⟨rfl, rfl⟩ := hp
        refine ckC (S := S) (t := 9) X w (h.e_ta k5 hlt_k5).2 (by decide) rfl wC_X10_177 dX10_withTalks_32 ?_
        refine lv_astore (lv' := [(6, .ref (gG S 9 k5)), (5, .int (nI k5)), (3, .long v5_3), (0, .ref (gG S 10 0)), (1, .long d)]) hx hb dX10_withTalks_35 hl (by decide) rfl (fun ls hl => ?_)
        refine lv_iconst (v := 0) hx hb dX10_withTalks_37 (by decide) ?_
        refine lv_istore (lv' := [(7, .int 0), (6, .ref (gG S 9 k5)), (5, .int (nI k5)), (3, .long v5_3), (0, .ref (gG S 10 0)), (1, .long d)]) hx hb dX10_withTalks_38 hl (by decide) rfl (fun ls hl => ?_)
        have L40 : ∀ (N : Nat) (k40 : Nat) (v40_3 : Int64) (H : Heap) (locs : List Loc) (ls : Array Slot), 8 - k40 < N → (k40 ≤ 8) → Wd s0 D cy S s.heap H locs → lv_has ls 8 [(7, .int (nI k40)), (6, .ref (gG S 9 k5)), (5, .int (nI k5)), (3, .long v40_3), (0, .ref (gG S 10 0)), (1, .long d)] → W p l e rm_m_X10_withTalks s m ([.ref (gG S 10 0), .long d] : List Value).toArray below meth c H locs 0 0 (MQ below (GQ s0 D cy (PXl S)) ([.ref (gG S 10 0), .long d] : List Value).toArray s rm_m_X10_withTalks.cells rm_m_X10_withTalks.slots (A0 s0)) (F0 m 40 ls []) := by
          intro N
          induction N with
          | zero => intros; omega
          | succ N ih40 =>
            intro k40 v40_3 H locs ls hmu hk_k40 w hl
            refine lv_iload hx hb dX10_withTalks_40 (lv_at hl 0 rfl) ?_
            refine lv_bipush (v := 8) hx hb dX10_withTalks_42 (by decide) ?_
            refine lv_icmp_ge (tgt := 67) hx hb dX10_withTalks_44 (by decide) (fun hc_k40 => ?_) (fun hc_k40 => ?_)
            · have hge_k40 : 8 ≤ k40 := by
                skip
                exact (nI_leI (a := 8) (b := k40) (by omega) (by omega)).mp hc_k40
              refine lv_iconst (v := 0) hx hb dX10_withTalks_67 (by decide) ?_
              refine lv_istore (lv' := [(7, .int 0), (6, .ref (gG S 9 k5)), (5, .int (nI k5)), (3, .long v40_3), (0, .ref (gG S 10 0)), (1, .long d)]) hx hb dX10_withTalks_68 hl (by decide) rfl (fun ls hl => ?_)
              have L70 : ∀ (N : Nat) (k70 : Nat) (v70_3 : Int64) (H : Heap) (locs : List Loc) (ls : Array Slot), 12 - k70 < N → (k70 ≤ 12) → Wd s0 D cy S s.heap H locs → lv_has ls 8 [(7, .int (nI k70)), (6, .ref (gG S 9 k5)), (5, .int (nI k5)), (3, .long v70_3), (0, .ref (gG S 10 0)), (1, .long d)] → W p l e rm_m_X10_withTalks s m ([.ref (gG S 10 0), .long d] : List Value).toArray below meth c H locs 0 0 (MQ below (GQ s0 D cy (PXl S)) ([.ref (gG S 10 0), .long d] : List Value).toArray s rm_m_X10_withTalks.cells rm_m_X10_withTalks.slots (A0 s0)) (F0 m 70 ls []) := by
                intro N
                induction N with
                | zero => intros; omega
                | succ N ih70 =>
                  intro k70 v70_3 H locs ls hmu hk_k70 w hl
                  refine lv_iload hx hb dX10_withTalks_70 (lv_at hl 0 rfl) ?_
                  refine lv_bipush (v := 12) hx hb dX10_withTalks_72 (by decide) ?_
                  refine lv_icmp_ge (tgt := 97) hx hb dX10_withTalks_74 (by decide) (fun hc_k70 => ?_) (fun hc_k70 => ?_)
                  · have hge_k70 : 12 ≤ k70 := by
                      skip
                      exact (nI_leI (a := 12) (b := k70) (by omega) (by omega)).mp hc_k70
                    refine lv_iconst (v := 0) hx hb dX10_withTalks_97 (by decide) ?_
                    refine lv_istore (lv' := [(7, .int 0), (6, .ref (gG S 9 k5)), (5, .int (nI k5)), (3, .long v70_3), (0, .ref (gG S 10 0)), (1, .long d)]) hx hb dX10_withTalks_98 hl (by decide) rfl (fun ls hl => ?_)
                    have L100 : ∀ (N : Nat) (k100 : Nat) (v100_3 : Int64) (H : Heap) (locs : List Loc) (ls : Array Slot), nr - k100 < N → (k100 ≤ nr) → Wd s0 D cy S s.heap H locs → lv_has ls 8 [(7, .int (nI k100)), (6, .ref (gG S 9 k5)), (5, .int (nI k5)), (3, .long v100_3), (0, .ref (gG S 10 0)), (1, .long d)] → W p l e rm_m_X10_withTalks s m ([.ref (gG S 10 0), .long d] : List Value).toArray below meth c H locs 0 0 (MQ below (GQ s0 D cy (PXl S)) ([.ref (gG S 10 0), .long d] : List Value).toArray s rm_m_X10_withTalks.cells rm_m_X10_withTalks.slots (A0 s0)) (F0 m 100 ls []) := by
                      intro N
                      induction N with
                      | zero => intros; omega
                      | succ N ih100 =>
                        intro k100 v100_3 H locs ls hmu hk_k100 w hl
                        refine lv_iload hx hb dX10_withTalks_100 (lv_at hl 0 rfl) ?_
                        refine lv_aload_n hx hb dX10_withTalks_102 rfl (lv_at hl 4 rfl) ?_
                        refine g_10_2 (S := S) (x := (some (gG S 4 0))) X w h.v10 wF_X10_28 (h.f162) dX10_withTalks_103 ?_
                        refine g_4_1 (S := S) (x := (some (gG S 17 4))) X w h.v4 wF_X10_207 (h.f65) dX10_withTalks_106 ?_
                        refine cV (S := S) (nA := 0) (As := []) (rest := [.int (nI k100)]) X w hl h.l_re.1 (m_size G S ea 4 nr h.l_re) wY_Jx4a65c_size_8abf5 wM_X10_66 wIn_Jx4a65c_size_8abf5 wSe_Jx4a65c_Jx4a65c_size_8abf5 wI_Jx4a65c (by decide) rfl (by decide +kernel) rfl rfl dX10_withTalks_109 ⟨by decide, by decide⟩ (Nat.le_of_ble_eq_true rfl) (⟨Nat.le_of_ble_eq_true rfl, Nat.le_of_ble_eq_true rfl⟩) (fun v3 S1 H locs hp w => ?_)
                        obtain ⟨rfl, rfl⟩ := hp
                        refine lv_icmp_ge (tgt := 147) hx hb dX10_withTalks_112 (by decide) (fun hc_k100 => ?_) (fun hc_k100 => ?_)
                        · have hge_k100 : nr ≤ k100 := by
                            have hb1 := h.b_re
                            exact (nI_leI (a := nr) (b := k100) (by omega) (by omega)).mp hc_k100
                          refine lv_iinc (v := nI (k5 + 1)) (lv' := [(5, .int (nI (k5 + 1))), (7, .int (nI k100)), (6, .ref (gG S 9 k5)), (3, .long v100_3), (0, .ref (gG S 10 0)), (1, .long d)]) hx hb dX10_withTalks_147 hl (k := 2) rfl (nI_1 _) (by decide) rfl (fun ls hl => ?_)
                          refine lv_goto (tgt := 5) hx hb dX10_withTalks_150 (by decide) ?_
                          exact ih5 (k5 + 1) v100_3 _ _ _ (by omega) (hlt_k5) w (lv_sub hl [0, 3, 4, 5] rfl)
                        · have hlt_k100 : k100 < nr := by
                            have hb1 := h.b_re
                            exact Nat.lt_of_not_le (fun z => hc_k100 ((nI_leI (a := nr) (b := k100) (by omega) (by omega)).mpr z))
                          refine lv_lload_n hx hb dX10_withTalks_115 rfl (lv_at hl 3 rfl) ?_
                          refine lv_aload hx hb dX10_withTalks_116 (lv_at hl 1 rfl) ?_
                          refine lv_aload_n hx hb dX10_withTalks_118 rfl (lv_at hl 4 rfl) ?_
                          refine g_10_2 (S := S) (x := (some (gG S 4 0))) X w h.v10 wF_X10_28 (h.f162) dX10_withTalks_119 ?_
                          refine g_4_1 (S := S) (x := (some (gG S 17 4))) X w h.v4 wF_X10_207 (h.f65) dX10_withTalks_122 ?_
                          refine lv_iload hx hb dX10_withTalks_125 (lv_at hl 0 rfl) ?_
                          refine cV (S := S) (nA := 1) (As := [.int (nI k100)]) (rest := [.ref (gG S 9 k5), .long v100_3]) X w hl h.l_re.1 (m_get G S ea 4 k100 nr (some (gG S 5 k100)) h.l_re hlt_k100 (h.e_re k100 hlt_k100).1) wY_Jx4a65c_get_915e3 wM_X10_417 wIn_Jx4a65c_get_915e3 wSe_Jx4a65c_Jx4a65c_get_915e3 wI_Jx4a65c (by decide) rfl (by decide +kernel) rfl rfl dX10_withTalks_127 ⟨by decide, by decide⟩ (Nat.le_of_ble_eq_true rfl) (⟨Nat.le_of_ble_eq_true rfl, Nat.le_of_ble_eq_true rfl⟩) (fun v4 S1 H locs hp w => ?_)
                          obtain ⟨rfl, rfl⟩ := hp
                          refine ckC (S := S) (t := 5) X w (h.e_re k100 hlt_k100).2 (by decide) rfl wC_X10_212 dX10_withTalks_130 ?_
                          refine cV (S := S) (nA := 1) (As := [.ref (gG S 5 k100)]) (rest := [.long v100_3]) X w hl (h.e_ta k5 hlt_k5).2 (m_X9_reached G S ea ns nj nm nt nr nc h k5 hlt_k5 k100 hlt_k100) wY_X9_reached wM_X10_277 wIn_X9_reached wSe_X9_X9_reached wI_X9 (by decide) rfl (by decide +kernel) rfl rfl dX10_withTalks_133 ⟨by decide, by decide⟩ (Nat.le_of_ble_eq_true rfl) (⟨Nat.le_of_ble_eq_true rfl, Nat.le_of_ble_eq_true rfl⟩) (fun v6 S1 H locs hp w => ?_)
                          obtain ⟨⟨x5, rfl⟩, rfl⟩ := hp
                          refine lv_i2l hx hb dX10_withTalks_136 rfl ?_
                          refine cS (S := S) (nA := 2) (As := [.long v100_3, .long x5.toInt64]) (rest := []) X w hl (m_X10_mixed G S ea ns nj nm nt nr nc h v100_3 x5.toInt64) wY_X10_mixed wM_X10_392 wSt_X10_mixed wI_X10 (by decide +kernel) rfl rfl dX10_withTalks_137 ⟨by decide, by decide⟩ (Nat.le_of_ble_eq_true rfl) (⟨Nat.le_of_ble_eq_true rfl, Nat.le_of_ble_eq_true rfl⟩) (fun v7 S1 H locs hp w => ?_)
                          obtain ⟨rfl, rfl⟩ := hp
                          refine lv_lstore_n (lv' := [(3, .long (v100_3 * 31 + x5.toInt64)), (7, .int (nI k100)), (6, .ref (gG S 9 k5)), (5, .int (nI k5)), (0, .ref (gG S 10 0)), (1, .long d)]) hx hb dX10_withTalks_140 rfl hl (by decide) rfl (fun ls hl => ?_)
                          refine lv_iinc (v := nI (k100 + 1)) (lv' := [(7, .int (nI (k100 + 1))), (3, .long (v100_3 * 31 + x5.toInt64)), (6, .ref (gG S 9 k5)), (5, .int (nI k5)), (0, .ref (gG S 10 0)), (1, .long d)]) hx hb dX10_withTalks_141 hl (k := 1) rfl (nI_1 _) (by decide) rfl (fun ls hl => ?_)
                          refine lv_goto (tgt := 100) hx hb dX10_withTalks_144 (by decide) ?_
                          exact ih100 (k100 + 1) (v100_3 * 31 + x5.toInt64) _ _ _ (by omega) (hlt_k100) w (lv_sub hl [0, 2, 3, 1, 4, 5] rfl)
                    exact L100 _ 0 v70_3 _ _ _ (Nat.lt_succ_self _) (Nat.zero_le _) w (lv_sub hl [0, 1, 2, 3, 4, 5] rfl)
                  · have hlt_k70 : k70 < 12 := by
                      skip
                      exact Nat.lt_of_not_le (fun z => hc_k70 ((nI_leI (a := 12) (b := k70) (by omega) (by omega)).mpr z))
                    refine lv_lload_n hx hb dX10_withTalks_77 rfl (lv_at hl 3 rfl) ?_
                    refine lv_aload_n hx hb dX10_withTalks_78 rfl (lv_at hl 4 rfl) ?_
                    refine lv_aload hx hb dX10_withTalks_79 (lv_at hl 1 rfl) ?_
                    refine lv_iload hx hb dX10_withTalks_81 (lv_at hl 0 rfl) ?_
                    refine cV (S := S) (nA := 2) (As := [.ref (gG S 9 k5), .int (nI k70)]) (rest := [.long v70_3]) X w hl h.v10 (m_X10_reportFact G S ea ns nj nm nt nr nc h k5 hlt_k5 (nI k70)) wY_X10_reportFact wM_X10_272 wIn_X10_reportFact wSe_X10_X10_reportFact wI_X10 (by decide) rfl (by decide +kernel) rfl rfl dX10_withTalks_83 ⟨by decide, by decide⟩ (Nat.le_of_ble_eq_true rfl) (⟨Nat.le_of_ble_eq_true rfl, Nat.le_of_ble_eq_true rfl⟩) (fun v9 S1 H locs hp w => ?_)
                    obtain ⟨⟨x8, rfl⟩, rfl⟩ := hp
                    refine lv_i2l hx hb dX10_withTalks_86 rfl ?_
                    refine cS (S := S) (nA := 2) (As := [.long v70_3, .long x8.toInt64]) (rest := []) X w hl (m_X10_mixed G S ea ns nj nm nt nr nc h v70_3 x8.toInt64) wY_X10_mixed wM_X10_392 wSt_X10_mixed wI_X10 (by decide +kernel) rfl rfl dX10_withTalks_87 ⟨by decide, by decide⟩ (Nat.le_of_ble_eq_true rfl) (⟨Nat.le_of_ble_eq_true rfl, Nat.le_of_ble_eq_true rfl⟩) (fun v10 S1 H locs hp w => ?_)
                    obtain ⟨rfl, rfl⟩ := hp
                    refine lv_lstore_n (lv' := [(3, .long (v70_3 * 31 + x8.toInt64)), (7, .int (nI k70)), (6, .ref (gG S 9 k5)), (5, .int (nI k5)), (0, .ref (gG S 10 0)), (1, .long d)]) hx hb dX10_withTalks_90 rfl hl (by decide) rfl (fun ls hl => ?_)
                    refine lv_iinc (v := nI (k70 + 1)) (lv' := [(7, .int (nI (k70 + 1))), (3, .long (v70_3 * 31 + x8.toInt64)), (6, .ref (gG S 9 k5)), (5, .int (nI k5)), (0, .ref (gG S 10 0)), (1, .long d)]) hx hb dX10_withTalks_91 hl (k := 1) rfl (nI_1 _) (by decide) rfl (fun ls hl => ?_)
                    refine lv_goto (tgt := 70) hx hb dX10_withTalks_94 (by decide) ?_
                    exact ih70 (k70 + 1) (v70_3 * 31 + x8.toInt64) _ _ _ (by omega) (hlt_k70) w (lv_sub hl [0, 2, 3, 1, 4, 5] rfl)
              exact L70 _ 0 v40_3 _ _ _ (Nat.lt_succ_self _) (Nat.zero_le _) w (lv_sub hl [0, 1, 2, 3, 4, 5] rfl)
            · have hlt_k40 : k40 < 8 := by
                skip
                exact Nat.lt_of_not_le (fun z => hc_k40 ((nI_leI (a := 8) (b := k40) (by omega) (by omega)).mpr z))
              refine lv_lload_n hx hb dX10_withTalks_47 rfl (lv_at hl 3 rfl) ?_
              refine lv_aload_n hx hb dX10_withTalks_48 rfl (lv_at hl 4 rfl) ?_
              refine lv_aload hx hb dX10_withTalks_49 (lv_at hl 1 rfl) ?_
              refine lv_iload hx hb dX10_withTalks_51 (lv_at hl 0 rfl) ?_
              refine cV (S := S) (nA := 2) (As := [.ref (gG S 9 k5), .int (nI k40)]) (rest := [.long v40_3]) X w hl h.v10 (m_X10_talkFact G S ea ns nj nm nt nr nc h k5 hlt_k5 (nI k40)) wY_X10_talkFact wM_X10_268 wIn_X10_talkFact wSe_X10_X10_talkFact wI_X10 (by decide) rfl (by decide +kernel) rfl rfl dX10_withTalks_53 ⟨by decide, by decide⟩ (Nat.le_of_ble_eq_true rfl) (⟨Nat.le_of_ble_eq_true rfl, Nat.le_of_ble_eq_true rfl⟩) (fun v12 S1 H locs hp w => ?_)
              obtain ⟨⟨x11, rfl⟩, rfl⟩ := hp
              refine lv_i2l hx hb dX10_withTalks_56 rfl ?_
              refine cS (S := S) (nA := 2) (As := [.long v40_3, .long x11.toInt64]) (rest := []) X w hl (m_X10_mixed G S ea ns nj nm nt nr nc h v40_3 x11.toInt64) wY_X10_mixed wM_X10_392 wSt_X10_mixed wI_X10 (by decide +kernel) rfl rfl dX10_withTalks_57 ⟨by decide, by decide⟩ (Nat.le_of_ble_eq_true rfl) (⟨Nat.le_of_ble_eq_true rfl, Nat.le_of_ble_eq_true rfl⟩) (fun v13 S1 H locs hp w => ?_)
              obtain ⟨rfl, rfl⟩ := hp
              refine lv_lstore_n (lv' := [(3, .long (v40_3 * 31 + x11.toInt64)), (7, .int (nI k40)), (6, .ref (gG S 9 k5)), (5, .int (nI k5)), (0, .ref (gG S 10 0)), (1, .long d)]) hx hb dX10_withTalks_60 rfl hl (by decide) rfl (fun ls hl => ?_)
              refine lv_iinc (v := nI (k40 + 1)) (lv' := [(7, .int (nI (k40 + 1))), (3, .long (v40_3 * 31 + x11.toInt64)), (6, .ref (gG S 9 k5)), (5, .int (nI k5)), (0, .ref (gG S 10 0)), (1, .long d)]) hx hb dX10_withTalks_61 hl (k := 1) rfl (nI_1 _) (by decide) rfl (fun ls hl => ?_)
              refine lv_goto (tgt := 40) hx hb dX10_withTalks_64 (by decide) ?_
              exact ih40 (k40 + 1) (v40_3 * 31 + x11.toInt64) _ _ _ (by omega) (hlt_k40) w (lv_sub hl [0, 2, 3, 1, 4, 5] rfl)
        exact L40 _ 0 v5_3 _ _ _ (Nat.lt_succ_self _) (Nat.zero_le _) w (lv_sub hl [0, 1, 2, 3, 4, 5] rfl)
  exact L5 _ 0 d _ _ _ (Nat.lt_succ_self _) (Nat.zero_le _) w (lv_sub hl [0, 1, 2, 3] rfl)

theorem dX10_withReaders_0 : decode cX10_withReaders 0 = .ok (.lload_n 1, 1) := by decide +kernel
theorem dX10_withReaders_1 : decode cX10_withReaders 1 = .ok (.lstore_n 3, 1) := by decide +kernel
theorem dX10_withReaders_2 : decode cX10_withReaders 2 = .ok (.iconst 0, 1) := by decide +kernel
theorem dX10_withReaders_3 : decode cX10_withReaders 3 = .ok (.istore 5, 2) := by decide +kernel
theorem dX10_withReaders_5 : decode cX10_withReaders 5 = .ok (.iload 5, 2) := by decide +kernel
theorem dX10_withReaders_7 : decode cX10_withReaders 7 = .ok (.aload_n 0, 1) := by decide +kernel
theorem dX10_withReaders_8 : decode cX10_withReaders 8 = .ok (.getfield 28, 3) := by decide +kernel
theorem dX10_withReaders_11 : decode cX10_withReaders 11 = .ok (.getfield 207, 3) := by decide +kernel
theorem dX10_withReaders_14 : decode cX10_withReaders 14 = .ok (.invokevirtual 66, 3) := by decide +kernel
theorem dX10_withReaders_17 : decode cX10_withReaders 17 = .ok (.if_icmp .ge 51, 3) := by decide +kernel
theorem dX10_withReaders_20 : decode cX10_withReaders 20 = .ok (.iconst 0, 1) := by decide +kernel
theorem dX10_withReaders_21 : decode cX10_withReaders 21 = .ok (.istore 6, 2) := by decide +kernel
theorem dX10_withReaders_23 : decode cX10_withReaders 23 = .ok (.iload 6, 2) := by decide +kernel
theorem dX10_withReaders_25 : decode cX10_withReaders 25 = .ok (.iconst 5, 1) := by decide +kernel
theorem dX10_withReaders_26 : decode cX10_withReaders 26 = .ok (.if_icmp .ge 36, 3) := by decide +kernel
theorem dX10_withReaders_29 : decode cX10_withReaders 29 = .ok (.lload_n 3, 1) := by decide +kernel
theorem dX10_withReaders_30 : decode cX10_withReaders 30 = .ok (.aload_n 0, 1) := by decide +kernel
theorem dX10_withReaders_31 : decode cX10_withReaders 31 = .ok (.aload_n 0, 1) := by decide +kernel
theorem dX10_withReaders_32 : decode cX10_withReaders 32 = .ok (.getfield 28, 3) := by decide +kernel
theorem dX10_withReaders_35 : decode cX10_withReaders 35 = .ok (.getfield 207, 3) := by decide +kernel
theorem dX10_withReaders_38 : decode cX10_withReaders 38 = .ok (.iload 5, 2) := by decide +kernel
theorem dX10_withReaders_40 : decode cX10_withReaders 40 = .ok (.invokevirtual 417, 3) := by decide +kernel
theorem dX10_withReaders_43 : decode cX10_withReaders 43 = .ok (.checkcast 212, 3) := by decide +kernel
theorem dX10_withReaders_46 : decode cX10_withReaders 46 = .ok (.iload 6, 2) := by decide +kernel
theorem dX10_withReaders_48 : decode cX10_withReaders 48 = .ok (.invokevirtual 280, 3) := by decide +kernel
theorem dX10_withReaders_51 : decode cX10_withReaders 51 = .ok (.i2l, 1) := by decide +kernel
theorem dX10_withReaders_52 : decode cX10_withReaders 52 = .ok (.invokestatic 392, 3) := by decide +kernel
theorem dX10_withReaders_55 : decode cX10_withReaders 55 = .ok (.lstore_n 3, 1) := by decide +kernel
theorem dX10_withReaders_56 : decode cX10_withReaders 56 = .ok (.iinc 6 1, 3) := by decide +kernel
theorem dX10_withReaders_59 : decode cX10_withReaders 59 = .ok (.goto (-36), 3) := by decide +kernel
theorem dX10_withReaders_62 : decode cX10_withReaders 62 = .ok (.iinc 5 1, 3) := by decide +kernel
theorem dX10_withReaders_65 : decode cX10_withReaders 65 = .ok (.goto (-60), 3) := by decide +kernel
theorem dX10_withReaders_68 : decode cX10_withReaders 68 = .ok (.lload_n 3, 1) := by decide +kernel
theorem dX10_withReaders_69 : decode cX10_withReaders 69 = .ok (.lreturn, 1) := by decide +kernel
abbrev rm_m_X10_withReaders : Room := { frames := 5, cells := 0, slots := 0, locals := 110 }
set_option maxHeartbeats 4000000 in
set_option maxRecDepth 100000 in
theorem m_X10_withReaders {s0 : State} {l : Launch} {D : va_G} {cy : Nat → ClassId} (G : Gl s0 l D cy) (S : HS) (ea ns nj nm nt nr nc : Nat) (h : CI ea S ns nj nm nt nr nc) (d : Int64) : Ctr s0 l D cy yX10_withReaders cX10_withReaders 7 (some .long) rm_m_X10_withReaders S [.ref (gG S 10 0), .long d] (PXl S) := by
  refine pro "CavershamShift" G rfl rfl (Nat.le_of_ble_eq_true rfl) (fun p e s m below meth c ls X w hnm hl => ?_)
  have hx := X.1
  have hb := X.2.1
  have hown := X.2.2.2.1
  have hts := X.2.2.2.2.1
  have hl : lv_has ls 7 [(0, .ref (gG S 10 0)), (1, .long d)] := hl
  refine lv_lload_n hx hb dX10_withReaders_0 rfl (lv_at hl 1 rfl) ?_
  refine lv_lstore_n (lv' := [(3, .long d), (0, .ref (gG S 10 0)), (1, .long d)]) hx hb dX10_withReaders_1 rfl hl (by decide) rfl (fun ls hl => ?_)
  refine lv_iconst (v := 0) hx hb dX10_withReaders_2 (by decide) ?_
  refine lv_istore (lv' := [(5, .int 0), (3, .long d), (0, .ref (gG S 10 0)), (1, .long d)]) hx hb dX10_withReaders_3 hl (by decide) rfl (fun ls hl => ?_)
  have L5 : ∀ (N : Nat) (k5 : Nat) (v5_3 : Int64) (H : Heap) (locs : List Loc) (ls : Array Slot), nr - k5 < N → (k5 ≤ nr) → Wd s0 D cy S s.heap H locs → lv_has ls 7 [(5, .int (nI k5)), (3, .long v5_3), (0, .ref (gG S 10 0)), (1, .long d)] → W p l e rm_m_X10_withReaders s m ([.ref (gG S 10 0), .long d] : List Value).toArray below meth c H locs 0 0 (MQ below (GQ s0 D cy (PXl S)) ([.ref (gG S 10 0), .long d] : List Value).toArray s rm_m_X10_withReaders.cells rm_m_X10_withReaders.slots (A0 s0)) (F0 m 5 ls []) := by
    intro N
    induction N with
    | zero => intros; omega
    | succ N ih5 =>
      intro k5 v5_3 H locs ls hmu hk_k5 w hl
      refine lv_iload hx hb dX10_withReaders_5 (lv_at hl 0 rfl) ?_
      refine lv_aload_n hx hb dX10_withReaders_7 rfl (lv_at hl 2 rfl) ?_
      refine g_10_2 (S := S) (x := (some (gG S 4 0))) X w h.v10 wF_X10_28 (h.f162) dX10_withReaders_8 ?_
      refine g_4_1 (S := S) (x := (some (gG S 17 4))) X w h.v4 wF_X10_207 (h.f65) dX10_withReaders_11 ?_
      refine cV (S := S) (nA := 0) (As := []) (rest := [.int (nI k5)]) X w hl h.l_re.1 (m_size G S ea 4 nr h.l_re) wY_Jx4a65c_size_8abf5 wM_X10_66 wIn_Jx4a65c_size_8abf5 wSe_Jx4a65c_Jx4a65c_size_8abf5 wI_Jx4a65c (by decide) rfl (by decide +kernel) rfl rfl dX10_withReaders_14 ⟨by decide, by decide⟩ (Nat.le_of_ble_eq_true rfl) (⟨Nat.le_of_ble_eq_true rfl, Nat.le_of_ble_eq_true rfl⟩) (fun v1 S1 H locs hp w => ?_)
      obtain ⟨rfl, rfl⟩ := hp
      refine lv_icmp_ge (tgt := 68) hx hb dX10_withReaders_17 (by decide) (fun hc_k5 => ?_) (fun hc_k5 => ?_)
      · have hge_k5 : nr ≤ k5 := by
          have hb1 := h.b_re
          exact (nI_leI (a := nr) (b := k5) (by omega) (by omega)).mp hc_k5
        refine lv_lload_n hx hb dX10_withReaders_68 rfl (lv_at hl 1 rfl) ?_
        exact rL X w rfl dX10_withReaders_69 (by decide) (by decide) (px_l)
      · have hlt_k5 : k5 < nr := by
          have hb1 := h.b_re
          exact Nat.lt_of_not_le (fun z => hc_k5 ((nI_leI (a := nr) (b := k5) (by omega) (by omega)).mpr z))
        refine lv_iconst (v := 0) hx hb dX10_withReaders_20 (by decide) ?_
        refine lv_istore (lv' := [(6, .int 0), (5, .int (nI k5)), (3, .long v5_3), (0, .ref (gG S 10 0)), (1, .long d)]) hx hb dX10_withReaders_21 hl (by decide) rfl (fun ls hl => ?_)
        have L23 : ∀ (N : Nat) (k23 : Nat) (v23_3 : Int64) (H : Heap) (locs : List Loc) (ls : Array Slot), 5 - k23 < N → (k23 ≤ 5) → Wd s0 D cy S s.heap H locs → lv_has ls 7 [(6, .int (nI k23)), (5, .int (nI k5)), (3, .long v23_3), (0, .ref (gG S 10 0)), (1, .long d)] → W p l e rm_m_X10_withReaders s m ([.ref (gG S 10 0), .long d] : List Value).toArray below meth c H locs 0 0 (MQ below (GQ s0 D cy (PXl S)) ([.ref (gG S 10 0), .long d] : List Value).toArray s rm_m_X10_withReaders.cells rm_m_X10_withReaders.slots (A0 s0)) (F0 m 23 ls []) := by
          intro N
          induction N with
          | zero => intros; omega
          | succ N ih23 =>
            intro k23 v23_3 H locs ls hmu hk_k23 w hl
            refine lv_iload hx hb dX10_withReaders_23 (lv_at hl 0 rfl) ?_
            refine lv_iconst (v := 5) hx hb dX10_withReaders_25 (by decide) ?_
            refine lv_icmp_ge (tgt := 62) hx hb dX10_withReaders_26 (by decide) (fun hc_k23 => ?_) (fun hc_k23 => ?_)
            · have hge_k23 : 5 ≤ k23 := by
                skip
                exact (nI_leI (a := 5) (b := k23) (by omega) (by omega)).mp hc_k23
              refine lv_iinc (v := nI (k5 + 1)) (lv' := [(5, .int (nI (k5 + 1))), (6, .int (nI k23)), (3, .long v23_3), (0, .ref (gG S 10 0)), (1, .long d)]) hx hb dX10_withReaders_62 hl (k := 1) rfl (nI_1 _) (by decide) rfl (fun ls hl => ?_)
              refine lv_goto (tgt := 5) hx hb dX10_withReaders_65 (by decide) ?_
              exact ih5 (k5 + 1) v23_3 _ _ _ (by omega) (hlt_k5) w (lv_sub hl [0, 2, 3, 4] rfl)
            · have hlt_k23 : k23 < 5 := by
                skip
                exact Nat.lt_of_not_le (fun z => hc_k23 ((nI_leI (a := 5) (b := k23) (by omega) (by omega)).mpr z))
              refine lv_lload_n hx hb dX10_withReaders_29 rfl (lv_at hl 2 rfl) ?_
              refine lv_aload_n hx hb dX10_withReaders_30 rfl (lv_at hl 3 rfl) ?_
              refine lv_aload_n hx hb dX10_withReaders_31 rfl (lv_at hl 3 rfl) ?_
              refine g_10_2 (S := S) (x := (some (gG S 4 0))) X w h.v10 wF_X10_28 (h.f162) dX10_withReaders_32 ?_
              refine g_4_1 (S := S) (x := (some (gG S 17 4))) X w h.v4 wF_X10_207 (h.f65) dX10_withReaders_35 ?_
              refine lv_iload hx hb dX10_withReaders_38 (lv_at hl 1 rfl) ?_
              refine cV (S := S) (nA := 1) (As := [.int (nI k5)]) (rest := [.ref (gG S 10 0), .long v23_3]) X w hl h.l_re.1 (m_get G S ea 4 k5 nr (some (gG S 5 k5)) h.l_re hlt_k5 (h.e_re k5 hlt_k5).1) wY_Jx4a65c_get_915e3 wM_X10_417 wIn_Jx4a65c_get_915e3 wSe_Jx4a65c_Jx4a65c_get_915e3 wI_Jx4a65c (by decide) rfl (by decide +kernel) rfl rfl dX10_withReaders_40 ⟨by decide, by decide⟩ (Nat.le_of_ble_eq_true rfl) (⟨Nat.le_of_ble_eq_true rfl, Nat.le_of_ble_eq_true rfl⟩) (fun v2 S1 H locs hp w => ?_)
              obtain ⟨rfl, rfl⟩ := hp
              refine ckC (S := S) (t := 5) X w (h.e_re k5 hlt_k5).2 (by decide) rfl wC_X10_212 dX10_withReaders_43 ?_
              refine lv_iload hx hb dX10_withReaders_46 (lv_at hl 0 rfl) ?_
              refine cV (S := S) (nA := 2) (As := [.ref (gG S 5 k5), .int (nI k23)]) (rest := [.long v23_3]) X w hl h.v10 (m_X10_readerFact G S ea ns nj nm nt nr nc h k5 hlt_k5 (nI k23)) wY_X10_readerFact wM_X10_280 wIn_X10_readerFact wSe_X10_X10_readerFact wI_X10 (by decide) rfl (by decide +kernel) rfl rfl dX10_withReaders_48 ⟨by decide, by decide⟩ (Nat.le_of_ble_eq_true rfl) (⟨Nat.le_of_ble_eq_true rfl, Nat.le_of_ble_eq_true rfl⟩) (fun v4 S1 H locs hp w => ?_)
              obtain ⟨⟨x3, rfl⟩, rfl⟩ := hp
              refine lv_i2l hx hb dX10_withReaders_51 rfl ?_
              refine cS (S := S) (nA := 2) (As := [.long v23_3, .long x3.toInt64]) (rest := []) X w hl (m_X10_mixed G S ea ns nj nm nt nr nc h v23_3 x3.toInt64) wY_X10_mixed wM_X10_392 wSt_X10_mixed wI_X10 (by decide +kernel) rfl rfl dX10_withReaders_52 ⟨by decide, by decide⟩ (Nat.le_of_ble_eq_true rfl) (⟨Nat.le_of_ble_eq_true rfl, Nat.le_of_ble_eq_true rfl⟩) (fun v5 S1 H locs hp w => ?_)
              obtain ⟨rfl, rfl⟩ := hp
              refine lv_lstore_n (lv' := [(3, .long (v23_3 * 31 + x3.toInt64)), (6, .int (nI k23)), (5, .int (nI k5)), (0, .ref (gG S 10 0)), (1, .long d)]) hx hb dX10_withReaders_55 rfl hl (by decide) rfl (fun ls hl => ?_)
              refine lv_iinc (v := nI (k23 + 1)) (lv' := [(6, .int (nI (k23 + 1))), (3, .long (v23_3 * 31 + x3.toInt64)), (5, .int (nI k5)), (0, .ref (gG S 10 0)), (1, .long d)]) hx hb dX10_withReaders_56 hl (k := 1) rfl (nI_1 _) (by decide) rfl (fun ls hl => ?_)
              refine lv_goto (tgt := 23) hx hb dX10_withReaders_59 (by decide) ?_
              exact ih23 (k23 + 1) (v23_3 * 31 + x3.toInt64) _ _ _ (by omega) (hlt_k23) w (lv_sub hl [0, 2, 1, 3, 4] rfl)
        exact L23 _ 0 v5_3 _ _ _ (Nat.lt_succ_self _) (Nat.zero_le _) w (lv_sub hl [0, 1, 2, 3, 4] rfl)
  exact L5 _ 0 d _ _ _ (Nat.lt_succ_self _) (Nat.zero_le _) w (lv_sub hl [0, 1, 2, 3] rfl)

theorem dX10_withBestShift_0 : decode cX10_withBestShift 0 = .ok (.lload_n 1, 1) := by decide +kernel
theorem dX10_withBestShift_1 : decode cX10_withBestShift 1 = .ok (.lstore_n 3, 1) := by decide +kernel
theorem dX10_withBestShift_2 : decode cX10_withBestShift 2 = .ok (.aload_n 0, 1) := by decide +kernel
theorem dX10_withBestShift_3 : decode cX10_withBestShift 3 = .ok (.getfield 37, 3) := by decide +kernel
theorem dX10_withBestShift_6 : decode cX10_withBestShift 6 = .ok (.aload_n 0, 1) := by decide +kernel
theorem dX10_withBestShift_7 : decode cX10_withBestShift 7 = .ok (.invokevirtual 411, 3) := by decide +kernel
theorem dX10_withBestShift_10 : decode cX10_withBestShift 10 = .ok (.invokevirtual 362, 3) := by decide +kernel
theorem dX10_withBestShift_13 : decode cX10_withBestShift 13 = .ok (.iconst 0, 1) := by decide +kernel
theorem dX10_withBestShift_14 : decode cX10_withBestShift 14 = .ok (.istore 5, 2) := by decide +kernel
theorem dX10_withBestShift_16 : decode cX10_withBestShift 16 = .ok (.iload 5, 2) := by decide +kernel
theorem dX10_withBestShift_18 : decode cX10_withBestShift 18 = .ok (.iconst 3, 1) := by decide +kernel
theorem dX10_withBestShift_19 : decode cX10_withBestShift 19 = .ok (.if_icmp .ge 39, 3) := by decide +kernel
theorem dX10_withBestShift_22 : decode cX10_withBestShift 22 = .ok (.lload_n 3, 1) := by decide +kernel
theorem dX10_withBestShift_23 : decode cX10_withBestShift 23 = .ok (.aload_n 0, 1) := by decide +kernel
theorem dX10_withBestShift_24 : decode cX10_withBestShift 24 = .ok (.getfield 37, 3) := by decide +kernel
theorem dX10_withBestShift_27 : decode cX10_withBestShift 27 = .ok (.iload 5, 2) := by decide +kernel
theorem dX10_withBestShift_29 : decode cX10_withBestShift 29 = .ok (.invokevirtual 369, 3) := by decide +kernel
theorem dX10_withBestShift_32 : decode cX10_withBestShift 32 = .ok (.i2l, 1) := by decide +kernel
theorem dX10_withBestShift_33 : decode cX10_withBestShift 33 = .ok (.invokestatic 392, 3) := by decide +kernel
theorem dX10_withBestShift_36 : decode cX10_withBestShift 36 = .ok (.lstore_n 3, 1) := by decide +kernel
theorem dX10_withBestShift_37 : decode cX10_withBestShift 37 = .ok (.lload_n 3, 1) := by decide +kernel
theorem dX10_withBestShift_38 : decode cX10_withBestShift 38 = .ok (.aload_n 0, 1) := by decide +kernel
theorem dX10_withBestShift_39 : decode cX10_withBestShift 39 = .ok (.getfield 37, 3) := by decide +kernel
theorem dX10_withBestShift_42 : decode cX10_withBestShift 42 = .ok (.iload 5, 2) := by decide +kernel
theorem dX10_withBestShift_44 : decode cX10_withBestShift 44 = .ok (.invokevirtual 366, 3) := by decide +kernel
theorem dX10_withBestShift_47 : decode cX10_withBestShift 47 = .ok (.i2l, 1) := by decide +kernel
theorem dX10_withBestShift_48 : decode cX10_withBestShift 48 = .ok (.invokestatic 392, 3) := by decide +kernel
theorem dX10_withBestShift_51 : decode cX10_withBestShift 51 = .ok (.lstore_n 3, 1) := by decide +kernel
theorem dX10_withBestShift_52 : decode cX10_withBestShift 52 = .ok (.iinc 5 1, 3) := by decide +kernel
theorem dX10_withBestShift_55 : decode cX10_withBestShift 55 = .ok (.goto (-39), 3) := by decide +kernel
theorem dX10_withBestShift_58 : decode cX10_withBestShift 58 = .ok (.lload_n 3, 1) := by decide +kernel
theorem dX10_withBestShift_59 : decode cX10_withBestShift 59 = .ok (.lreturn, 1) := by decide +kernel
abbrev rm_m_X10_withBestShift : Room := { frames := 7, cells := 0, slots := 0, locals := 164 }
set_option maxHeartbeats 4000000 in
set_option maxRecDepth 100000 in
theorem m_X10_withBestShift {s0 : State} {l : Launch} {D : va_G} {cy : Nat → ClassId} (G : Gl s0 l D cy) (S : HS) (ea ns nj nm nt nr nc : Nat) (h : CI ea S ns nj nm nt nr nc) (d : Int64) (a0 b0 c0 : Nat → Int32) : Ctr s0 l D cy yX10_withBestShift cX10_withBestShift 6 (some .long) rm_m_X10_withBestShift (scr S a0 b0 c0) [.ref (gG S 10 0), .long d] (PSl S) := by
  refine pro "CavershamShift" G rfl rfl (Nat.le_of_ble_eq_true rfl) (fun p e s m below meth c ls X w hnm hl => ?_)
  have hx := X.1
  have hb := X.2.1
  have hown := X.2.2.2.1
  have hts := X.2.2.2.2.1
  have hl : lv_has ls 6 [(0, .ref (gG S 10 0)), (1, .long d)] := hl
  have h0 := h
  have h : CI ea (scr S a0 b0 c0) ns nj nm nt nr nc := h0.scr _ _ _
  refine lv_lload_n hx hb dX10_withBestShift_0 rfl (lv_at hl 1 rfl) ?_
  refine lv_lstore_n (lv' := [(3, .long d), (0, .ref (gG S 10 0)), (1, .long d)]) hx hb dX10_withBestShift_1 rfl hl (by decide) rfl (fun ls hl => ?_)
  refine lv_aload_n hx hb dX10_withBestShift_2 rfl (lv_at hl 1 rfl) ?_
  refine g_10_3 (S := (scr S a0 b0 c0)) (x := (some (gG (scr S a0 b0 c0) 2 0))) X w h.v10 wF_X10_37 (h.f163) dX10_withBestShift_3 ?_
  refine lv_aload_n hx hb dX10_withBestShift_6 rfl (lv_at hl 1 rfl) ?_
  refine cV (S := (scr S a0 b0 c0)) (nA := 0) (As := []) (rest := [.ref (gG (scr S a0 b0 c0) 2 0)]) X w hl h.v10 (m_X10_hourOfDay G (scr S a0 b0 c0) ea ns nj nm nt nr nc h ) wY_X10_hourOfDay wM_X10_411 wIn_X10_hourOfDay wSe_X10_X10_hourOfDay wI_X10 (by decide) rfl (by decide +kernel) rfl rfl dX10_withBestShift_7 ⟨by decide, by decide⟩ (Nat.le_of_ble_eq_true rfl) (⟨Nat.le_of_ble_eq_true rfl, Nat.le_of_ble_eq_true rfl⟩) (fun v1 S1 H locs hp w => ?_)
  obtain ⟨rfl, rfl⟩ := hp
  refine cV (S := (scr S a0 b0 c0)) (nA := 1) (As := [.int (mI (scr S a0 b0 c0) 164 0 - mI (scr S a0 b0 c0) 164 0 / 24 * 24)]) (rest := []) X w hl h.v2 (n_X2_choose G (scr S a0 b0 c0) ea ns nj nm nt nr nc h (mI (scr S a0 b0 c0) 164 0 - mI (scr S a0 b0 c0) 164 0 / 24 * 24)) wY_X2_choose wM_X10_362 wIn_X2_choose wSe_X2_X2_choose wI_X2 (by decide) rfl (by decide +kernel) rfl rfl dX10_withBestShift_10 ⟨by decide, by decide⟩ (Nat.le_of_ble_eq_true rfl) (⟨Nat.le_of_ble_eq_true rfl, Nat.le_of_ble_eq_true rfl⟩) (fun v6 S1 H locs hp w => ?_)
  obtain ⟨rfl, q3, q4, q5, rfl⟩ := hp
  rw [scr_scr] at w
  have h : CI ea (scr S q3 q4 q5) ns nj nm nt nr nc := h0.scr _ _ _
  refine lv_iconst (v := 0) hx hb dX10_withBestShift_13 (by decide) ?_
  refine lv_istore (lv' := [(5, .int 0), (3, .long d), (0, .ref (gG S 10 0)), (1, .long d)]) hx hb dX10_withBestShift_14 hl (by decide) rfl (fun ls hl => ?_)
  have L16 : ∀ (N : Nat) (k16 : Nat) (v16_3 : Int64) (H : Heap) (locs : List Loc) (ls : Array Slot), 3 - k16 < N → (k16 ≤ 3) → Wd s0 D cy (scr S q3 q4 q5) s.heap H locs → lv_has ls 6 [(5, .int (nI k16)), (3, .long v16_3), (0, .ref (gG S 10 0)), (1, .long d)] → W p l e rm_m_X10_withBestShift s m ([.ref (gG S 10 0), .long d] : List Value).toArray below meth c H locs 0 0 (MQ below (GQ s0 D cy (PSl S)) ([.ref (gG S 10 0), .long d] : List Value).toArray s rm_m_X10_withBestShift.cells rm_m_X10_withBestShift.slots (A0 s0)) (F0 m 16 ls []) := by
    intro N
    induction N with
    | zero => intros; omega
    | succ N ih16 =>
      intro k16 v16_3 H locs ls hmu hk_k16 w hl
      refine lv_iload hx hb dX10_withBestShift_16 (lv_at hl 0 rfl) ?_
      refine lv_iconst (v := 3) hx hb dX10_withBestShift_18 (by decide) ?_
      refine lv_icmp_ge (tgt := 58) hx hb dX10_withBestShift_19 (by decide) (fun hc_k16 => ?_) (fun hc_k16 => ?_)
      · have hge_k16 : 3 ≤ k16 := by
          skip
          exact (nI_leI (a := 3) (b := k16) (by omega) (by omega)).mp hc_k16
        refine lv_lload_n hx hb dX10_withBestShift_58 rfl (lv_at hl 1 rfl) ?_
        exact rL X w rfl dX10_withBestShift_59 (by decide) (by decide) (ps_l)
      · have hlt_k16 : k16 < 3 := by
          skip
          exact Nat.lt_of_not_le (fun z => hc_k16 ((nI_leI (a := 3) (b := k16) (by omega) (by omega)).mpr z))
        refine lv_lload_n hx hb dX10_withBestShift_22 rfl (lv_at hl 1 rfl) ?_
        refine lv_aload_n hx hb dX10_withBestShift_23 rfl (lv_at hl 2 rfl) ?_
        refine g_10_3 (S := (scr S q3 q4 q5)) (x := (some (gG (scr S q3 q4 q5) 2 0))) X w h.v10 wF_X10_37 (h.f163) dX10_withBestShift_24 ?_
        refine lv_iload hx hb dX10_withBestShift_27 (lv_at hl 0 rfl) ?_
        refine cV (S := (scr S q3 q4 q5)) (nA := 1) (As := [.int (nI k16)]) (rest := [.long v16_3]) X w hl h.v2 (m_X2_stationAtSet G (scr S q3 q4 q5) ea ns nj nm nt nr nc h (nI k16)) wY_X2_stationAtSet wM_X10_369 wIn_X2_stationAtSet wSe_X2_X2_stationAtSet wI_X2 (by decide) rfl (by decide +kernel) rfl rfl dX10_withBestShift_29 ⟨by decide, by decide⟩ (Nat.le_of_ble_eq_true rfl) (⟨Nat.le_of_ble_eq_true rfl, Nat.le_of_ble_eq_true rfl⟩) (fun v8 S1 H locs hp w => ?_)
        obtain ⟨⟨x7, rfl⟩, rfl⟩ := hp
        refine lv_i2l hx hb dX10_withBestShift_32 rfl ?_
        refine cS (S := (scr S q3 q4 q5)) (nA := 2) (As := [.long v16_3, .long x7.toInt64]) (rest := []) X w hl (m_X10_mixed G (scr S q3 q4 q5) ea ns nj nm nt nr nc h v16_3 x7.toInt64) wY_X10_mixed wM_X10_392 wSt_X10_mixed wI_X10 (by decide +kernel) rfl rfl dX10_withBestShift_33 ⟨by decide, by decide⟩ (Nat.le_of_ble_eq_true rfl) (⟨Nat.le_of_ble_eq_true rfl, Nat.le_of_ble_eq_true rfl⟩) (fun v9 S1 H locs hp w => ?_)
        obtain ⟨rfl, rfl⟩ := hp
        refine lv_lstore_n (lv' := [(3, .long (v16_3 * 31 + x7.toInt64)), (5, .int (nI k16)), (0, .ref (gG S 10 0)), (1, .long d)]) hx hb dX10_withBestShift_36 rfl hl (by decide) rfl (fun ls hl => ?_)
        refine lv_lload_n hx hb dX10_withBestShift_37 rfl (lv_at hl 0 rfl) ?_
        refine lv_aload_n hx hb dX10_withBestShift_38 rfl (lv_at hl 2 rfl) ?_
        refine g_10_3 (S := (scr S q3 q4 q5)) (x := (some (gG (scr S q3 q4 q5) 2 0))) X w h.v10 wF_X10_37 (h.f163) dX10_withBestShift_39 ?_
        refine lv_iload hx hb dX10_withBestShift_42 (lv_at hl 1 rfl) ?_
        refine cV (S := (scr S q3 q4 q5)) (nA := 1) (As := [.int (nI k16)]) (rest := [.long (v16_3 * 31 + x7.toInt64)]) X w hl h.v2 (m_X2_monitorAtSet G (scr S q3 q4 q5) ea ns nj nm nt nr nc h (nI k16)) wY_X2_monitorAtSet wM_X10_366 wIn_X2_monitorAtSet wSe_X2_X2_monitorAtSet wI_X2 (by decide) rfl (by decide +kernel) rfl rfl dX10_withBestShift_44 ⟨by decide, by decide⟩ (Nat.le_of_ble_eq_true rfl) (⟨Nat.le_of_ble_eq_true rfl, Nat.le_of_ble_eq_true rfl⟩) (fun v11 S1 H locs hp w => ?_)
        obtain ⟨⟨x10, rfl⟩, rfl⟩ := hp
        refine lv_i2l hx hb dX10_withBestShift_47 rfl ?_
        refine cS (S := (scr S q3 q4 q5)) (nA := 2) (As := [.long (v16_3 * 31 + x7.toInt64), .long x10.toInt64]) (rest := []) X w hl (m_X10_mixed G (scr S q3 q4 q5) ea ns nj nm nt nr nc h (v16_3 * 31 + x7.toInt64) x10.toInt64) wY_X10_mixed wM_X10_392 wSt_X10_mixed wI_X10 (by decide +kernel) rfl rfl dX10_withBestShift_48 ⟨by decide, by decide⟩ (Nat.le_of_ble_eq_true rfl) (⟨Nat.le_of_ble_eq_true rfl, Nat.le_of_ble_eq_true rfl⟩) (fun v12 S1 H locs hp w => ?_)
        obtain ⟨rfl, rfl⟩ := hp
        refine lv_lstore_n (lv' := [(3, .long ((v16_3 * 31 + x7.toInt64) * 31 + x10.toInt64)), (5, .int (nI k16)), (0, .ref (gG S 10 0)), (1, .long d)]) hx hb dX10_withBestShift_51 rfl hl (by decide) rfl (fun ls hl => ?_)
        refine lv_iinc (v := nI (k16 + 1)) (lv' := [(5, .int (nI (k16 + 1))), (3, .long ((v16_3 * 31 + x7.toInt64) * 31 + x10.toInt64)), (0, .ref (gG S 10 0)), (1, .long d)]) hx hb dX10_withBestShift_52 hl (k := 1) rfl (nI_1 _) (by decide) rfl (fun ls hl => ?_)
        refine lv_goto (tgt := 16) hx hb dX10_withBestShift_55 (by decide) ?_
        exact ih16 (k16 + 1) ((v16_3 * 31 + x7.toInt64) * 31 + x10.toInt64) _ _ _ (by omega) (hlt_k16) w (lv_sub hl [0, 1, 2, 3] rfl)
  exact L16 _ 0 d _ _ _ (Nat.lt_succ_self _) (Nat.zero_le _) w (lv_sub hl [0, 1, 2, 3] rfl)

theorem n_X10_withBestShift {s0 : State} {l : Launch} {D : va_G} {cy : Nat → ClassId} (G : Gl s0 l D cy) (S : HS) (ea ns nj nm nt nr nc : Nat) (h : CI ea S ns nj nm nt nr nc) (d : Int64) : Ctr s0 l D cy yX10_withBestShift cX10_withBestShift 6 (some .long) rm_m_X10_withBestShift S [.ref (gG S 10 0), .long d] (PSl S) := by
  have z := m_X10_withBestShift G S ea ns nj nm nt nr nc h d (mA S 32 2) (mA S 32 3) (mA S 32 4)
  rw [scr_id] at z
  exact z
theorem dX10_digest_0 : decode cX10_digest 0 = .ok (.ldc2_w 390, 3) := by decide +kernel
theorem dX10_digest_3 : decode cX10_digest 3 = .ok (.lstore_n 1, 1) := by decide +kernel
theorem dX10_digest_4 : decode cX10_digest 4 = .ok (.iconst 0, 1) := by decide +kernel
theorem dX10_digest_5 : decode cX10_digest 5 = .ok (.istore_n 3, 1) := by decide +kernel
theorem dX10_digest_6 : decode cX10_digest 6 = .ok (.iload_n 3, 1) := by decide +kernel
theorem dX10_digest_7 : decode cX10_digest 7 = .ok (.bipush 19, 2) := by decide +kernel
theorem dX10_digest_9 : decode cX10_digest 9 = .ok (.if_icmp .ge 20, 3) := by decide +kernel
theorem dX10_digest_12 : decode cX10_digest 12 = .ok (.lload_n 1, 1) := by decide +kernel
theorem dX10_digest_13 : decode cX10_digest 13 = .ok (.aload_n 0, 1) := by decide +kernel
theorem dX10_digest_14 : decode cX10_digest 14 = .ok (.iload_n 3, 1) := by decide +kernel
theorem dX10_digest_15 : decode cX10_digest 15 = .ok (.invokevirtual 308, 3) := by decide +kernel
theorem dX10_digest_18 : decode cX10_digest 18 = .ok (.i2l, 1) := by decide +kernel
theorem dX10_digest_19 : decode cX10_digest 19 = .ok (.invokestatic 392, 3) := by decide +kernel
theorem dX10_digest_22 : decode cX10_digest 22 = .ok (.lstore_n 1, 1) := by decide +kernel
theorem dX10_digest_23 : decode cX10_digest 23 = .ok (.iinc 3 1, 3) := by decide +kernel
theorem dX10_digest_26 : decode cX10_digest 26 = .ok (.goto (-20), 3) := by decide +kernel
theorem dX10_digest_29 : decode cX10_digest 29 = .ok (.aload_n 0, 1) := by decide +kernel
theorem dX10_digest_30 : decode cX10_digest 30 = .ok (.lload_n 1, 1) := by decide +kernel
theorem dX10_digest_31 : decode cX10_digest 31 = .ok (.invokevirtual 396, 3) := by decide +kernel
theorem dX10_digest_34 : decode cX10_digest 34 = .ok (.lstore_n 1, 1) := by decide +kernel
theorem dX10_digest_35 : decode cX10_digest 35 = .ok (.aload_n 0, 1) := by decide +kernel
theorem dX10_digest_36 : decode cX10_digest 36 = .ok (.lload_n 1, 1) := by decide +kernel
theorem dX10_digest_37 : decode cX10_digest 37 = .ok (.invokevirtual 400, 3) := by decide +kernel
theorem dX10_digest_40 : decode cX10_digest 40 = .ok (.lstore_n 1, 1) := by decide +kernel
theorem dX10_digest_41 : decode cX10_digest 41 = .ok (.aload_n 0, 1) := by decide +kernel
theorem dX10_digest_42 : decode cX10_digest 42 = .ok (.lload_n 1, 1) := by decide +kernel
theorem dX10_digest_43 : decode cX10_digest 43 = .ok (.invokevirtual 403, 3) := by decide +kernel
theorem dX10_digest_46 : decode cX10_digest 46 = .ok (.lstore_n 1, 1) := by decide +kernel
theorem dX10_digest_47 : decode cX10_digest 47 = .ok (.aload_n 0, 1) := by decide +kernel
theorem dX10_digest_48 : decode cX10_digest 48 = .ok (.lload_n 1, 1) := by decide +kernel
theorem dX10_digest_49 : decode cX10_digest 49 = .ok (.invokevirtual 406, 3) := by decide +kernel
theorem dX10_digest_52 : decode cX10_digest 52 = .ok (.lstore_n 1, 1) := by decide +kernel
theorem dX10_digest_53 : decode cX10_digest 53 = .ok (.iconst 0, 1) := by decide +kernel
theorem dX10_digest_54 : decode cX10_digest 54 = .ok (.istore_n 3, 1) := by decide +kernel
theorem dX10_digest_55 : decode cX10_digest 55 = .ok (.iload_n 3, 1) := by decide +kernel
theorem dX10_digest_56 : decode cX10_digest 56 = .ok (.bipush 6, 2) := by decide +kernel
theorem dX10_digest_58 : decode cX10_digest 58 = .ok (.if_icmp .ge 45, 3) := by decide +kernel
theorem dX10_digest_61 : decode cX10_digest 61 = .ok (.lload_n 1, 1) := by decide +kernel
theorem dX10_digest_62 : decode cX10_digest 62 = .ok (.aload_n 0, 1) := by decide +kernel
theorem dX10_digest_63 : decode cX10_digest 63 = .ok (.getfield 28, 3) := by decide +kernel
theorem dX10_digest_66 : decode cX10_digest 66 = .ok (.iload_n 3, 1) := by decide +kernel
theorem dX10_digest_67 : decode cX10_digest 67 = .ok (.aload_n 0, 1) := by decide +kernel
theorem dX10_digest_68 : decode cX10_digest 68 = .ok (.invokevirtual 292, 3) := by decide +kernel
theorem dX10_digest_71 : decode cX10_digest 71 = .ok (.invokevirtual 295, 3) := by decide +kernel
theorem dX10_digest_74 : decode cX10_digest 74 = .ok (.i2l, 1) := by decide +kernel
theorem dX10_digest_75 : decode cX10_digest 75 = .ok (.invokestatic 392, 3) := by decide +kernel
theorem dX10_digest_78 : decode cX10_digest 78 = .ok (.lstore_n 1, 1) := by decide +kernel
theorem dX10_digest_79 : decode cX10_digest 79 = .ok (.lload_n 1, 1) := by decide +kernel
theorem dX10_digest_80 : decode cX10_digest 80 = .ok (.ldc2_w 409, 3) := by decide +kernel
theorem dX10_digest_83 : decode cX10_digest 83 = .ok (.aload_n 0, 1) := by decide +kernel
theorem dX10_digest_84 : decode cX10_digest 84 = .ok (.getfield 28, 3) := by decide +kernel
theorem dX10_digest_87 : decode cX10_digest 87 = .ok (.iload_n 3, 1) := by decide +kernel
theorem dX10_digest_88 : decode cX10_digest 88 = .ok (.invokevirtual 304, 3) := by decide +kernel
theorem dX10_digest_91 : decode cX10_digest 91 = .ok (.dmul, 1) := by decide +kernel
theorem dX10_digest_92 : decode cX10_digest 92 = .ok (.d2l, 1) := by decide +kernel
theorem dX10_digest_93 : decode cX10_digest 93 = .ok (.invokestatic 392, 3) := by decide +kernel
theorem dX10_digest_96 : decode cX10_digest 96 = .ok (.lstore_n 1, 1) := by decide +kernel
theorem dX10_digest_97 : decode cX10_digest 97 = .ok (.iinc 3 1, 3) := by decide +kernel
theorem dX10_digest_100 : decode cX10_digest 100 = .ok (.goto (-45), 3) := by decide +kernel
theorem dX10_digest_103 : decode cX10_digest 103 = .ok (.iconst 0, 1) := by decide +kernel
theorem dX10_digest_104 : decode cX10_digest 104 = .ok (.istore_n 3, 1) := by decide +kernel
theorem dX10_digest_105 : decode cX10_digest 105 = .ok (.iload_n 3, 1) := by decide +kernel
theorem dX10_digest_106 : decode cX10_digest 106 = .ok (.bipush 16, 2) := by decide +kernel
theorem dX10_digest_108 : decode cX10_digest 108 = .ok (.if_icmp .ge 23, 3) := by decide +kernel
theorem dX10_digest_111 : decode cX10_digest 111 = .ok (.lload_n 1, 1) := by decide +kernel
theorem dX10_digest_112 : decode cX10_digest 112 = .ok (.aload_n 0, 1) := by decide +kernel
theorem dX10_digest_113 : decode cX10_digest 113 = .ok (.getfield 28, 3) := by decide +kernel
theorem dX10_digest_116 : decode cX10_digest 116 = .ok (.iload_n 3, 1) := by decide +kernel
theorem dX10_digest_117 : decode cX10_digest 117 = .ok (.invokevirtual 300, 3) := by decide +kernel
theorem dX10_digest_120 : decode cX10_digest 120 = .ok (.i2l, 1) := by decide +kernel
theorem dX10_digest_121 : decode cX10_digest 121 = .ok (.invokestatic 392, 3) := by decide +kernel
theorem dX10_digest_124 : decode cX10_digest 124 = .ok (.lstore_n 1, 1) := by decide +kernel
theorem dX10_digest_125 : decode cX10_digest 125 = .ok (.iinc 3 1, 3) := by decide +kernel
theorem dX10_digest_128 : decode cX10_digest 128 = .ok (.goto (-23), 3) := by decide +kernel
theorem dX10_digest_131 : decode cX10_digest 131 = .ok (.lload_n 1, 1) := by decide +kernel
theorem dX10_digest_132 : decode cX10_digest 132 = .ok (.aload_n 0, 1) := by decide +kernel
theorem dX10_digest_133 : decode cX10_digest 133 = .ok (.getfield 37, 3) := by decide +kernel
theorem dX10_digest_136 : decode cX10_digest 136 = .ok (.aload_n 0, 1) := by decide +kernel
theorem dX10_digest_137 : decode cX10_digest 137 = .ok (.invokevirtual 411, 3) := by decide +kernel
theorem dX10_digest_140 : decode cX10_digest 140 = .ok (.invokevirtual 359, 3) := by decide +kernel
theorem dX10_digest_143 : decode cX10_digest 143 = .ok (.i2l, 1) := by decide +kernel
theorem dX10_digest_144 : decode cX10_digest 144 = .ok (.invokestatic 392, 3) := by decide +kernel
theorem dX10_digest_147 : decode cX10_digest 147 = .ok (.lstore_n 1, 1) := by decide +kernel
theorem dX10_digest_148 : decode cX10_digest 148 = .ok (.lload_n 1, 1) := by decide +kernel
theorem dX10_digest_149 : decode cX10_digest 149 = .ok (.aload_n 0, 1) := by decide +kernel
theorem dX10_digest_150 : decode cX10_digest 150 = .ok (.getfield 28, 3) := by decide +kernel
theorem dX10_digest_153 : decode cX10_digest 153 = .ok (.aload_n 0, 1) := by decide +kernel
theorem dX10_digest_154 : decode cX10_digest 154 = .ok (.getfield 41, 3) := by decide +kernel
theorem dX10_digest_157 : decode cX10_digest 157 = .ok (.invokevirtual 380, 3) := by decide +kernel
theorem dX10_digest_160 : decode cX10_digest 160 = .ok (.i2l, 1) := by decide +kernel
theorem dX10_digest_161 : decode cX10_digest 161 = .ok (.invokestatic 392, 3) := by decide +kernel
theorem dX10_digest_164 : decode cX10_digest 164 = .ok (.lstore_n 1, 1) := by decide +kernel
theorem dX10_digest_165 : decode cX10_digest 165 = .ok (.lload_n 1, 1) := by decide +kernel
theorem dX10_digest_166 : decode cX10_digest 166 = .ok (.aload_n 0, 1) := by decide +kernel
theorem dX10_digest_167 : decode cX10_digest 167 = .ok (.invokevirtual 414, 3) := by decide +kernel
theorem dX10_digest_170 : decode cX10_digest 170 = .ok (.ifCond .eq 7, 3) := by decide +kernel
theorem dX10_digest_173 : decode cX10_digest 173 = .ok (.lconst 1, 1) := by decide +kernel
theorem dX10_digest_174 : decode cX10_digest 174 = .ok (.goto 4, 3) := by decide +kernel
theorem dX10_digest_177 : decode cX10_digest 177 = .ok (.lconst 0, 1) := by decide +kernel
theorem dX10_digest_178 : decode cX10_digest 178 = .ok (.invokestatic 392, 3) := by decide +kernel
theorem dX10_digest_181 : decode cX10_digest 181 = .ok (.lreturn, 1) := by decide +kernel
abbrev rm_m_X10_digest : Room := { frames := 8, cells := 0, slots := 0, locals := 189 }
set_option maxHeartbeats 4000000 in
set_option maxRecDepth 100000 in
theorem m_X10_digest {s0 : State} {l : Launch} {D : va_G} {cy : Nat → ClassId} (G : Gl s0 l D cy) (S : HS) (ea ns nj nm nt nr nc : Nat) (h : CI ea S ns nj nm nt nr nc)  (a0 b0 c0 : Nat → Int32) : Ctr s0 l D cy yX10_digest cX10_digest 4 (some .long) rm_m_X10_digest (scr S a0 b0 c0) [.ref (gG S 10 0)] (PSl S) := by
  refine pro "CavershamShift" G rfl rfl (Nat.le_of_ble_eq_true rfl) (fun p e s m below meth c ls X w hnm hl => ?_)
  have hx := X.1
  have hb := X.2.1
  have hown := X.2.2.2.1
  have hts := X.2.2.2.2.1
  have hl : lv_has ls 4 [(0, .ref (gG S 10 0))] := hl
  have h0 := h
  have h : CI ea (scr S a0 b0 c0) ns nj nm nt nr nc := h0.scr _ _ _
  refine lv_ldc2 hx hb hown (hts _ wK_X10_390) dX10_digest_0 ?_
  refine lv_lstore_n (lv' := [(1, .long 58269), (0, .ref (gG S 10 0))]) hx hb dX10_digest_3 rfl hl (by decide) rfl (fun ls hl => ?_)
  refine lv_iconst (v := 0) hx hb dX10_digest_4 (by decide) ?_
  refine lv_istore_n (lv' := [(3, .int 0), (1, .long 58269), (0, .ref (gG S 10 0))]) hx hb dX10_digest_5 rfl hl (by decide) rfl (fun ls hl => ?_)
  have L6 : ∀ (N : Nat) (k6 : Nat) (v6_1 : Int64) (H : Heap) (locs : List Loc) (ls : Array Slot), 19 - k6 < N → (k6 ≤ 19) → Wd s0 D cy (scr S a0 b0 c0) s.heap H locs → lv_has ls 4 [(3, .int (nI k6)), (1, .long v6_1), (0, .ref (gG S 10 0))] → W p l e rm_m_X10_digest s m ([.ref (gG S 10 0)] : List Value).toArray below meth c H locs 0 0 (MQ below (GQ s0 D cy (PSl S)) ([.ref (gG S 10 0)] : List Value).toArray s rm_m_X10_digest.cells rm_m_X10_digest.slots (A0 s0)) (F0 m 6 ls []) := by
    intro N
    induction N with
    | zero => intros; omega
    | succ N ih6 =>
      intro k6 v6_1 H locs ls hmu hk_k6 w hl
      refine lv_iload_n hx hb dX10_digest_6 rfl (lv_at hl 0 rfl) ?_
      refine lv_bipush (v := 19) hx hb dX10_digest_7 (by decide) ?_
      refine lv_icmp_ge (tgt := 29) hx hb dX10_digest_9 (by decide) (fun hc_k6 => ?_) (fun hc_k6 => ?_)
      · have hge_k6 : 19 ≤ k6 := by
          skip
          exact (nI_leI (a := 19) (b := k6) (by omega) (by omega)).mp hc_k6
        refine lv_aload_n hx hb dX10_digest_29 rfl (lv_at hl 2 rfl) ?_
        refine lv_lload_n hx hb dX10_digest_30 rfl (lv_at hl 1 rfl) ?_
        refine cV (S := (scr S a0 b0 c0)) (nA := 1) (As := [.long v6_1]) (rest := []) X w hl h.v10 (m_X10_withDial G (scr S a0 b0 c0) ea ns nj nm nt nr nc h v6_1) wY_X10_withDial wM_X10_396 wIn_X10_withDial wSe_X10_X10_withDial wI_X10 (by decide) rfl (by decide +kernel) rfl rfl dX10_digest_31 ⟨by decide, by decide⟩ (Nat.le_of_ble_eq_true rfl) (⟨Nat.le_of_ble_eq_true rfl, Nat.le_of_ble_eq_true rfl⟩) (fun v2 S1 H locs hp w => ?_)
        obtain ⟨⟨x1, rfl⟩, rfl⟩ := hp
        refine lv_lstore_n (lv' := [(1, .long x1), (3, .int (nI k6)), (0, .ref (gG S 10 0))]) hx hb dX10_digest_34 rfl hl (by decide) rfl (fun ls hl => ?_)
        refine lv_aload_n hx hb dX10_digest_35 rfl (lv_at hl 2 rfl) ?_
        refine lv_lload_n hx hb dX10_digest_36 rfl (lv_at hl 0 rfl) ?_
        refine cV (S := (scr S a0 b0 c0)) (nA := 1) (As := [.long x1]) (rest := []) X w hl h.v10 (n_X10_withBestShift G (scr S a0 b0 c0) ea ns nj nm nt nr nc h x1) wY_X10_withBestShift wM_X10_400 wIn_X10_withBestShift wSe_X10_X10_withBestShift wI_X10 (by decide) rfl (by decide +kernel) rfl rfl dX10_digest_37 ⟨by decide, by decide⟩ (Nat.le_of_ble_eq_true rfl) (⟨Nat.le_of_ble_eq_true rfl, Nat.le_of_ble_eq_true rfl⟩) (fun v7 S1 H locs hp w => ?_)
        obtain ⟨⟨x3, rfl⟩, q4, q5, q6, rfl⟩ := hp
        rw [scr_scr] at w
        have h : CI ea (scr S q4 q5 q6) ns nj nm nt nr nc := h0.scr _ _ _
        refine lv_lstore_n (lv' := [(1, .long x3), (3, .int (nI k6)), (0, .ref (gG S 10 0))]) hx hb dX10_digest_40 rfl hl (by decide) rfl (fun ls hl => ?_)
        refine lv_aload_n hx hb dX10_digest_41 rfl (lv_at hl 2 rfl) ?_
        refine lv_lload_n hx hb dX10_digest_42 rfl (lv_at hl 0 rfl) ?_
        refine cV (S := (scr S q4 q5 q6)) (nA := 1) (As := [.long x3]) (rest := []) X w hl h.v10 (m_X10_withTalks G (scr S q4 q5 q6) ea ns nj nm nt nr nc h x3) wY_X10_withTalks wM_X10_403 wIn_X10_withTalks wSe_X10_X10_withTalks wI_X10 (by decide) rfl (by decide +kernel) rfl rfl dX10_digest_43 ⟨by decide, by decide⟩ (Nat.le_of_ble_eq_true rfl) (⟨Nat.le_of_ble_eq_true rfl, Nat.le_of_ble_eq_true rfl⟩) (fun v9 S1 H locs hp w => ?_)
        obtain ⟨⟨x8, rfl⟩, rfl⟩ := hp
        refine lv_lstore_n (lv' := [(1, .long x8), (3, .int (nI k6)), (0, .ref (gG S 10 0))]) hx hb dX10_digest_46 rfl hl (by decide) rfl (fun ls hl => ?_)
        refine lv_aload_n hx hb dX10_digest_47 rfl (lv_at hl 2 rfl) ?_
        refine lv_lload_n hx hb dX10_digest_48 rfl (lv_at hl 0 rfl) ?_
        refine cV (S := (scr S q4 q5 q6)) (nA := 1) (As := [.long x8]) (rest := []) X w hl h.v10 (m_X10_withReaders G (scr S q4 q5 q6) ea ns nj nm nt nr nc h x8) wY_X10_withReaders wM_X10_406 wIn_X10_withReaders wSe_X10_X10_withReaders wI_X10 (by decide) rfl (by decide +kernel) rfl rfl dX10_digest_49 ⟨by decide, by decide⟩ (Nat.le_of_ble_eq_true rfl) (⟨Nat.le_of_ble_eq_true rfl, Nat.le_of_ble_eq_true rfl⟩) (fun v11 S1 H locs hp w => ?_)
        obtain ⟨⟨x10, rfl⟩, rfl⟩ := hp
        refine lv_lstore_n (lv' := [(1, .long x10), (3, .int (nI k6)), (0, .ref (gG S 10 0))]) hx hb dX10_digest_52 rfl hl (by decide) rfl (fun ls hl => ?_)
        refine lv_iconst (v := 0) hx hb dX10_digest_53 (by decide) ?_
        refine lv_istore_n (lv' := [(3, .int 0), (1, .long x10), (0, .ref (gG S 10 0))]) hx hb dX10_digest_54 rfl hl (by decide) rfl (fun ls hl => ?_)
        have L55 : ∀ (N : Nat) (k55 : Nat) (v55_1 : Int64) (H : Heap) (locs : List Loc) (ls : Array Slot), 6 - k55 < N → (k55 ≤ 6) → Wd s0 D cy (scr S q4 q5 q6) s.heap H locs → lv_has ls 4 [(3, .int (nI k55)), (1, .long v55_1), (0, .ref (gG S 10 0))] → W p l e rm_m_X10_digest s m ([.ref (gG S 10 0)] : List Value).toArray below meth c H locs 0 0 (MQ below (GQ s0 D cy (PSl S)) ([.ref (gG S 10 0)] : List Value).toArray s rm_m_X10_digest.cells rm_m_X10_digest.slots (A0 s0)) (F0 m 55 ls []) := by
          intro N
          induction N with
          | zero => intros; omega
          | succ N ih55 =>
            intro k55 v55_1 H locs ls hmu hk_k55 w hl
            refine lv_iload_n hx hb dX10_digest_55 rfl (lv_at hl 0 rfl) ?_
            refine lv_bipush (v := 6) hx hb dX10_digest_56 (by decide) ?_
            refine lv_icmp_ge (tgt := 103) hx hb dX10_digest_58 (by decide) (fun hc_k55 => ?_) (fun hc_k55 => ?_)
            · have hge_k55 : 6 ≤ k55 := by
                skip
                exact (nI_leI (a := 6) (b := k55) (by omega) (by omega)).mp hc_k55
              refine lv_iconst (v := 0) hx hb dX10_digest_103 (by decide) ?_
              refine lv_istore_n (lv' := [(3, .int 0), (1, .long v55_1), (0, .ref (gG S 10 0))]) hx hb dX10_digest_104 rfl hl (by decide) rfl (fun ls hl => ?_)
              have L105 : ∀ (N : Nat) (k105 : Nat) (v105_1 : Int64) (H : Heap) (locs : List Loc) (ls : Array Slot), 16 - k105 < N → (k105 ≤ 16) → Wd s0 D cy (scr S q4 q5 q6) s.heap H locs → lv_has ls 4 [(3, .int (nI k105)), (1, .long v105_1), (0, .ref (gG S 10 0))] → W p l e rm_m_X10_digest s m ([.ref (gG S 10 0)] : List Value).toArray below meth c H locs 0 0 (MQ below (GQ s0 D cy (PSl S)) ([.ref (gG S 10 0)] : List Value).toArray s rm_m_X10_digest.cells rm_m_X10_digest.slots (A0 s0)) (F0 m 105 ls []) := by
                intro N
                induction N with
                | zero => intros; omega
                | succ N ih105 =>
                  intro k105 v105_1 H locs ls hmu hk_k105 w hl
                  refine lv_iload_n hx hb dX10_digest_105 rfl (lv_at hl 0 rfl) ?_
                  refine lv_bipush (v := 16) hx hb dX10_digest_106 (by decide) ?_
                  refine lv_icmp_ge (tgt := 131) hx hb dX10_digest_108 (by decide) (fun hc_k105 => ?_) (fun hc_k105 => ?_)
                  · have hge_k105 : 16 ≤ k105 := by
                      skip
                      exact (nI_leI (a := 16) (b := k105) (by omega) (by omega)).mp hc_k105
                    refine lv_lload_n hx hb dX10_digest_131 rfl (lv_at hl 1 rfl) ?_
                    refine lv_aload_n hx hb dX10_digest_132 rfl (lv_at hl 2 rfl) ?_
                    refine g_10_3 (S := (scr S q4 q5 q6)) (x := (some (gG (scr S q4 q5 q6) 2 0))) X w h.v10 wF_X10_37 (h.f163) dX10_digest_133 ?_
                    refine lv_aload_n hx hb dX10_digest_136 rfl (lv_at hl 2 rfl) ?_
                    refine cV (S := (scr S q4 q5 q6)) (nA := 0) (As := []) (rest := [.ref (gG (scr S q4 q5 q6) 2 0), .long v105_1]) X w hl h.v10 (m_X10_hourOfDay G (scr S q4 q5 q6) ea ns nj nm nt nr nc h ) wY_X10_hourOfDay wM_X10_411 wIn_X10_hourOfDay wSe_X10_X10_hourOfDay wI_X10 (by decide) rfl (by decide +kernel) rfl rfl dX10_digest_137 ⟨by decide, by decide⟩ (Nat.le_of_ble_eq_true rfl) (⟨Nat.le_of_ble_eq_true rfl, Nat.le_of_ble_eq_true rfl⟩) (fun v12 S1 H locs hp w => ?_)
                    obtain ⟨rfl, rfl⟩ := hp
                    refine cV (S := (scr S q4 q5 q6)) (nA := 1) (As := [.int (mI (scr S q4 q5 q6) 164 0 - mI (scr S q4 q5 q6) 164 0 / 24 * 24)]) (rest := [.long v105_1]) X w hl h.v2 (n_X2_greatestSum G (scr S q4 q5 q6) ea ns nj nm nt nr nc h (mI (scr S q4 q5 q6) 164 0 - mI (scr S q4 q5 q6) 164 0 / 24 * 24)) wY_X2_greatestSum wM_X10_359 wIn_X2_greatestSum wSe_X2_X2_greatestSum wI_X2 (by decide) rfl (by decide +kernel) rfl rfl dX10_digest_140 ⟨by decide, by decide⟩ (Nat.le_of_ble_eq_true rfl) (⟨Nat.le_of_ble_eq_true rfl, Nat.le_of_ble_eq_true rfl⟩) (fun v17 S1 H locs hp w => ?_)
                    obtain ⟨⟨x13, rfl⟩, q14, q15, q16, rfl⟩ := hp
                    rw [scr_scr] at w
                    have h : CI ea (scr S q14 q15 q16) ns nj nm nt nr nc := h0.scr _ _ _
                    refine lv_i2l hx hb dX10_digest_143 rfl ?_
                    refine cS (S := (scr S q14 q15 q16)) (nA := 2) (As := [.long v105_1, .long x13.toInt64]) (rest := []) X w hl (m_X10_mixed G (scr S q14 q15 q16) ea ns nj nm nt nr nc h v105_1 x13.toInt64) wY_X10_mixed wM_X10_392 wSt_X10_mixed wI_X10 (by decide +kernel) rfl rfl dX10_digest_144 ⟨by decide, by decide⟩ (Nat.le_of_ble_eq_true rfl) (⟨Nat.le_of_ble_eq_true rfl, Nat.le_of_ble_eq_true rfl⟩) (fun v18 S1 H locs hp w => ?_)
                    obtain ⟨rfl, rfl⟩ := hp
                    refine lv_lstore_n (lv' := [(1, .long (v105_1 * 31 + x13.toInt64)), (3, .int (nI k105)), (0, .ref (gG S 10 0))]) hx hb dX10_digest_147 rfl hl (by decide) rfl (fun ls hl => ?_)
                    refine lv_lload_n hx hb dX10_digest_148 rfl (lv_at hl 0 rfl) ?_
                    refine lv_aload_n hx hb dX10_digest_149 rfl (lv_at hl 2 rfl) ?_
                    refine g_10_2 (S := (scr S q14 q15 q16)) (x := (some (gG (scr S q14 q15 q16) 4 0))) X w h.v10 wF_X10_28 (h.f162) dX10_digest_150 ?_
                    refine lv_aload_n hx hb dX10_digest_153 rfl (lv_at hl 2 rfl) ?_
                    refine g_10_4 (S := (scr S q14 q15 q16)) (x := (mI (scr S q14 q15 q16) 164 0)) X w h.v10 wF_X10_41 (rfl) dX10_digest_154 ?_
                    refine cV (S := (scr S q14 q15 q16)) (nA := 1) (As := [.int (mI (scr S q14 q15 q16) 164 0)]) (rest := [.long (v105_1 * 31 + x13.toInt64)]) X w hl h.v4 (m_X4_countToSend G (scr S q14 q15 q16) ea ns nj nm nt nr nc h (mI (scr S q14 q15 q16) 164 0)) wY_X4_countToSend wM_X10_380 wIn_X4_countToSend wSe_X4_X4_countToSend wI_X4 (by decide) rfl (by decide +kernel) rfl rfl dX10_digest_157 ⟨by decide, by decide⟩ (Nat.le_of_ble_eq_true rfl) (⟨Nat.le_of_ble_eq_true rfl, Nat.le_of_ble_eq_true rfl⟩) (fun v20 S1 H locs hp w => ?_)
                    obtain ⟨⟨x19, rfl⟩, rfl⟩ := hp
                    refine lv_i2l hx hb dX10_digest_160 rfl ?_
                    refine cS (S := (scr S q14 q15 q16)) (nA := 2) (As := [.long (v105_1 * 31 + x13.toInt64), .long x19.toInt64]) (rest := []) X w hl (m_X10_mixed G (scr S q14 q15 q16) ea ns nj nm nt nr nc h (v105_1 * 31 + x13.toInt64) x19.toInt64) wY_X10_mixed wM_X10_392 wSt_X10_mixed wI_X10 (by decide +kernel) rfl rfl dX10_digest_161 ⟨by decide, by decide⟩ (Nat.le_of_ble_eq_true rfl) (⟨Nat.le_of_ble_eq_true rfl, Nat.le_of_ble_eq_true rfl⟩) (fun v21 S1 H locs hp w => ?_)
                    obtain ⟨rfl, rfl⟩ := hp
                    refine lv_lstore_n (lv' := [(1, .long ((v105_1 * 31 + x13.toInt64) * 31 + x19.toInt64)), (3, .int (nI k105)), (0, .ref (gG S 10 0))]) hx hb dX10_digest_164 rfl hl (by decide) rfl (fun ls hl => ?_)
                    refine lv_lload_n hx hb dX10_digest_165 rfl (lv_at hl 0 rfl) ?_
                    refine lv_aload_n hx hb dX10_digest_166 rfl (lv_at hl 2 rfl) ?_
                    refine cV (S := (scr S q14 q15 q16)) (nA := 0) (As := []) (rest := [.long ((v105_1 * 31 + x13.toInt64) * 31 + x19.toInt64)]) X w hl h.v10 (m_X10_isSound G (scr S q14 q15 q16) ea ns nj nm nt nr nc h ) wY_X10_isSound wM_X10_414 wIn_X10_isSound wSe_X10_X10_isSound wI_X10 (by decide) rfl (by decide +kernel) rfl rfl dX10_digest_167 ⟨by decide, by decide⟩ (Nat.le_of_ble_eq_true rfl) (⟨Nat.le_of_ble_eq_true rfl, Nat.le_of_ble_eq_true rfl⟩) (fun v23 S1 H locs hp w => ?_)
                    obtain ⟨⟨x22, rfl⟩, rfl⟩ := hp
                    refine lv_if_eq (tgt := 177) hx hb dX10_digest_170 (by decide) (fun hc24 => ?_) (fun hc24 => ?_)
                    · refine lv_lconst (v := 0) hx hb dX10_digest_177 (by decide) ?_
                      refine cS (S := (scr S q14 q15 q16)) (nA := 2) (As := [.long ((v105_1 * 31 + x13.toInt64) * 31 + x19.toInt64), .long 0]) (rest := []) X w hl (m_X10_mixed G (scr S q14 q15 q16) ea ns nj nm nt nr nc h ((v105_1 * 31 + x13.toInt64) * 31 + x19.toInt64) 0) wY_X10_mixed wM_X10_392 wSt_X10_mixed wI_X10 (by decide +kernel) rfl rfl dX10_digest_178 ⟨by decide, by decide⟩ (Nat.le_of_ble_eq_true rfl) (⟨Nat.le_of_ble_eq_true rfl, Nat.le_of_ble_eq_true rfl⟩) (fun v25 S1 H locs hp w => ?_)
                      obtain ⟨rfl, rfl⟩ := hp
                      exact rL X w rfl dX10_digest_181 (by decide) (by decide) (ps_l)
                    · refine lv_lconst (v := 1) hx hb dX10_digest_173 (by decide) ?_
                      refine lv_goto (tgt := 178) hx hb dX10_digest_174 (by decide) ?_
                      refine cS (S := (scr S q14 q15 q16)) (nA := 2) (As := [.long ((v105_1 * 31 + x13.toInt64) * 31 + x19.toInt64), .long 1]) (rest := []) X w hl (m_X10_mixed G (scr S q14 q15 q16) ea ns nj nm nt nr nc h ((v105_1 * 31 + x13.toInt64) * 31 + x19.toInt64) 1) wY_X10_mixed wM_X10_392 wSt_X10_mixed wI_X10 (by decide +kernel) rfl rfl dX10_digest_178 ⟨by decide, by decide⟩ (Nat.le_of_ble_eq_true rfl) (⟨Nat.le_of_ble_eq_true rfl, Nat.le_of_ble_eq_true rfl⟩) (fun v26 S1 H locs hp w => ?_)
                      obtain ⟨rfl, rfl⟩ := hp
                      exact rL X w rfl dX10_digest_181 (by decide) (by decide) (ps_l)
                  · have hlt_k105 : k105 < 16 := by
                      skip
                      exact Nat.lt_of_not_le (fun z => hc_k105 ((nI_leI (a := 16) (b := k105) (by omega) (by omega)).mpr z))
                    refine lv_lload_n hx hb dX10_digest_111 rfl (lv_at hl 1 rfl) ?_
                    refine lv_aload_n hx hb dX10_digest_112 rfl (lv_at hl 2 rfl) ?_
                    refine g_10_2 (S := (scr S q4 q5 q6)) (x := (some (gG (scr S q4 q5 q6) 4 0))) X w h.v10 wF_X10_28 (h.f162) dX10_digest_113 ?_
                    refine lv_iload_n hx hb dX10_digest_116 rfl (lv_at hl 0 rfl) ?_
                    refine cV (S := (scr S q4 q5 q6)) (nA := 1) (As := [.int (nI k105)]) (rest := [.long v105_1]) X w hl h.v4 (m_X4_firstSentOn G (scr S q4 q5 q6) ea ns nj nm nt nr nc h (nI k105)) wY_X4_firstSentOn wM_X10_300 wIn_X4_firstSentOn wSe_X4_X4_firstSentOn wI_X4 (by decide) rfl (by decide +kernel) rfl rfl dX10_digest_117 ⟨by decide, by decide⟩ (Nat.le_of_ble_eq_true rfl) (⟨Nat.le_of_ble_eq_true rfl, Nat.le_of_ble_eq_true rfl⟩) (fun v28 S1 H locs hp w => ?_)
                    obtain ⟨⟨x27, rfl⟩, rfl⟩ := hp
                    refine lv_i2l hx hb dX10_digest_120 rfl ?_
                    refine cS (S := (scr S q4 q5 q6)) (nA := 2) (As := [.long v105_1, .long x27.toInt64]) (rest := []) X w hl (m_X10_mixed G (scr S q4 q5 q6) ea ns nj nm nt nr nc h v105_1 x27.toInt64) wY_X10_mixed wM_X10_392 wSt_X10_mixed wI_X10 (by decide +kernel) rfl rfl dX10_digest_121 ⟨by decide, by decide⟩ (Nat.le_of_ble_eq_true rfl) (⟨Nat.le_of_ble_eq_true rfl, Nat.le_of_ble_eq_true rfl⟩) (fun v29 S1 H locs hp w => ?_)
                    obtain ⟨rfl, rfl⟩ := hp
                    refine lv_lstore_n (lv' := [(1, .long (v105_1 * 31 + x27.toInt64)), (3, .int (nI k105)), (0, .ref (gG S 10 0))]) hx hb dX10_digest_124 rfl hl (by decide) rfl (fun ls hl => ?_)
                    refine lv_iinc (v := nI (k105 + 1)) (lv' := [(3, .int (nI (k105 + 1))), (1, .long (v105_1 * 31 + x27.toInt64)), (0, .ref (gG S 10 0))]) hx hb dX10_digest_125 hl (k := 1) rfl (nI_1 _) (by decide) rfl (fun ls hl => ?_)
                    refine lv_goto (tgt := 105) hx hb dX10_digest_128 (by decide) ?_
                    exact ih105 (k105 + 1) (v105_1 * 31 + x27.toInt64) _ _ _ (by omega) (hlt_k105) w (lv_sub hl [0, 1, 2] rfl)
              exact L105 _ 0 v55_1 _ _ _ (Nat.lt_succ_self _) (Nat.zero_le _) w (lv_sub hl [0, 1, 2] rfl)
            · have hlt_k55 : k55 < 6 := by
                skip
                exact Nat.lt_of_not_le (fun z => hc_k55 ((nI_leI (a := 6) (b := k55) (by omega) (by omega)).mpr z))
              refine lv_lload_n hx hb dX10_digest_61 rfl (lv_at hl 1 rfl) ?_
              refine lv_aload_n hx hb dX10_digest_62 rfl (lv_at hl 2 rfl) ?_
              refine g_10_2 (S := (scr S q4 q5 q6)) (x := (some (gG (scr S q4 q5 q6) 4 0))) X w h.v10 wF_X10_28 (h.f162) dX10_digest_63 ?_
              refine lv_iload_n hx hb dX10_digest_66 rfl (lv_at hl 0 rfl) ?_
              refine lv_aload_n hx hb dX10_digest_67 rfl (lv_at hl 2 rfl) ?_
              refine cV (S := (scr S q4 q5 q6)) (nA := 0) (As := []) (rest := [.int (nI k55), .ref (gG (scr S q4 q5 q6) 4 0), .long v55_1]) X w hl h.v10 (m_X10_day G (scr S q4 q5 q6) ea ns nj nm nt nr nc h ) wY_X10_day wM_X10_292 wIn_X10_day wSe_X10_X10_day wI_X10 (by decide) rfl (by decide +kernel) rfl rfl dX10_digest_68 ⟨by decide, by decide⟩ (Nat.le_of_ble_eq_true rfl) (⟨Nat.le_of_ble_eq_true rfl, Nat.le_of_ble_eq_true rfl⟩) (fun v30 S1 H locs hp w => ?_)
              obtain ⟨rfl, rfl⟩ := hp
              refine cV (S := (scr S q4 q5 q6)) (nA := 2) (As := [.int (nI k55), .int (mI (scr S q4 q5 q6) 164 0 / 24)]) (rest := [.long v55_1]) X w hl h.v4 (m_X4_goneFrom G (scr S q4 q5 q6) ea ns nj nm nt nr nc h (nI k55) (mI (scr S q4 q5 q6) 164 0 / 24)) wY_X4_goneFrom wM_X10_295 wIn_X4_goneFrom wSe_X4_X4_goneFrom wI_X4 (by decide) rfl (by decide +kernel) rfl rfl dX10_digest_71 ⟨by decide, by decide⟩ (Nat.le_of_ble_eq_true rfl) (⟨Nat.le_of_ble_eq_true rfl, Nat.le_of_ble_eq_true rfl⟩) (fun v32 S1 H locs hp w => ?_)
              obtain ⟨⟨x31, rfl⟩, rfl⟩ := hp
              refine lv_i2l hx hb dX10_digest_74 rfl ?_
              refine cS (S := (scr S q4 q5 q6)) (nA := 2) (As := [.long v55_1, .long x31.toInt64]) (rest := []) X w hl (m_X10_mixed G (scr S q4 q5 q6) ea ns nj nm nt nr nc h v55_1 x31.toInt64) wY_X10_mixed wM_X10_392 wSt_X10_mixed wI_X10 (by decide +kernel) rfl rfl dX10_digest_75 ⟨by decide, by decide⟩ (Nat.le_of_ble_eq_true rfl) (⟨Nat.le_of_ble_eq_true rfl, Nat.le_of_ble_eq_true rfl⟩) (fun v33 S1 H locs hp w => ?_)
              obtain ⟨rfl, rfl⟩ := hp
              refine lv_lstore_n (lv' := [(1, .long (v55_1 * 31 + x31.toInt64)), (3, .int (nI k55)), (0, .ref (gG S 10 0))]) hx hb dX10_digest_78 rfl hl (by decide) rfl (fun ls hl => ?_)
              refine lv_lload_n hx hb dX10_digest_79 rfl (lv_at hl 0 rfl) ?_
              refine lv_ldc2d hx hb hown (hts _ wK_X10_409) dX10_digest_80 ?_
              refine lv_aload_n hx hb dX10_digest_83 rfl (lv_at hl 2 rfl) ?_
              refine g_10_2 (S := (scr S q4 q5 q6)) (x := (some (gG (scr S q4 q5 q6) 4 0))) X w h.v10 wF_X10_28 (h.f162) dX10_digest_84 ?_
              refine lv_iload_n hx hb dX10_digest_87 rfl (lv_at hl 1 rfl) ?_
              refine cV (S := (scr S q4 q5 q6)) (nA := 1) (As := [.int (nI k55)]) (rest := [.double 4634204016564240384, .long (v55_1 * 31 + x31.toInt64)]) X w hl h.v4 (m_X4_meanQuality G (scr S q4 q5 q6) ea ns nj nm nt nr nc h (nI k55)) wY_X4_meanQuality wM_X10_304 wIn_X4_meanQuality wSe_X4_X4_meanQuality wI_X4 (by decide) rfl (by decide +kernel) rfl rfl dX10_digest_88 ⟨by decide, by decide⟩ (Nat.le_of_ble_eq_true rfl) (⟨Nat.le_of_ble_eq_true rfl, Nat.le_of_ble_eq_true rfl⟩) (fun v35 S1 H locs hp w => ?_)
              obtain ⟨⟨x34, rfl, hnx34⟩, rfl⟩ := hp
              refine lv_dmul hx hb dX10_digest_91 (n64_of (nan_mul hnx34)) ?_
              refine lv_d2l hx hb dX10_digest_92 ?_
              refine cS (S := (scr S q4 q5 q6)) (nA := 2) (As := [.long (v55_1 * 31 + x31.toInt64), .long (FP.d2l (FP.dmul 4634204016564240384 x34))]) (rest := []) X w hl (m_X10_mixed G (scr S q4 q5 q6) ea ns nj nm nt nr nc h (v55_1 * 31 + x31.toInt64) (FP.d2l (FP.dmul 4634204016564240384 x34))) wY_X10_mixed wM_X10_392 wSt_X10_mixed wI_X10 (by decide +kernel) rfl rfl dX10_digest_93 ⟨by decide, by decide⟩ (Nat.le_of_ble_eq_true rfl) (⟨Nat.le_of_ble_eq_true rfl, Nat.le_of_ble_eq_true rfl⟩) (fun v36 S1 H locs hp w => ?_)
              obtain ⟨rfl, rfl⟩ := hp
              refine lv_lstore_n (lv' := [(1, .long ((v55_1 * 31 + x31.toInt64) * 31 + (FP.d2l (FP.dmul 4634204016564240384 x34)))), (3, .int (nI k55)), (0, .ref (gG S 10 0))]) hx hb dX10_digest_96 rfl hl (by decide) rfl (fun ls hl => ?_)
              refine lv_iinc (v := nI (k55 + 1)) (lv' := [(3, .int (nI (k55 + 1))), (1, .long ((v55_1 * 31 + x31.toInt64) * 31 + (FP.d2l (FP.dmul 4634204016564240384 x34)))), (0, .ref (gG S 10 0))]) hx hb dX10_digest_97 hl (k := 1) rfl (nI_1 _) (by decide) rfl (fun ls hl => ?_)
              refine lv_goto (tgt := 55) hx hb dX10_digest_100 (by decide) ?_
              exact ih55 (k55 + 1) ((v55_1 * 31 + x31.toInt64) * 31 + (FP.d2l (FP.dmul 4634204016564240384 x34))) _ _ _ (by omega) (hlt_k55) w (lv_sub hl [0, 1, 2] rfl)
        exact L55 _ 0 x10 _ _ _ (Nat.lt_succ_self _) (Nat.zero_le _) w (lv_sub hl [0, 1, 2] rfl)
      · have hlt_k6 : k6 < 19 := by
          skip
          exact Nat.lt_of_not_le (fun z => hc_k6 ((nI_leI (a := 19) (b := k6) (by omega) (by omega)).mpr z))
        refine lv_lload_n hx hb dX10_digest_12 rfl (lv_at hl 1 rfl) ?_
        refine lv_aload_n hx hb dX10_digest_13 rfl (lv_at hl 2 rfl) ?_
        refine lv_iload_n hx hb dX10_digest_14 rfl (lv_at hl 0 rfl) ?_
        refine cV (S := (scr S a0 b0 c0)) (nA := 1) (As := [.int (nI k6)]) (rest := [.long v6_1]) X w hl h.v10 (m_X10_deskFact G (scr S a0 b0 c0) ea ns nj nm nt nr nc h (nI k6)) wY_X10_deskFact wM_X10_308 wIn_X10_deskFact wSe_X10_X10_deskFact wI_X10 (by decide) rfl (by decide +kernel) rfl rfl dX10_digest_15 ⟨by decide, by decide⟩ (Nat.le_of_ble_eq_true rfl) (⟨Nat.le_of_ble_eq_true rfl, Nat.le_of_ble_eq_true rfl⟩) (fun v38 S1 H locs hp w => ?_)
        obtain ⟨⟨x37, rfl⟩, rfl⟩ := hp
        refine lv_i2l hx hb dX10_digest_18 rfl ?_
        refine cS (S := (scr S a0 b0 c0)) (nA := 2) (As := [.long v6_1, .long x37.toInt64]) (rest := []) X w hl (m_X10_mixed G (scr S a0 b0 c0) ea ns nj nm nt nr nc h v6_1 x37.toInt64) wY_X10_mixed wM_X10_392 wSt_X10_mixed wI_X10 (by decide +kernel) rfl rfl dX10_digest_19 ⟨by decide, by decide⟩ (Nat.le_of_ble_eq_true rfl) (⟨Nat.le_of_ble_eq_true rfl, Nat.le_of_ble_eq_true rfl⟩) (fun v39 S1 H locs hp w => ?_)
        obtain ⟨rfl, rfl⟩ := hp
        refine lv_lstore_n (lv' := [(1, .long (v6_1 * 31 + x37.toInt64)), (3, .int (nI k6)), (0, .ref (gG S 10 0))]) hx hb dX10_digest_22 rfl hl (by decide) rfl (fun ls hl => ?_)
        refine lv_iinc (v := nI (k6 + 1)) (lv' := [(3, .int (nI (k6 + 1))), (1, .long (v6_1 * 31 + x37.toInt64)), (0, .ref (gG S 10 0))]) hx hb dX10_digest_23 hl (k := 1) rfl (nI_1 _) (by decide) rfl (fun ls hl => ?_)
        refine lv_goto (tgt := 6) hx hb dX10_digest_26 (by decide) ?_
        exact ih6 (k6 + 1) (v6_1 * 31 + x37.toInt64) _ _ _ (by omega) (hlt_k6) w (lv_sub hl [0, 1, 2] rfl)
  exact L6 _ 0 58269 _ _ _ (Nat.lt_succ_self _) (Nat.zero_le _) w (lv_sub hl [0, 1, 2] rfl)

theorem n_X10_digest {s0 : State} {l : Launch} {D : va_G} {cy : Nat → ClassId} (G : Gl s0 l D cy) (S : HS) (ea ns nj nm nt nr nc : Nat) (h : CI ea S ns nj nm nt nr nc)  : Ctr s0 l D cy yX10_digest cX10_digest 4 (some .long) rm_m_X10_digest S [.ref (gG S 10 0)] (PSl S) := by
  have z := m_X10_digest G S ea ns nj nm nt nr nc h  (mA S 32 2) (mA S 32 3) (mA S 32 4)
  rw [scr_id] at z
  exact z
