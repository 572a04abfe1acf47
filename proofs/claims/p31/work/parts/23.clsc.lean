theorem dX4_sendReports_0 : decode cX4_sendReports 0 = .ok (.iload_n 2, 1) := by decide +kernel
theorem dX4_sendReports_1 : decode cX4_sendReports 1 = .ok (.istore 4, 2) := by decide +kernel
theorem dX4_sendReports_3 : decode cX4_sendReports 3 = .ok (.iconst 0, 1) := by decide +kernel
theorem dX4_sendReports_4 : decode cX4_sendReports 4 = .ok (.istore 5, 2) := by decide +kernel
theorem dX4_sendReports_6 : decode cX4_sendReports 6 = .ok (.bipush 9, 2) := by decide +kernel
theorem dX4_sendReports_8 : decode cX4_sendReports 8 = .ok (.istore 6, 2) := by decide +kernel
theorem dX4_sendReports_10 : decode cX4_sendReports 10 = .ok (.iload 6, 2) := by decide +kernel
theorem dX4_sendReports_12 : decode cX4_sendReports 12 = .ok (.iconst 3, 1) := by decide +kernel
theorem dX4_sendReports_13 : decode cX4_sendReports 13 = .ok (.if_icmp .lt 136, 3) := by decide +kernel
theorem dX4_sendReports_16 : decode cX4_sendReports 16 = .ok (.iconst 0, 1) := by decide +kernel
theorem dX4_sendReports_17 : decode cX4_sendReports 17 = .ok (.istore 7, 2) := by decide +kernel
theorem dX4_sendReports_19 : decode cX4_sendReports 19 = .ok (.iload 7, 2) := by decide +kernel
theorem dX4_sendReports_21 : decode cX4_sendReports 21 = .ok (.aload_n 0, 1) := by decide +kernel
theorem dX4_sendReports_22 : decode cX4_sendReports 22 = .ok (.getfield 12, 3) := by decide +kernel
theorem dX4_sendReports_25 : decode cX4_sendReports 25 = .ok (.invokevirtual 28, 3) := by decide +kernel
theorem dX4_sendReports_28 : decode cX4_sendReports 28 = .ok (.if_icmp .ge 115, 3) := by decide +kernel
theorem dX4_sendReports_31 : decode cX4_sendReports 31 = .ok (.aload_n 0, 1) := by decide +kernel
theorem dX4_sendReports_32 : decode cX4_sendReports 32 = .ok (.getfield 12, 3) := by decide +kernel
theorem dX4_sendReports_35 : decode cX4_sendReports 35 = .ok (.iload 7, 2) := by decide +kernel
theorem dX4_sendReports_37 : decode cX4_sendReports 37 = .ok (.invokevirtual 36, 3) := by decide +kernel
theorem dX4_sendReports_40 : decode cX4_sendReports 40 = .ok (.checkcast 40, 3) := by decide +kernel
theorem dX4_sendReports_43 : decode cX4_sendReports 43 = .ok (.astore 8, 2) := by decide +kernel
theorem dX4_sendReports_45 : decode cX4_sendReports 45 = .ok (.aload 8, 2) := by decide +kernel
theorem dX4_sendReports_47 : decode cX4_sendReports 47 = .ok (.getfield 89, 3) := by decide +kernel
theorem dX4_sendReports_50 : decode cX4_sendReports 50 = .ok (.iload 6, 2) := by decide +kernel
theorem dX4_sendReports_52 : decode cX4_sendReports 52 = .ok (.if_icmp .ne 16, 3) := by decide +kernel
theorem dX4_sendReports_55 : decode cX4_sendReports 55 = .ok (.aload 8, 2) := by decide +kernel
theorem dX4_sendReports_57 : decode cX4_sendReports 57 = .ok (.iconst 0, 1) := by decide +kernel
theorem dX4_sendReports_58 : decode cX4_sendReports 58 = .ok (.invokevirtual 92, 3) := by decide +kernel
theorem dX4_sendReports_61 : decode cX4_sendReports 61 = .ok (.ifCond .eq 7, 3) := by decide +kernel
theorem dX4_sendReports_64 : decode cX4_sendReports 64 = .ok (.iconst 1, 1) := by decide +kernel
theorem dX4_sendReports_65 : decode cX4_sendReports 65 = .ok (.goto 4, 3) := by decide +kernel
theorem dX4_sendReports_68 : decode cX4_sendReports 68 = .ok (.iconst 0, 1) := by decide +kernel
theorem dX4_sendReports_69 : decode cX4_sendReports 69 = .ok (.istore 9, 2) := by decide +kernel
theorem dX4_sendReports_71 : decode cX4_sendReports 71 = .ok (.iload 9, 2) := by decide +kernel
theorem dX4_sendReports_73 : decode cX4_sendReports 73 = .ok (.ifCond .eq 20, 3) := by decide +kernel
theorem dX4_sendReports_76 : decode cX4_sendReports 76 = .ok (.aload 8, 2) := by decide +kernel
theorem dX4_sendReports_78 : decode cX4_sendReports 78 = .ok (.iload_n 1, 1) := by decide +kernel
theorem dX4_sendReports_79 : decode cX4_sendReports 79 = .ok (.invokestatic 75, 3) := by decide +kernel
theorem dX4_sendReports_82 : decode cX4_sendReports 82 = .ok (.ifCond .ne 11, 3) := by decide +kernel
theorem dX4_sendReports_85 : decode cX4_sendReports 85 = .ok (.aload 8, 2) := by decide +kernel
theorem dX4_sendReports_87 : decode cX4_sendReports 87 = .ok (.getfield 71, 3) := by decide +kernel
theorem dX4_sendReports_90 : decode cX4_sendReports 90 = .ok (.goto 4, 3) := by decide +kernel
theorem dX4_sendReports_93 : decode cX4_sendReports 93 = .ok (.aconst_null, 1) := by decide +kernel
theorem dX4_sendReports_94 : decode cX4_sendReports 94 = .ok (.astore 10, 2) := by decide +kernel
theorem dX4_sendReports_96 : decode cX4_sendReports 96 = .ok (.aload 10, 2) := by decide +kernel
theorem dX4_sendReports_98 : decode cX4_sendReports 98 = .ok (.ifnull 39, 3) := by decide +kernel
theorem dX4_sendReports_101 : decode cX4_sendReports 101 = .ok (.aload 10, 2) := by decide +kernel
theorem dX4_sendReports_103 : decode cX4_sendReports 103 = .ok (.getfield 96, 3) := by decide +kernel
theorem dX4_sendReports_106 : decode cX4_sendReports 106 = .ok (.iload 4, 2) := by decide +kernel
theorem dX4_sendReports_108 : decode cX4_sendReports 108 = .ok (.if_icmp .gt 29, 3) := by decide +kernel
theorem dX4_sendReports_111 : decode cX4_sendReports 111 = .ok (.iload 4, 2) := by decide +kernel
theorem dX4_sendReports_113 : decode cX4_sendReports 113 = .ok (.aload 10, 2) := by decide +kernel
theorem dX4_sendReports_115 : decode cX4_sendReports 115 = .ok (.getfield 96, 3) := by decide +kernel
theorem dX4_sendReports_118 : decode cX4_sendReports 118 = .ok (.isub, 1) := by decide +kernel
theorem dX4_sendReports_119 : decode cX4_sendReports 119 = .ok (.istore 4, 2) := by decide +kernel
theorem dX4_sendReports_121 : decode cX4_sendReports 121 = .ok (.iinc 5 1, 3) := by decide +kernel
theorem dX4_sendReports_124 : decode cX4_sendReports 124 = .ok (.iload_n 3, 1) := by decide +kernel
theorem dX4_sendReports_125 : decode cX4_sendReports 125 = .ok (.ifCond .eq 12, 3) := by decide +kernel
theorem dX4_sendReports_137 : decode cX4_sendReports 137 = .ok (.iinc 7 1, 3) := by decide +kernel
theorem dX4_sendReports_140 : decode cX4_sendReports 140 = .ok (.goto (-121), 3) := by decide +kernel
theorem dX4_sendReports_143 : decode cX4_sendReports 143 = .ok (.iinc 6 (-1), 3) := by decide +kernel
theorem dX4_sendReports_146 : decode cX4_sendReports 146 = .ok (.goto (-136), 3) := by decide +kernel
theorem dX4_sendReports_149 : decode cX4_sendReports 149 = .ok (.iload 5, 2) := by decide +kernel
theorem dX4_sendReports_151 : decode cX4_sendReports 151 = .ok (.ireturn, 1) := by decide +kernel
abbrev rm_m_X4_sendReports : Room := { frames := 3, cells := 0, slots := 0, locals := 64 }
set_option maxHeartbeats 4000000 in
set_option maxRecDepth 100000 in
theorem m_X4_sendReports {s0 : State} {l : Launch} {D : va_G} {cy : Nat → ClassId} (G : Gl s0 l D cy) (S : HS) (ea ns nj nm nt nr nc : Nat) (h : CI ea S ns nj nm nt nr nc) (a b : Int32) : Ctr s0 l D cy yX4_sendReports cX4_sendReports 11 (some .int) rm_m_X4_sendReports S [.ref (gG S 4 0), .int a, .int b, .int 0] (PXi S) := by
  refine pro "CavershamShift$Newsroom" G rfl rfl (Nat.le_of_ble_eq_true rfl) (fun p e s m below meth c ls X w hnm hl => ?_)
  have hx := X.1
  have hb := X.2.1
  have hown := X.2.2.2.1
  have hts := X.2.2.2.2.1
  have hl : lv_has ls 11 [(0, .ref (gG S 4 0)), (1, .int a), (2, .int b), (3, .int 0)] := hl
  refine lv_iload_n hx hb dX4_sendReports_0 rfl (lv_at hl 2 rfl) ?_
  refine lv_istore (lv' := [(4, .int b), (0, .ref (gG S 4 0)), (1, .int a), (2, .int b), (3, .int 0)]) hx hb dX4_sendReports_1 hl (by decide) rfl (fun ls hl => ?_)
  refine lv_iconst (v := 0) hx hb dX4_sendReports_3 (by decide) ?_
  refine lv_istore (lv' := [(5, .int 0), (4, .int b), (0, .ref (gG S 4 0)), (1, .int a), (2, .int b), (3, .int 0)]) hx hb dX4_sendReports_4 hl (by decide) rfl (fun ls hl => ?_)
  refine lv_bipush (v := 9) hx hb dX4_sendReports_6 (by decide) ?_
  refine lv_istore (lv' := [(6, .int 9), (5, .int 0), (4, .int b), (0, .ref (gG S 4 0)), (1, .int a), (2, .int b), (3, .int 0)]) hx hb dX4_sendReports_8 hl (by decide) rfl (fun ls hl => ?_)
  have L10 : ∀ (N : Nat) (kw : Nat) (v10_4 : Int32) (v10_5 : Int32) (H : Heap) (locs : List Loc) (ls : Array Slot), kw < N → (kw ≤ 9) → Wd s0 D cy S s.heap H locs → lv_has ls 11 [(0, .ref (gG S 4 0)), (1, .int a), (2, .int b), (3, .int 0), (4, .int v10_4), (5, .int v10_5), (6, .int (nI kw))] → W p l e rm_m_X4_sendReports s m ([.ref (gG S 4 0), .int a, .int b, .int 0] : List Value).toArray below meth c H locs 0 0 (MQ below (GQ s0 D cy (PXi S)) ([.ref (gG S 4 0), .int a, .int b, .int 0] : List Value).toArray s rm_m_X4_sendReports.cells rm_m_X4_sendReports.slots (A0 s0)) (F0 m 10 ls []) := by
    intro N
    induction N with
    | zero => intros; omega
    | succ N ih10 =>
      intro kw v10_4 v10_5 H locs ls hmu hkw w hl
      refine lv_iload hx hb dX4_sendReports_10 (lv_at hl 6 rfl) ?_
      refine lv_iconst (v := 3) hx hb dX4_sendReports_12 (by decide) ?_
      refine lv_icmp_lt (tgt := 149) hx hb dX4_sendReports_13 (by decide) (fun hcw => ?_) (fun hcw => ?_)
      · refine lv_iload hx hb dX4_sendReports_149 (lv_at hl 5 rfl) ?_
        exact rI X w rfl dX4_sendReports_151 (by decide) (by decide) (px_i)
      · have hw3 : 3 ≤ kw := Nat.le_of_not_lt (fun z => hcw ((nI_ltI (a := kw) (b := 3) (by omega) (by decide)).mpr z))
        refine lv_iconst (v := 0) hx hb dX4_sendReports_16 (by decide) ?_
        refine lv_istore (lv' := [(7, .int 0), (0, .ref (gG S 4 0)), (1, .int a), (2, .int b), (3, .int 0), (4, .int v10_4), (5, .int v10_5), (6, .int (nI kw))]) hx hb dX4_sendReports_17 hl (by decide) rfl (fun ls hl => ?_)
        have L19 : ∀ (N : Nat) (k19 : Nat) (v19_4 : Int32) (v19_5 : Int32) (H : Heap) (locs : List Loc) (ls : Array Slot), nt - k19 < N → (k19 ≤ nt) → Wd s0 D cy S s.heap H locs → lv_has ls 11 [(7, .int (nI k19)), (0, .ref (gG S 4 0)), (1, .int a), (2, .int b), (3, .int 0), (4, .int v19_4), (5, .int v19_5), (6, .int (nI kw))] → W p l e rm_m_X4_sendReports s m ([.ref (gG S 4 0), .int a, .int b, .int 0] : List Value).toArray below meth c H locs 0 0 (MQ below (GQ s0 D cy (PXi S)) ([.ref (gG S 4 0), .int a, .int b, .int 0] : List Value).toArray s rm_m_X4_sendReports.cells rm_m_X4_sendReports.slots (A0 s0)) (F0 m 19 ls []) := by
          intro N
          induction N with
          | zero => intros; omega
          | succ N ih19 =>
            intro k19 v19_4 v19_5 H locs ls hmu hk_k19 w hl
            refine lv_iload hx hb dX4_sendReports_19 (lv_at hl 0 rfl) ?_
            refine lv_aload_n hx hb dX4_sendReports_21 rfl (lv_at hl 1 rfl) ?_
            refine g_4_0 (S := S) (x := (some (gG S 17 3))) X w h.v4 wF_X4_12 (h.f64) dX4_sendReports_22 ?_
            refine cV (S := S) (nA := 0) (As := []) (rest := [.int (nI k19)]) X w hl h.l_ta.1 (m_size G S ea 3 nt h.l_ta) wY_Jx4a65c_size_8abf5 wM_X4_28 wIn_Jx4a65c_size_8abf5 wSe_Jx4a65c_Jx4a65c_size_8abf5 wI_Jx4a65c (by decide) rfl (by decide +kernel) rfl rfl dX4_sendReports_25 ⟨by decide, by decide⟩ (Nat.le_of_ble_eq_true rfl) (⟨Nat.le_of_ble_eq_true rfl, Nat.le_of_ble_eq_true rfl⟩) (fun v1 S1 H locs hp w => ?_)
            obtain ⟨rfl, rfl⟩ := hp
            refine lv_icmp_ge (tgt := 143) hx hb dX4_sendReports_28 (by decide) (fun hc_k19 => ?_) (fun hc_k19 => ?_)
            · have hge_k19 : nt ≤ k19 := by
                have hb1 := h.b_ta
                exact (nI_leI (a := nt) (b := k19) (by omega) (by omega)).mp hc_k19
              refine lv_iinc (v := nI (kw - 1)) (lv' := [(6, .int (nI (kw - 1))), (7, .int (nI k19)), (0, .ref (gG S 4 0)), (1, .int a), (2, .int b), (3, .int 0), (4, .int v19_4), (5, .int v19_5)]) hx hb dX4_sendReports_143 hl (k := 7) rfl (by rw [show kw = (kw - 1) + 1 by omega]; exact pk_m1 _) (by decide) rfl (fun ls hl => ?_)
              refine lv_goto (tgt := 10) hx hb dX4_sendReports_146 (by decide) ?_
              exact ih10 (kw - 1) v19_4 v19_5 _ _ _ (by omega) (by omega) w (lv_sub hl [2, 3, 4, 5, 6, 7, 0] rfl)
            · have hlt_k19 : k19 < nt := by
                have hb1 := h.b_ta
                exact Nat.lt_of_not_le (fun z => hc_k19 ((nI_leI (a := nt) (b := k19) (by omega) (by omega)).mpr z))
              refine lv_aload_n hx hb dX4_sendReports_31 rfl (lv_at hl 1 rfl) ?_
              refine g_4_0 (S := S) (x := (some (gG S 17 3))) X w h.v4 wF_X4_12 (h.f64) dX4_sendReports_32 ?_
              refine lv_iload hx hb dX4_sendReports_35 (lv_at hl 0 rfl) ?_
              refine cV (S := S) (nA := 1) (As := [.int (nI k19)]) (rest := []) X w hl h.l_ta.1 (m_get G S ea 3 k19 nt (some (gG S 9 k19)) h.l_ta hlt_k19 (h.e_ta k19 hlt_k19).1) wY_Jx4a65c_get_915e3 wM_X4_36 wIn_Jx4a65c_get_915e3 wSe_Jx4a65c_Jx4a65c_get_915e3 wI_Jx4a65c (by decide) rfl (by decide +kernel) rfl rfl dX4_sendReports_37 ⟨by decide, by decide⟩ (Nat.le_of_ble_eq_true rfl) (⟨Nat.le_of_ble_eq_true rfl, Nat.le_of_ble_eq_true rfl⟩) (fun v2 S1 H locs hp w => ?_)
              obtain ⟨rfl, rfl⟩ := hp
              refine ckC (S := S) (t := 9) X w (h.e_ta k19 hlt_k19).2 (by decide) rfl wC_X4_40 dX4_sendReports_40 ?_
              refine lv_astore (lv' := [(8, .ref (gG S 9 k19)), (7, .int (nI k19)), (0, .ref (gG S 4 0)), (1, .int a), (2, .int b), (3, .int 0), (4, .int v19_4), (5, .int v19_5), (6, .int (nI kw))]) hx hb dX4_sendReports_43 hl (by decide) rfl (fun ls hl => ?_)
              refine lv_aload hx hb dX4_sendReports_45 (lv_at hl 0 rfl) ?_
              refine g_9_5 (S := S) (x := (mI S 149 k19)) X w (h.e_ta k19 hlt_k19).2 wF_X4_89 (rfl) dX4_sendReports_47 ?_
              refine lv_iload hx hb dX4_sendReports_50 (lv_at hl 8 rfl) ?_
              have J69 : ∀ (z69_0 : Bool) (H : Heap) (locs : List Loc) (ls : Array Slot), Wd s0 D cy S s.heap H locs → lv_has ls 11 [(8, .ref (gG S 9 k19)), (7, .int (nI k19)), (0, .ref (gG S 4 0)), (1, .int a), (2, .int b), (3, .int 0), (4, .int v19_4), (5, .int v19_5), (6, .int (nI kw))] → W p l e rm_m_X4_sendReports s m ([.ref (gG S 4 0), .int a, .int b, .int 0] : List Value).toArray below meth c H locs 0 0 (MQ below (GQ s0 D cy (PXi S)) ([.ref (gG S 4 0), .int a, .int b, .int 0] : List Value).toArray s rm_m_X4_sendReports.cells rm_m_X4_sendReports.slots (A0 s0)) (F0 m 69 ls [.int (b2i z69_0)]) := by
                intro z69_0 H locs ls  w hl
                refine lv_istore (lv' := [(9, .int (b2i z69_0)), (8, .ref (gG S 9 k19)), (7, .int (nI k19)), (0, .ref (gG S 4 0)), (1, .int a), (2, .int b), (3, .int 0), (4, .int v19_4), (5, .int v19_5), (6, .int (nI kw))]) hx hb dX4_sendReports_69 hl (by decide) rfl (fun ls hl => ?_)
                refine lv_iload hx hb dX4_sendReports_71 (lv_at hl 0 rfl) ?_
                refine lv_if_eq (tgt := 93) hx hb dX4_sendReports_73 (by decide) (fun hc3 => ?_) (fun hc3 => ?_)
                · refine lv_null hx hb dX4_sendReports_93 ?_
                  refine lv_astoreN (lv' := [(10, .null), (9, .int (b2i z69_0)), (8, .ref (gG S 9 k19)), (7, .int (nI k19)), (0, .ref (gG S 4 0)), (1, .int a), (2, .int b), (3, .int 0), (4, .int v19_4), (5, .int v19_5), (6, .int (nI kw))]) hx hb dX4_sendReports_94 hl (by decide) rfl (fun ls hl => ?_)
                  refine lv_aloadN hx hb dX4_sendReports_96 (lv_at hl 0 rfl) ?_
                  refine lv_ifnullN (tgt := 137) hx hb dX4_sendReports_98 (by decide) ?_
                  refine lv_iinc (v := nI (k19 + 1)) (lv' := [(7, .int (nI (k19 + 1))), (10, .null), (9, .int (b2i z69_0)), (8, .ref (gG S 9 k19)), (0, .ref (gG S 4 0)), (1, .int a), (2, .int b), (3, .int 0), (4, .int v19_4), (5, .int v19_5), (6, .int (nI kw))]) hx hb dX4_sendReports_137 hl (k := 3) rfl (nI_1 _) (by decide) rfl (fun ls hl => ?_)
                  refine lv_goto (tgt := 19) hx hb dX4_sendReports_140 (by decide) ?_
                  exact ih19 (k19 + 1) v19_4 v19_5 _ _ _ (by omega) (hlt_k19) w (lv_sub hl [0, 4, 5, 6, 7, 8, 9, 10] rfl)
                · refine lv_aload hx hb dX4_sendReports_76 (lv_at hl 1 rfl) ?_
                  refine lv_iload_n hx hb dX4_sendReports_78 rfl (lv_at hl 4 rfl) ?_
                  refine cS (S := S) (nA := 2) (As := [.ref (gG S 9 k19), .int a]) (rest := []) X w hl (m_X4_isTooOld G S ea ns nj nm nt nr nc h k19 hlt_k19 a) wY_X4_isTooOld wM_X4_75 wSt_X4_isTooOld wI_X4 (by decide +kernel) rfl rfl dX4_sendReports_79 ⟨by decide, by decide⟩ (Nat.le_of_ble_eq_true rfl) (⟨Nat.le_of_ble_eq_true rfl, Nat.le_of_ble_eq_true rfl⟩) (fun v5 S1 H locs hp w => ?_)
                  obtain ⟨⟨x4, rfl⟩, rfl⟩ := hp
                  refine lv_if_ne (tgt := 93) hx hb dX4_sendReports_82 (by decide) (fun hc6 => ?_) (fun hc6 => ?_)
                  · refine lv_null hx hb dX4_sendReports_93 ?_
                    refine lv_astoreN (lv' := [(10, .null), (9, .int (b2i z69_0)), (8, .ref (gG S 9 k19)), (7, .int (nI k19)), (0, .ref (gG S 4 0)), (1, .int a), (2, .int b), (3, .int 0), (4, .int v19_4), (5, .int v19_5), (6, .int (nI kw))]) hx hb dX4_sendReports_94 hl (by decide) rfl (fun ls hl => ?_)
                    refine lv_aloadN hx hb dX4_sendReports_96 (lv_at hl 0 rfl) ?_
                    refine lv_ifnullN (tgt := 137) hx hb dX4_sendReports_98 (by decide) ?_
                    refine lv_iinc (v := nI (k19 + 1)) (lv' := [(7, .int (nI (k19 + 1))), (10, .null), (9, .int (b2i z69_0)), (8, .ref (gG S 9 k19)), (0, .ref (gG S 4 0)), (1, .int a), (2, .int b), (3, .int 0), (4, .int v19_4), (5, .int v19_5), (6, .int (nI kw))]) hx hb dX4_sendReports_137 hl (k := 3) rfl (nI_1 _) (by decide) rfl (fun ls hl => ?_)
                    refine lv_goto (tgt := 19) hx hb dX4_sendReports_140 (by decide) ?_
                    exact ih19 (k19 + 1) v19_4 v19_5 _ _ _ (by omega) (hlt_k19) w (lv_sub hl [0, 4, 5, 6, 7, 8, 9, 10] rfl)
                  · refine lv_aload hx hb dX4_sendReports_85 (lv_at hl 1 rfl) ?_
                    have J137 : ∀ (y137_4 : Int32) (y137_5 : Int32) (H : Heap) (locs : List Loc) (ls : Array Slot), Wd s0 D cy S s.heap H locs → lv_has ls 11 [(9, .int (b2i z69_0)), (8, .ref (gG S 9 k19)), (7, .int (nI k19)), (0, .ref (gG S 4 0)), (1, .int a), (2, .int b), (3, .int 0), (4, .int y137_4), (5, .int y137_5), (6, .int (nI kw))] → W p l e rm_m_X4_sendReports s m ([.ref (gG S 4 0), .int a, .int b, .int 0] : List Value).toArray below meth c H locs 0 0 (MQ below (GQ s0 D cy (PXi S)) ([.ref (gG S 4 0), .int a, .int b, .int 0] : List Value).toArray s rm_m_X4_sendReports.cells rm_m_X4_sendReports.slots (A0 s0)) (F0 m 137 ls []) := by
                      intro y137_4 y137_5 H locs ls  w hl
                      refine lv_iinc (v := nI (k19 + 1)) (lv' := [(7, .int (nI (k19 + 1))), (9, .int (b2i z69_0)), (8, .ref (gG S 9 k19)), (0, .ref (gG S 4 0)), (1, .int a), (2, .int b), (3, .int 0), (4, .int y137_4), (5, .int y137_5), (6, .int (nI kw))]) hx hb dX4_sendReports_137 hl (k := 2) rfl (nI_1 _) (by decide) rfl (fun ls hl => ?_)
                      refine lv_goto (tgt := 19) hx hb dX4_sendReports_140 (by decide) ?_
                      exact ih19 (k19 + 1) y137_4 y137_5 _ _ _ (by omega) (hlt_k19) w (lv_sub hl [0, 3, 4, 5, 6, 7, 8, 9] rfl)
                    rcases h.t_rp k19 hlt_k19 with her7 | ⟨her7, hvr7⟩
                    · refine g_9_8 (S := S) (x := none) X w (h.e_ta k19 hlt_k19).2 wF_X4_71 (her7) dX4_sendReports_87 ?_
                      refine lv_goto (tgt := 94) hx hb dX4_sendReports_90 (by decide) ?_
                      refine lv_astoreN (lv' := [(10, .null), (9, .int (b2i z69_0)), (8, .ref (gG S 9 k19)), (7, .int (nI k19)), (0, .ref (gG S 4 0)), (1, .int a), (2, .int b), (3, .int 0), (4, .int v19_4), (5, .int v19_5), (6, .int (nI kw))]) hx hb dX4_sendReports_94 hl (by decide) rfl (fun ls hl => ?_)
                      refine lv_aloadN hx hb dX4_sendReports_96 (lv_at hl 0 rfl) ?_
                      refine lv_ifnullN (tgt := 137) hx hb dX4_sendReports_98 (by decide) ?_
                      exact J137 v19_4 v19_5 _ _ _  w (lv_sub hl [1, 2, 3, 4, 5, 6, 7, 8, 9, 10] rfl)
                    · refine g_9_8 (S := S) (x := (some (gG S 6 k19))) X w (h.e_ta k19 hlt_k19).2 wF_X4_71 (her7) dX4_sendReports_87 ?_
                      refine lv_goto (tgt := 94) hx hb dX4_sendReports_90 (by decide) ?_
                      refine lv_astore (lv' := [(10, .ref (gG S 6 k19)), (9, .int (b2i z69_0)), (8, .ref (gG S 9 k19)), (7, .int (nI k19)), (0, .ref (gG S 4 0)), (1, .int a), (2, .int b), (3, .int 0), (4, .int v19_4), (5, .int v19_5), (6, .int (nI kw))]) hx hb dX4_sendReports_94 hl (by decide) rfl (fun ls hl => ?_)
                      refine lv_aload hx hb dX4_sendReports_96 (lv_at hl 0 rfl) ?_
                      refine lv_ifnull hx hb dX4_sendReports_98 ?_
                      refine lv_aload hx hb dX4_sendReports_101 (lv_at hl 0 rfl) ?_
                      refine g_6_1 (S := S) (x := (mI S 97 k19)) X w hvr7 wF_X4_96 (rfl) dX4_sendReports_103 ?_
                      refine lv_iload hx hb dX4_sendReports_106 (lv_at hl 8 rfl) ?_
                      refine lv_icmp_gt (tgt := 137) hx hb dX4_sendReports_108 (by decide) (fun hc8 => ?_) (fun hc8 => ?_)
                      · exact J137 v19_4 v19_5 _ _ _  w (lv_sub hl [1, 2, 3, 4, 5, 6, 7, 8, 9, 10] rfl)
                      · refine lv_iload hx hb dX4_sendReports_111 (lv_at hl 8 rfl) ?_
                        refine lv_aload hx hb dX4_sendReports_113 (lv_at hl 0 rfl) ?_
                        refine g_6_1 (S := S) (x := (mI S 97 k19)) X w hvr7 wF_X4_96 (rfl) dX4_sendReports_115 ?_
                        refine lv_isub hx hb dX4_sendReports_118 ?_
                        refine lv_istore (lv' := [(4, .int (v19_4 - (mI S 97 k19))), (10, .ref (gG S 6 k19)), (9, .int (b2i z69_0)), (8, .ref (gG S 9 k19)), (7, .int (nI k19)), (0, .ref (gG S 4 0)), (1, .int a), (2, .int b), (3, .int 0), (5, .int v19_5), (6, .int (nI kw))]) hx hb dX4_sendReports_119 hl (by decide) rfl (fun ls hl => ?_)
                        refine lv_iinc (v := (v19_5 + 1)) (lv' := [(5, .int (v19_5 + 1)), (4, .int (v19_4 - (mI S 97 k19))), (10, .ref (gG S 6 k19)), (9, .int (b2i z69_0)), (8, .ref (gG S 9 k19)), (7, .int (nI k19)), (0, .ref (gG S 4 0)), (1, .int a), (2, .int b), (3, .int 0), (6, .int (nI kw))]) hx hb dX4_sendReports_121 hl (k := 9) rfl (rfl) (by decide) rfl (fun ls hl => ?_)
                        refine lv_iload_n hx hb dX4_sendReports_124 rfl (lv_at hl 9 rfl) ?_
                        refine lv_if_eq (tgt := 137) hx hb dX4_sendReports_125 (by decide) (fun hc9 => ?_) (fun hc9 => ?_)
                        · exact J137 (v19_4 - (mI S 97 k19)) (v19_5 + 1) _ _ _  w (lv_sub hl [3, 4, 5, 6, 7, 8, 9, 1, 0, 10] rfl)
                        · exact absurd rfl hc9
              refine lv_icmp_ne (tgt := 68) hx hb dX4_sendReports_52 (by decide) (fun hc10 => ?_) (fun hc10 => ?_)
              · refine lv_iconst (v := 0) hx hb dX4_sendReports_68 (by decide) ?_
                exact J69 false _ _ _  w (lv_sub hl [0, 1, 2, 3, 4, 5, 6, 7, 8] rfl)
              · refine lv_aload hx hb dX4_sendReports_55 (lv_at hl 0 rfl) ?_
                refine lv_iconst (v := 0) hx hb dX4_sendReports_57 (by decide) ?_
                refine cV (S := S) (nA := 1) (As := [.int 0]) (rest := []) X w hl (h.e_ta k19 hlt_k19).2 (m_X9_hasReportThatStands G S ea ns nj nm nt nr nc h k19 hlt_k19 0) wY_X9_hasReportThatStands wM_X4_92 wIn_X9_hasReportThatStands wSe_X9_X9_hasReportThatStands wI_X9 (by decide) rfl (by decide +kernel) rfl rfl dX4_sendReports_58 ⟨by decide, by decide⟩ (Nat.le_of_ble_eq_true rfl) (⟨Nat.le_of_ble_eq_true rfl, Nat.le_of_ble_eq_true rfl⟩) (fun v11 S1 H locs hp w => ?_)
                obtain ⟨rfl, rfl⟩ := hp
                refine lv_if_eq (tgt := 68) hx hb dX4_sendReports_61 (by decide) (fun hc12 => ?_) (fun hc12 => ?_)
                · refine lv_iconst (v := 0) hx hb dX4_sendReports_68 (by decide) ?_
                  exact J69 false _ _ _  w (lv_sub hl [0, 1, 2, 3, 4, 5, 6, 7, 8] rfl)
                · refine lv_iconst (v := 1) hx hb dX4_sendReports_64 (by decide) ?_
                  refine lv_goto (tgt := 69) hx hb dX4_sendReports_65 (by decide) ?_
                  exact J69 true _ _ _  w (lv_sub hl [0, 1, 2, 3, 4, 5, 6, 7, 8] rfl)
        exact L19 _ 0 v10_4 v10_5 _ _ _ (Nat.lt_succ_self _) (Nat.zero_le _) w (lv_sub hl [0, 1, 2, 3, 4, 5, 6, 7] rfl)
  exact L10 _ 9 b 0 _ _ _ (Nat.lt_succ_self _) (Nat.le_refl _) w (lv_sub hl [3, 4, 5, 6, 2, 1, 0] rfl)

theorem dX4_countToSend_0 : decode cX4_countToSend 0 = .ok (.aload_n 0, 1) := by decide +kernel
theorem dX4_countToSend_1 : decode cX4_countToSend 1 = .ok (.iload_n 1, 1) := by decide +kernel
theorem dX4_countToSend_2 : decode cX4_countToSend 2 = .ok (.aload_n 0, 1) := by decide +kernel
theorem dX4_countToSend_3 : decode cX4_countToSend 3 = .ok (.getfield 24, 3) := by decide +kernel
theorem dX4_countToSend_6 : decode cX4_countToSend 6 = .ok (.bipush 10, 2) := by decide +kernel
theorem dX4_countToSend_8 : decode cX4_countToSend 8 = .ok (.aload_n 0, 1) := by decide +kernel
theorem dX4_countToSend_9 : decode cX4_countToSend 9 = .ok (.invokevirtual 86, 3) := by decide +kernel
theorem dX4_countToSend_12 : decode cX4_countToSend 12 = .ok (.imul, 1) := by decide +kernel
theorem dX4_countToSend_13 : decode cX4_countToSend 13 = .ok (.isub, 1) := by decide +kernel
theorem dX4_countToSend_14 : decode cX4_countToSend 14 = .ok (.iconst 0, 1) := by decide +kernel
theorem dX4_countToSend_15 : decode cX4_countToSend 15 = .ok (.invokevirtual 82, 3) := by decide +kernel
theorem dX4_countToSend_18 : decode cX4_countToSend 18 = .ok (.ireturn, 1) := by decide +kernel
abbrev rm_m_X4_countToSend : Room := { frames := 4, cells := 0, slots := 0, locals := 94 }
set_option maxHeartbeats 4000000 in
set_option maxRecDepth 100000 in
theorem m_X4_countToSend {s0 : State} {l : Launch} {D : va_G} {cy : Nat → ClassId} (G : Gl s0 l D cy) (S : HS) (ea ns nj nm nt nr nc : Nat) (h : CI ea S ns nj nm nt nr nc) (a : Int32) : Ctr s0 l D cy yX4_countToSend cX4_countToSend 2 (some .int) rm_m_X4_countToSend S [.ref (gG S 4 0), .int a] (PXi S) := by
  refine pro "CavershamShift$Newsroom" G rfl rfl (Nat.le_of_ble_eq_true rfl) (fun p e s m below meth c ls X w hnm hl => ?_)
  have hx := X.1
  have hb := X.2.1
  have hown := X.2.2.2.1
  have hts := X.2.2.2.2.1
  have hl : lv_has ls 2 [(0, .ref (gG S 4 0)), (1, .int a)] := hl
  refine lv_aload_n hx hb dX4_countToSend_0 rfl (lv_at hl 0 rfl) ?_
  refine lv_iload_n hx hb dX4_countToSend_1 rfl (lv_at hl 1 rfl) ?_
  refine lv_aload_n hx hb dX4_countToSend_2 rfl (lv_at hl 0 rfl) ?_
  refine g_4_5 (S := S) (x := (mI S 69 0)) X w h.v4 wF_X4_24 (rfl) dX4_countToSend_3 ?_
  refine lv_bipush (v := 10) hx hb dX4_countToSend_6 (by decide) ?_
  refine lv_aload_n hx hb dX4_countToSend_8 rfl (lv_at hl 0 rfl) ?_
  refine cV (S := S) (nA := 0) (As := []) (rest := [.int 10, .int (mI S 69 0), .int a, .ref (gG S 4 0)]) X w hl h.v4 (m_X4_correctionsThatFit G S ea ns nj nm nt nr nc h ) wY_X4_correctionsThatFit wM_X4_86 wIn_X4_correctionsThatFit wSe_X4_X4_correctionsThatFit wI_X4 (by decide) rfl (by decide +kernel) rfl rfl dX4_countToSend_9 ⟨by decide, by decide⟩ (Nat.le_of_ble_eq_true rfl) (⟨Nat.le_of_ble_eq_true rfl, Nat.le_of_ble_eq_true rfl⟩) (fun v1 S1 H locs hp w => ?_)
  obtain ⟨rfl, rfl⟩ := hp
  refine lv_imul hx hb dX4_countToSend_12 ?_
  refine lv_isub hx hb dX4_countToSend_13 ?_
  refine lv_iconst (v := 0) hx hb dX4_countToSend_14 (by decide) ?_
  refine cV (S := S) (nA := 3) (As := [.int a, .int ((mI S 69 0) - (10 * (sMin (mI S 69 0 / 10) (nI nc - mI S 67 0)))), .int 0]) (rest := []) X w hl h.v4 (m_X4_sendReports G S ea ns nj nm nt nr nc h a ((mI S 69 0) - (10 * (sMin (mI S 69 0 / 10) (nI nc - mI S 67 0))))) wY_X4_sendReports wM_X4_82 wIn_X4_sendReports wSe_X4_X4_sendReports wI_X4 (by decide) rfl (by decide +kernel) rfl rfl dX4_countToSend_15 ⟨by decide, by decide⟩ (Nat.le_of_ble_eq_true rfl) (⟨Nat.le_of_ble_eq_true rfl, Nat.le_of_ble_eq_true rfl⟩) (fun v3 S1 H locs hp w => ?_)
  obtain ⟨⟨x2, rfl⟩, rfl⟩ := hp
  exact rI X w rfl dX4_countToSend_18 (by decide) (by decide) (px_i)

theorem dX4_meanQuality_0 : decode cX4_meanQuality 0 = .ok (.iconst 0, 1) := by decide +kernel
theorem dX4_meanQuality_1 : decode cX4_meanQuality 1 = .ok (.istore_n 2, 1) := by decide +kernel
theorem dX4_meanQuality_2 : decode cX4_meanQuality 2 = .ok (.iconst 0, 1) := by decide +kernel
theorem dX4_meanQuality_3 : decode cX4_meanQuality 3 = .ok (.istore_n 3, 1) := by decide +kernel
theorem dX4_meanQuality_4 : decode cX4_meanQuality 4 = .ok (.iconst 0, 1) := by decide +kernel
theorem dX4_meanQuality_5 : decode cX4_meanQuality 5 = .ok (.istore 4, 2) := by decide +kernel
theorem dX4_meanQuality_7 : decode cX4_meanQuality 7 = .ok (.iload 4, 2) := by decide +kernel
theorem dX4_meanQuality_9 : decode cX4_meanQuality 9 = .ok (.aload_n 0, 1) := by decide +kernel
theorem dX4_meanQuality_10 : decode cX4_meanQuality 10 = .ok (.getfield 12, 3) := by decide +kernel
theorem dX4_meanQuality_13 : decode cX4_meanQuality 13 = .ok (.invokevirtual 28, 3) := by decide +kernel
theorem dX4_meanQuality_16 : decode cX4_meanQuality 16 = .ok (.if_icmp .ge 58, 3) := by decide +kernel
theorem dX4_meanQuality_19 : decode cX4_meanQuality 19 = .ok (.aload_n 0, 1) := by decide +kernel
theorem dX4_meanQuality_20 : decode cX4_meanQuality 20 = .ok (.getfield 12, 3) := by decide +kernel
theorem dX4_meanQuality_23 : decode cX4_meanQuality 23 = .ok (.iload 4, 2) := by decide +kernel
theorem dX4_meanQuality_25 : decode cX4_meanQuality 25 = .ok (.invokevirtual 36, 3) := by decide +kernel
theorem dX4_meanQuality_28 : decode cX4_meanQuality 28 = .ok (.checkcast 40, 3) := by decide +kernel
theorem dX4_meanQuality_31 : decode cX4_meanQuality 31 = .ok (.astore 5, 2) := by decide +kernel
theorem dX4_meanQuality_33 : decode cX4_meanQuality 33 = .ok (.aload 5, 2) := by decide +kernel
theorem dX4_meanQuality_35 : decode cX4_meanQuality 35 = .ok (.getfield 71, 3) := by decide +kernel
theorem dX4_meanQuality_38 : decode cX4_meanQuality 38 = .ok (.astore 6, 2) := by decide +kernel
theorem dX4_meanQuality_40 : decode cX4_meanQuality 40 = .ok (.aload 6, 2) := by decide +kernel
theorem dX4_meanQuality_42 : decode cX4_meanQuality 42 = .ok (.ifnull 26, 3) := by decide +kernel
theorem dX4_meanQuality_45 : decode cX4_meanQuality 45 = .ok (.aload 5, 2) := by decide +kernel
theorem dX4_meanQuality_47 : decode cX4_meanQuality 47 = .ok (.getfield 44, 3) := by decide +kernel
theorem dX4_meanQuality_50 : decode cX4_meanQuality 50 = .ok (.getfield 62, 3) := by decide +kernel
theorem dX4_meanQuality_53 : decode cX4_meanQuality 53 = .ok (.iload_n 1, 1) := by decide +kernel
theorem dX4_meanQuality_54 : decode cX4_meanQuality 54 = .ok (.if_icmp .ne 14, 3) := by decide +kernel
theorem dX4_meanQuality_57 : decode cX4_meanQuality 57 = .ok (.iload_n 2, 1) := by decide +kernel
theorem dX4_meanQuality_58 : decode cX4_meanQuality 58 = .ok (.aload 6, 2) := by decide +kernel
theorem dX4_meanQuality_60 : decode cX4_meanQuality 60 = .ok (.getfield 172, 3) := by decide +kernel
theorem dX4_meanQuality_63 : decode cX4_meanQuality 63 = .ok (.iadd, 1) := by decide +kernel
theorem dX4_meanQuality_64 : decode cX4_meanQuality 64 = .ok (.istore_n 2, 1) := by decide +kernel
theorem dX4_meanQuality_65 : decode cX4_meanQuality 65 = .ok (.iinc 3 1, 3) := by decide +kernel
theorem dX4_meanQuality_68 : decode cX4_meanQuality 68 = .ok (.iinc 4 1, 3) := by decide +kernel
theorem dX4_meanQuality_71 : decode cX4_meanQuality 71 = .ok (.goto (-64), 3) := by decide +kernel
theorem dX4_meanQuality_74 : decode cX4_meanQuality 74 = .ok (.iload_n 3, 1) := by decide +kernel
theorem dX4_meanQuality_75 : decode cX4_meanQuality 75 = .ok (.ifCond .ne 7, 3) := by decide +kernel
theorem dX4_meanQuality_78 : decode cX4_meanQuality 78 = .ok (.dconst 0, 1) := by decide +kernel
theorem dX4_meanQuality_79 : decode cX4_meanQuality 79 = .ok (.goto 8, 3) := by decide +kernel
theorem dX4_meanQuality_82 : decode cX4_meanQuality 82 = .ok (.iload_n 2, 1) := by decide +kernel
theorem dX4_meanQuality_83 : decode cX4_meanQuality 83 = .ok (.i2d, 1) := by decide +kernel
theorem dX4_meanQuality_84 : decode cX4_meanQuality 84 = .ok (.iload_n 3, 1) := by decide +kernel
theorem dX4_meanQuality_85 : decode cX4_meanQuality 85 = .ok (.i2d, 1) := by decide +kernel
theorem dX4_meanQuality_86 : decode cX4_meanQuality 86 = .ok (.ddiv, 1) := by decide +kernel
theorem dX4_meanQuality_87 : decode cX4_meanQuality 87 = .ok (.dreturn, 1) := by decide +kernel
abbrev rm_m_X4_meanQuality : Room := { frames := 3, cells := 0, slots := 0, locals := 64 }
set_option maxHeartbeats 4000000 in
set_option maxRecDepth 100000 in
theorem m_X4_meanQuality {s0 : State} {l : Launch} {D : va_G} {cy : Nat → ClassId} (G : Gl s0 l D cy) (S : HS) (ea ns nj nm nt nr nc : Nat) (h : CI ea S ns nj nm nt nr nc) (a : Int32) : Ctr s0 l D cy yX4_meanQuality cX4_meanQuality 7 (some .double) rm_m_X4_meanQuality S [.ref (gG S 4 0), .int a] (PXn S) := by
  refine pro "CavershamShift$Newsroom" G rfl rfl (Nat.le_of_ble_eq_true rfl) (fun p e s m below meth c ls X w hnm hl => ?_)
  have hx := X.1
  have hb := X.2.1
  have hown := X.2.2.2.1
  have hts := X.2.2.2.2.1
  have hl : lv_has ls 7 [(0, .ref (gG S 4 0)), (1, .int a)] := hl
  refine lv_iconst (v := 0) hx hb dX4_meanQuality_0 (by decide) ?_
  refine lv_istore_n (lv' := [(2, .int 0), (0, .ref (gG S 4 0)), (1, .int a)]) hx hb dX4_meanQuality_1 rfl hl (by decide) rfl (fun ls hl => ?_)
  refine lv_iconst (v := 0) hx hb dX4_meanQuality_2 (by decide) ?_
  refine lv_istore_n (lv' := [(3, .int 0), (2, .int 0), (0, .ref (gG S 4 0)), (1, .int a)]) hx hb dX4_meanQuality_3 rfl hl (by decide) rfl (fun ls hl => ?_)
  refine lv_iconst (v := 0) hx hb dX4_meanQuality_4 (by decide) ?_
  refine lv_istore (lv' := [(4, .int 0), (3, .int 0), (2, .int 0), (0, .ref (gG S 4 0)), (1, .int a)]) hx hb dX4_meanQuality_5 hl (by decide) rfl (fun ls hl => ?_)
  have L7 : ∀ (N : Nat) (k7 : Nat) (v7_3 : Int32) (v7_2 : Int32) (H : Heap) (locs : List Loc) (ls : Array Slot), nt - k7 < N → (k7 ≤ nt) → Wd s0 D cy S s.heap H locs → lv_has ls 7 [(4, .int (nI k7)), (3, .int v7_3), (2, .int v7_2), (0, .ref (gG S 4 0)), (1, .int a)] → W p l e rm_m_X4_meanQuality s m ([.ref (gG S 4 0), .int a] : List Value).toArray below meth c H locs 0 0 (MQ below (GQ s0 D cy (PXn S)) ([.ref (gG S 4 0), .int a] : List Value).toArray s rm_m_X4_meanQuality.cells rm_m_X4_meanQuality.slots (A0 s0)) (F0 m 7 ls []) := by
    intro N
    induction N with
    | zero => intros; omega
    | succ N ih7 =>
      intro k7 v7_3 v7_2 H locs ls hmu hk_k7 w hl
      refine lv_iload hx hb dX4_meanQuality_7 (lv_at hl 0 rfl) ?_
      refine lv_aload_n hx hb dX4_meanQuality_9 rfl (lv_at hl 3 rfl) ?_
      refine g_4_0 (S := S) (x := (some (gG S 17 3))) X w h.v4 wF_X4_12 (h.f64) dX4_meanQuality_10 ?_
      refine cV (S := S) (nA := 0) (As := []) (rest := [.int (nI k7)]) X w hl h.l_ta.1 (m_size G S ea 3 nt h.l_ta) wY_Jx4a65c_size_8abf5 wM_X4_28 wIn_Jx4a65c_size_8abf5 wSe_Jx4a65c_Jx4a65c_size_8abf5 wI_Jx4a65c (by decide) rfl (by decide +kernel) rfl rfl dX4_meanQuality_13 ⟨by decide, by decide⟩ (Nat.le_of_ble_eq_true rfl) (⟨Nat.le_of_ble_eq_true rfl, Nat.le_of_ble_eq_true rfl⟩) (fun v1 S1 H locs hp w => ?_)
      obtain ⟨rfl, rfl⟩ := hp
      refine lv_icmp_ge (tgt := 74) hx hb dX4_meanQuality_16 (by decide) (fun hc_k7 => ?_) (fun hc_k7 => ?_)
      · have hge_k7 : nt ≤ k7 := by
          have hb1 := h.b_ta
          exact (nI_leI (a := nt) (b := k7) (by omega) (by omega)).mp hc_k7
        refine lv_iload_n hx hb dX4_meanQuality_74 rfl (lv_at hl 1 rfl) ?_
        refine lv_if_ne (tgt := 82) hx hb dX4_meanQuality_75 (by decide) (fun hc0 => ?_) (fun hc0 => ?_)
        · refine lv_iload_n hx hb dX4_meanQuality_82 rfl (lv_at hl 2 rfl) ?_
          refine lv_i2d hx hb dX4_meanQuality_83 ?_
          refine lv_iload_n hx hb dX4_meanQuality_84 rfl (lv_at hl 1 rfl) ?_
          refine lv_i2d hx hb dX4_meanQuality_85 ?_
          refine lv_ddiv hx hb dX4_meanQuality_86 (n64_of (nan_div _ hc0)) ?_
          exact rD X w rfl dX4_meanQuality_87 (by decide) (by decide) (px_n (by first | exact nan_div _ hc0 | decide))
        · refine lv_dconst0 hx hb dX4_meanQuality_78 ?_
          refine lv_goto (tgt := 87) hx hb dX4_meanQuality_79 (by decide) ?_
          exact rD X w rfl dX4_meanQuality_87 (by decide) (by decide) (px_n (by first | exact nan_div _ hc0 | decide))
      · have hlt_k7 : k7 < nt := by
          have hb1 := h.b_ta
          exact Nat.lt_of_not_le (fun z => hc_k7 ((nI_leI (a := nt) (b := k7) (by omega) (by omega)).mpr z))
        refine lv_aload_n hx hb dX4_meanQuality_19 rfl (lv_at hl 3 rfl) ?_
        refine g_4_0 (S := S) (x := (some (gG S 17 3))) X w h.v4 wF_X4_12 (h.f64) dX4_meanQuality_20 ?_
        refine lv_iload hx hb dX4_meanQuality_23 (lv_at hl 0 rfl) ?_
        refine cV (S := S) (nA := 1) (As := [.int (nI k7)]) (rest := []) X w hl h.l_ta.1 (m_get G S ea 3 k7 nt (some (gG S 9 k7)) h.l_ta hlt_k7 (h.e_ta k7 hlt_k7).1) wY_Jx4a65c_get_915e3 wM_X4_36 wIn_Jx4a65c_get_915e3 wSe_Jx4a65c_Jx4a65c_get_915e3 wI_Jx4a65c (by decide) rfl (by decide +kernel) rfl rfl dX4_meanQuality_25 ⟨by decide, by decide⟩ (Nat.le_of_ble_eq_true rfl) (⟨Nat.le_of_ble_eq_true rfl, Nat.le_of_ble_eq_true rfl⟩) (fun v2 S1 H locs hp w => ?_)
        obtain ⟨rfl, rfl⟩ := hp
        refine ckC (S := S) (t := 9) X w (h.e_ta k7 hlt_k7).2 (by decide) rfl wC_X4_40 dX4_meanQuality_28 ?_
        refine lv_astore (lv' := [(5, .ref (gG S 9 k7)), (4, .int (nI k7)), (3, .int v7_3), (2, .int v7_2), (0, .ref (gG S 4 0)), (1, .int a)]) hx hb dX4_meanQuality_31 hl (by decide) rfl (fun ls hl => ?_)
        refine lv_aload hx hb dX4_meanQuality_33 (lv_at hl 0 rfl) ?_
        have J68 : ∀ (y68_3 : Int32) (y68_2 : Int32) (H : Heap) (locs : List Loc) (ls : Array Slot), Wd s0 D cy S s.heap H locs → lv_has ls 7 [(5, .ref (gG S 9 k7)), (4, .int (nI k7)), (3, .int y68_3), (2, .int y68_2), (0, .ref (gG S 4 0)), (1, .int a)] → W p l e rm_m_X4_meanQuality s m ([.ref (gG S 4 0), .int a] : List Value).toArray below meth c H locs 0 0 (MQ below (GQ s0 D cy (PXn S)) ([.ref (gG S 4 0), .int a] : List Value).toArray s rm_m_X4_meanQuality.cells rm_m_X4_meanQuality.slots (A0 s0)) (F0 m 68 ls []) := by
          intro y68_3 y68_2 H locs ls  w hl
          refine lv_iinc (v := nI (k7 + 1)) (lv' := [(4, .int (nI (k7 + 1))), (5, .ref (gG S 9 k7)), (3, .int y68_3), (2, .int y68_2), (0, .ref (gG S 4 0)), (1, .int a)]) hx hb dX4_meanQuality_68 hl (k := 1) rfl (nI_1 _) (by decide) rfl (fun ls hl => ?_)
          refine lv_goto (tgt := 7) hx hb dX4_meanQuality_71 (by decide) ?_
          exact ih7 (k7 + 1) y68_3 y68_2 _ _ _ (by omega) (hlt_k7) w (lv_sub hl [0, 2, 3, 4, 5] rfl)
        rcases h.t_rp k7 hlt_k7 with her3 | ⟨her3, hvr3⟩
        · refine g_9_8 (S := S) (x := none) X w (h.e_ta k7 hlt_k7).2 wF_X4_71 (her3) dX4_meanQuality_35 ?_
          refine lv_astoreN (lv' := [(6, .null), (5, .ref (gG S 9 k7)), (4, .int (nI k7)), (3, .int v7_3), (2, .int v7_2), (0, .ref (gG S 4 0)), (1, .int a)]) hx hb dX4_meanQuality_38 hl (by decide) rfl (fun ls hl => ?_)
          refine lv_aloadN hx hb dX4_meanQuality_40 (lv_at hl 0 rfl) ?_
          refine lv_ifnullN (tgt := 68) hx hb dX4_meanQuality_42 (by decide) ?_
          exact J68 v7_3 v7_2 _ _ _  w (lv_sub hl [1, 2, 3, 4, 5, 6] rfl)
        · refine g_9_8 (S := S) (x := (some (gG S 6 k7))) X w (h.e_ta k7 hlt_k7).2 wF_X4_71 (her3) dX4_meanQuality_35 ?_
          refine lv_astore (lv' := [(6, .ref (gG S 6 k7)), (5, .ref (gG S 9 k7)), (4, .int (nI k7)), (3, .int v7_3), (2, .int v7_2), (0, .ref (gG S 4 0)), (1, .int a)]) hx hb dX4_meanQuality_38 hl (by decide) rfl (fun ls hl => ?_)
          refine lv_aload hx hb dX4_meanQuality_40 (lv_at hl 0 rfl) ?_
          refine lv_ifnull hx hb dX4_meanQuality_42 ?_
          refine lv_aload hx hb dX4_meanQuality_45 (lv_at hl 1 rfl) ?_
          obtain ⟨i4, hli4, hei4⟩ := h.t_st k7 hlt_k7
          refine g_9_1 (S := S) (x := (some (gG S 8 i4))) X w (h.e_ta k7 hlt_k7).2 wF_X4_44 (hei4) dX4_meanQuality_47 ?_
          refine g_8_4 (S := S) (x := (mI S 132 i4)) X w (h.e_st i4 hli4).2 wF_X4_62 (rfl) dX4_meanQuality_50 ?_
          refine lv_iload_n hx hb dX4_meanQuality_53 rfl (lv_at hl 6 rfl) ?_
          refine lv_icmp_ne (tgt := 68) hx hb dX4_meanQuality_54 (by decide) (fun hc5 => ?_) (fun hc5 => ?_)
          · exact J68 v7_3 v7_2 _ _ _  w (lv_sub hl [1, 2, 3, 4, 5, 6] rfl)
          · refine lv_iload_n hx hb dX4_meanQuality_57 rfl (lv_at hl 4 rfl) ?_
            refine lv_aload hx hb dX4_meanQuality_58 (lv_at hl 0 rfl) ?_
            refine g_6_7 (S := S) (x := (mI S 103 k7)) X w hvr3 wF_X4_172 (rfl) dX4_meanQuality_60 ?_
            refine lv_iadd hx hb dX4_meanQuality_63 ?_
            refine lv_istore_n (lv' := [(2, .int (v7_2 + (mI S 103 k7))), (6, .ref (gG S 6 k7)), (5, .ref (gG S 9 k7)), (4, .int (nI k7)), (3, .int v7_3), (0, .ref (gG S 4 0)), (1, .int a)]) hx hb dX4_meanQuality_64 rfl hl (by decide) rfl (fun ls hl => ?_)
            refine lv_iinc (v := (v7_3 + 1)) (lv' := [(3, .int (v7_3 + 1)), (2, .int (v7_2 + (mI S 103 k7))), (6, .ref (gG S 6 k7)), (5, .ref (gG S 9 k7)), (4, .int (nI k7)), (0, .ref (gG S 4 0)), (1, .int a)]) hx hb dX4_meanQuality_65 hl (k := 4) rfl (rfl) (by decide) rfl (fun ls hl => ?_)
            exact J68 (v7_3 + 1) (v7_2 + (mI S 103 k7)) _ _ _  w (lv_sub hl [3, 4, 0, 1, 5, 6] rfl)
  exact L7 _ 0 0 0 _ _ _ (Nat.lt_succ_self _) (Nat.zero_le _) w (lv_sub hl [0, 1, 2, 3, 4] rfl)

theorem dX10_stationFact_0 : decode cX10_stationFact 0 = .ok (.iload_n 2, 1) := by decide +kernel
theorem dX10_stationFact_1 : decode cX10_stationFact 1 = .ok (.tableswitch 111 0 7 #[47, 52, 57, 62, 67, 72, 89, 102], 47) := by decide +kernel
theorem dX10_stationFact_48 : decode cX10_stationFact 48 = .ok (.aload_n 1, 1) := by decide +kernel
theorem dX10_stationFact_49 : decode cX10_stationFact 49 = .ok (.getfield 97, 3) := by decide +kernel
theorem dX10_stationFact_52 : decode cX10_stationFact 52 = .ok (.ireturn, 1) := by decide +kernel
theorem dX10_stationFact_53 : decode cX10_stationFact 53 = .ok (.aload_n 1, 1) := by decide +kernel
theorem dX10_stationFact_54 : decode cX10_stationFact 54 = .ok (.getfield 440, 3) := by decide +kernel
theorem dX10_stationFact_57 : decode cX10_stationFact 57 = .ok (.ireturn, 1) := by decide +kernel
theorem dX10_stationFact_58 : decode cX10_stationFact 58 = .ok (.aload_n 1, 1) := by decide +kernel
theorem dX10_stationFact_59 : decode cX10_stationFact 59 = .ok (.getfield 441, 3) := by decide +kernel
theorem dX10_stationFact_62 : decode cX10_stationFact 62 = .ok (.ireturn, 1) := by decide +kernel
theorem dX10_stationFact_63 : decode cX10_stationFact 63 = .ok (.aload_n 1, 1) := by decide +kernel
theorem dX10_stationFact_64 : decode cX10_stationFact 64 = .ok (.getfield 444, 3) := by decide +kernel
theorem dX10_stationFact_67 : decode cX10_stationFact 67 = .ok (.ireturn, 1) := by decide +kernel
theorem dX10_stationFact_68 : decode cX10_stationFact 68 = .ok (.aload_n 1, 1) := by decide +kernel
theorem dX10_stationFact_69 : decode cX10_stationFact 69 = .ok (.getfield 447, 3) := by decide +kernel
theorem dX10_stationFact_72 : decode cX10_stationFact 72 = .ok (.ireturn, 1) := by decide +kernel
theorem dX10_stationFact_73 : decode cX10_stationFact 73 = .ok (.aload_n 1, 1) := by decide +kernel
theorem dX10_stationFact_74 : decode cX10_stationFact 74 = .ok (.aload_n 0, 1) := by decide +kernel
theorem dX10_stationFact_75 : decode cX10_stationFact 75 = .ok (.invokevirtual 411, 3) := by decide +kernel
theorem dX10_stationFact_78 : decode cX10_stationFact 78 = .ok (.invokevirtual 167, 3) := by decide +kernel
theorem dX10_stationFact_81 : decode cX10_stationFact 81 = .ok (.ifCond .eq 7, 3) := by decide +kernel
theorem dX10_stationFact_84 : decode cX10_stationFact 84 = .ok (.iconst 1, 1) := by decide +kernel
theorem dX10_stationFact_85 : decode cX10_stationFact 85 = .ok (.goto 4, 3) := by decide +kernel
theorem dX10_stationFact_88 : decode cX10_stationFact 88 = .ok (.iconst 0, 1) := by decide +kernel
theorem dX10_stationFact_89 : decode cX10_stationFact 89 = .ok (.ireturn, 1) := by decide +kernel
theorem dX10_stationFact_90 : decode cX10_stationFact 90 = .ok (.aload_n 0, 1) := by decide +kernel
theorem dX10_stationFact_91 : decode cX10_stationFact 91 = .ok (.getfield 12, 3) := by decide +kernel
theorem dX10_stationFact_94 : decode cX10_stationFact 94 = .ok (.aload_n 1, 1) := by decide +kernel
theorem dX10_stationFact_95 : decode cX10_stationFact 95 = .ok (.aload_n 0, 1) := by decide +kernel
theorem dX10_stationFact_96 : decode cX10_stationFact 96 = .ok (.invokevirtual 411, 3) := by decide +kernel
theorem dX10_stationFact_99 : decode cX10_stationFact 99 = .ok (.invokevirtual 252, 3) := by decide +kernel
theorem dX10_stationFact_102 : decode cX10_stationFact 102 = .ok (.ireturn, 1) := by decide +kernel
theorem dX10_stationFact_103 : decode cX10_stationFact 103 = .ok (.aload_n 0, 1) := by decide +kernel
theorem dX10_stationFact_104 : decode cX10_stationFact 104 = .ok (.getfield 28, 3) := by decide +kernel
theorem dX10_stationFact_107 : decode cX10_stationFact 107 = .ok (.aload_n 1, 1) := by decide +kernel
theorem dX10_stationFact_108 : decode cX10_stationFact 108 = .ok (.invokevirtual 450, 3) := by decide +kernel
theorem dX10_stationFact_111 : decode cX10_stationFact 111 = .ok (.ireturn, 1) := by decide +kernel
theorem dX10_stationFact_112 : decode cX10_stationFact 112 = .ok (.aload_n 0, 1) := by decide +kernel
theorem dX10_stationFact_113 : decode cX10_stationFact 113 = .ok (.getfield 28, 3) := by decide +kernel
theorem dX10_stationFact_116 : decode cX10_stationFact 116 = .ok (.aload_n 1, 1) := by decide +kernel
theorem dX10_stationFact_117 : decode cX10_stationFact 117 = .ok (.invokevirtual 454, 3) := by decide +kernel
theorem dX10_stationFact_120 : decode cX10_stationFact 120 = .ok (.ireturn, 1) := by decide +kernel
abbrev rm_m_X10_stationFact : Room := { frames := 4, cells := 0, slots := 0, locals := 89 }
set_option maxHeartbeats 4000000 in
set_option maxRecDepth 100000 in
theorem m_X10_stationFact {s0 : State} {l : Launch} {D : va_G} {cy : Nat → ClassId} (G : Gl s0 l D cy) (S : HS) (ea ns nj nm nt nr nc : Nat) (h : CI ea S ns nj nm nt nr nc) (i : Nat) (hi : i < ns) (what : Int32) : Ctr s0 l D cy yX10_stationFact cX10_stationFact 3 (some .int) rm_m_X10_stationFact S [.ref (gG S 10 0), .ref (gG S 8 i), .int what] (PXi S) := by
  refine pro "CavershamShift" G rfl rfl (Nat.le_of_ble_eq_true rfl) (fun p e s m below meth c ls X w hnm hl => ?_)
  have hx := X.1
  have hb := X.2.1
  have hown := X.2.2.2.1
  have hts := X.2.2.2.2.1
  have hl : lv_has ls 3 [(0, .ref (gG S 10 0)), (1, .ref (gG S 8 i)), (2, .int what)] := hl
  refine lv_iload_n hx hb dX10_stationFact_0 rfl (lv_at hl 2 rfl) ?_
  by_cases hw1_0 : (what : Int32).toInt = 0
  · refine lv_tableIn (off := 47) (tgt := 48) hx hb dX10_stationFact_1 (by omega) (by omega) (by rw [hw1_0]; rfl) (by decide) ?_
    refine lv_aload_n hx hb dX10_stationFact_48 rfl (lv_at hl 1 rfl) ?_
    refine g_8_1 (S := S) (x := (mI S 129 i)) X w (h.e_st i hi).2 wF_X10_97 (rfl) dX10_stationFact_49 ?_
    exact rI X w rfl dX10_stationFact_52 (by decide) (by decide) (px_i)
  by_cases hw1_1 : (what : Int32).toInt = 1
  · refine lv_tableIn (off := 52) (tgt := 53) hx hb dX10_stationFact_1 (by omega) (by omega) (by rw [hw1_1]; rfl) (by decide) ?_
    refine lv_aload_n hx hb dX10_stationFact_53 rfl (lv_at hl 1 rfl) ?_
    refine g_8_2 (S := S) (x := (mI S 130 i)) X w (h.e_st i hi).2 wF_X10_440 (rfl) dX10_stationFact_54 ?_
    exact rI X w rfl dX10_stationFact_57 (by decide) (by decide) (px_i)
  by_cases hw1_2 : (what : Int32).toInt = 2
  · refine lv_tableIn (off := 57) (tgt := 58) hx hb dX10_stationFact_1 (by omega) (by omega) (by rw [hw1_2]; rfl) (by decide) ?_
    refine lv_aload_n hx hb dX10_stationFact_58 rfl (lv_at hl 1 rfl) ?_
    refine g_8_3 (S := S) (x := (mI S 131 i)) X w (h.e_st i hi).2 wF_X10_441 (rfl) dX10_stationFact_59 ?_
    exact rI X w rfl dX10_stationFact_62 (by decide) (by decide) (px_i)
  by_cases hw1_3 : (what : Int32).toInt = 3
  · refine lv_tableIn (off := 62) (tgt := 63) hx hb dX10_stationFact_1 (by omega) (by omega) (by rw [hw1_3]; rfl) (by decide) ?_
    refine lv_aload_n hx hb dX10_stationFact_63 rfl (lv_at hl 1 rfl) ?_
    refine g_8_4 (S := S) (x := (mI S 132 i)) X w (h.e_st i hi).2 wF_X10_444 (rfl) dX10_stationFact_64 ?_
    exact rI X w rfl dX10_stationFact_67 (by decide) (by decide) (px_i)
  by_cases hw1_4 : (what : Int32).toInt = 4
  · refine lv_tableIn (off := 67) (tgt := 68) hx hb dX10_stationFact_1 (by omega) (by omega) (by rw [hw1_4]; rfl) (by decide) ?_
    refine lv_aload_n hx hb dX10_stationFact_68 rfl (lv_at hl 1 rfl) ?_
    obtain ⟨g2, hlg2, heg2⟩ := h.x_to i hi
    refine g_8_5 (S := S) (x := (nI g2)) X w (h.e_st i hi).2 wF_X10_447 (heg2) dX10_stationFact_69 ?_
    exact rI X w rfl dX10_stationFact_72 (by decide) (by decide) (px_i)
  by_cases hw1_5 : (what : Int32).toInt = 5
  · refine lv_tableIn (off := 72) (tgt := 73) hx hb dX10_stationFact_1 (by omega) (by omega) (by rw [hw1_5]; rfl) (by decide) ?_
    refine lv_aload_n hx hb dX10_stationFact_73 rfl (lv_at hl 1 rfl) ?_
    refine lv_aload_n hx hb dX10_stationFact_74 rfl (lv_at hl 0 rfl) ?_
    refine cV (S := S) (nA := 0) (As := []) (rest := [.ref (gG S 8 i)]) X w hl h.v10 (m_X10_hourOfDay G S ea ns nj nm nt nr nc h ) wY_X10_hourOfDay wM_X10_411 wIn_X10_hourOfDay wSe_X10_X10_hourOfDay wI_X10 (by decide) rfl (by decide +kernel) rfl rfl dX10_stationFact_75 ⟨by decide, by decide⟩ (Nat.le_of_ble_eq_true rfl) (⟨Nat.le_of_ble_eq_true rfl, Nat.le_of_ble_eq_true rfl⟩) (fun v3 S1 H locs hp w => ?_)
    obtain ⟨rfl, rfl⟩ := hp
    refine cV (S := S) (nA := 1) (As := [.int (mI S 164 0 - mI S 164 0 / 24 * 24)]) (rest := []) X w hl (h.e_st i hi).2 (m_X8_isOnAir G S ea ns nj nm nt nr nc h i hi (mI S 164 0 - mI S 164 0 / 24 * 24)) wY_X8_isOnAir wM_X10_167 wIn_X8_isOnAir wSe_X8_X8_isOnAir wI_X8 (by decide) rfl (by decide +kernel) rfl rfl dX10_stationFact_78 ⟨by decide, by decide⟩ (Nat.le_of_ble_eq_true rfl) (⟨Nat.le_of_ble_eq_true rfl, Nat.le_of_ble_eq_true rfl⟩) (fun v4 S1 H locs hp w => ?_)
    obtain ⟨rfl, rfl⟩ := hp
    refine lv_if_eq (tgt := 88) hx hb dX10_stationFact_81 (by decide) (fun hc5 => ?_) (fun hc5 => ?_)
    · refine lv_iconst (v := 0) hx hb dX10_stationFact_88 (by decide) ?_
      exact rI X w rfl dX10_stationFact_89 (by decide) (by decide) (px_i)
    · refine lv_iconst (v := 1) hx hb dX10_stationFact_84 (by decide) ?_
      refine lv_goto (tgt := 89) hx hb dX10_stationFact_85 (by decide) ?_
      exact rI X w rfl dX10_stationFact_89 (by decide) (by decide) (px_i)
  by_cases hw1_6 : (what : Int32).toInt = 6
  · refine lv_tableIn (off := 89) (tgt := 90) hx hb dX10_stationFact_1 (by omega) (by omega) (by rw [hw1_6]; rfl) (by decide) ?_
    refine lv_aload_n hx hb dX10_stationFact_90 rfl (lv_at hl 0 rfl) ?_
    refine g_10_0 (S := S) (x := (some (gG S 0 0))) X w h.v10 wF_X10_12 (h.f160) dX10_stationFact_91 ?_
    refine lv_aload_n hx hb dX10_stationFact_94 rfl (lv_at hl 1 rfl) ?_
    refine lv_aload_n hx hb dX10_stationFact_95 rfl (lv_at hl 0 rfl) ?_
    refine cV (S := S) (nA := 0) (As := []) (rest := [.ref (gG S 8 i), .ref (gG S 0 0)]) X w hl h.v10 (m_X10_hourOfDay G S ea ns nj nm nt nr nc h ) wY_X10_hourOfDay wM_X10_411 wIn_X10_hourOfDay wSe_X10_X10_hourOfDay wI_X10 (by decide) rfl (by decide +kernel) rfl rfl dX10_stationFact_96 ⟨by decide, by decide⟩ (Nat.le_of_ble_eq_true rfl) (⟨Nat.le_of_ble_eq_true rfl, Nat.le_of_ble_eq_true rfl⟩) (fun v6 S1 H locs hp w => ?_)
    obtain ⟨rfl, rfl⟩ := hp
    refine cV (S := S) (nA := 2) (As := [.ref (gG S 8 i), .int (mI S 164 0 - mI S 164 0 / 24 * 24)]) (rest := []) X w hl h.v0 (m_X0_strengthOf G S ea ns nj nm nt nr nc h i hi (mI S 164 0 - mI S 164 0 / 24 * 24)) wY_X0_strengthOf wM_X10_252 wIn_X0_strengthOf wSe_X0_X0_strengthOf wI_X0 (by decide) rfl (by decide +kernel) rfl rfl dX10_stationFact_99 ⟨by decide, by decide⟩ (Nat.le_of_ble_eq_true rfl) (⟨Nat.le_of_ble_eq_true rfl, Nat.le_of_ble_eq_true rfl⟩) (fun v7 S1 H locs hp w => ?_)
    obtain ⟨rfl, rfl⟩ := hp
    exact rI X w rfl dX10_stationFact_102 (by decide) (by decide) (px_i)
  by_cases hw1_7 : (what : Int32).toInt = 7
  · refine lv_tableIn (off := 102) (tgt := 103) hx hb dX10_stationFact_1 (by omega) (by omega) (by rw [hw1_7]; rfl) (by decide) ?_
    refine lv_aload_n hx hb dX10_stationFact_103 rfl (lv_at hl 0 rfl) ?_
    refine g_10_2 (S := S) (x := (some (gG S 4 0))) X w h.v10 wF_X10_28 (h.f162) dX10_stationFact_104 ?_
    refine lv_aload_n hx hb dX10_stationFact_107 rfl (lv_at hl 1 rfl) ?_
    refine cV (S := S) (nA := 1) (As := [.ref (gG S 8 i)]) (rest := []) X w hl h.v4 (m_X4_countTalksOf G S ea ns nj nm nt nr nc h i hi) wY_X4_countTalksOf wM_X10_450 wIn_X4_countTalksOf wSe_X4_X4_countTalksOf wI_X4 (by decide) rfl (by decide +kernel) rfl rfl dX10_stationFact_108 ⟨by decide, by decide⟩ (Nat.le_of_ble_eq_true rfl) (⟨Nat.le_of_ble_eq_true rfl, Nat.le_of_ble_eq_true rfl⟩) (fun v9 S1 H locs hp w => ?_)
    obtain ⟨⟨x8, rfl⟩, rfl⟩ := hp
    exact rI X w rfl dX10_stationFact_111 (by decide) (by decide) (px_i)
  refine lv_tableOut (tgt := 112) hx hb dX10_stationFact_1 (by omega) (by decide) ?_
  refine lv_aload_n hx hb dX10_stationFact_112 rfl (lv_at hl 0 rfl) ?_
  refine g_10_2 (S := S) (x := (some (gG S 4 0))) X w h.v10 wF_X10_28 (h.f162) dX10_stationFact_113 ?_
  refine lv_aload_n hx hb dX10_stationFact_116 rfl (lv_at hl 1 rfl) ?_
  refine cV (S := S) (nA := 1) (As := [.ref (gG S 8 i)]) (rest := []) X w hl h.v4 (m_X4_countReportsOf G S ea ns nj nm nt nr nc h i hi) wY_X4_countReportsOf wM_X10_454 wIn_X4_countReportsOf wSe_X4_X4_countReportsOf wI_X4 (by decide) rfl (by decide +kernel) rfl rfl dX10_stationFact_117 ⟨by decide, by decide⟩ (Nat.le_of_ble_eq_true rfl) (⟨Nat.le_of_ble_eq_true rfl, Nat.le_of_ble_eq_true rfl⟩) (fun v11 S1 H locs hp w => ?_)
  obtain ⟨⟨x10, rfl⟩, rfl⟩ := hp
  exact rI X w rfl dX10_stationFact_120 (by decide) (by decide) (px_i)

theorem dX10_monitorFact_0 : decode cX10_monitorFact 0 = .ok (.iload_n 2, 1) := by decide +kernel
theorem dX10_monitorFact_1 : decode cX10_monitorFact 1 = .ok (.tableswitch 66 5 8 #[31, 36, 41, 50], 31) := by decide +kernel
theorem dX10_monitorFact_32 : decode cX10_monitorFact 32 = .ok (.aload_n 1, 1) := by decide +kernel
theorem dX10_monitorFact_33 : decode cX10_monitorFact 33 = .ok (.getfield 457, 3) := by decide +kernel
theorem dX10_monitorFact_36 : decode cX10_monitorFact 36 = .ok (.ireturn, 1) := by decide +kernel
theorem dX10_monitorFact_37 : decode cX10_monitorFact 37 = .ok (.aload_n 1, 1) := by decide +kernel
theorem dX10_monitorFact_38 : decode cX10_monitorFact 38 = .ok (.getfield 460, 3) := by decide +kernel
theorem dX10_monitorFact_41 : decode cX10_monitorFact 41 = .ok (.ireturn, 1) := by decide +kernel
theorem dX10_monitorFact_42 : decode cX10_monitorFact 42 = .ok (.aload_n 0, 1) := by decide +kernel
theorem dX10_monitorFact_43 : decode cX10_monitorFact 43 = .ok (.getfield 28, 3) := by decide +kernel
theorem dX10_monitorFact_46 : decode cX10_monitorFact 46 = .ok (.aload_n 1, 1) := by decide +kernel
theorem dX10_monitorFact_47 : decode cX10_monitorFact 47 = .ok (.invokevirtual 463, 3) := by decide +kernel
theorem dX10_monitorFact_50 : decode cX10_monitorFact 50 = .ok (.ireturn, 1) := by decide +kernel
theorem dX10_monitorFact_51 : decode cX10_monitorFact 51 = .ok (.aload_n 0, 1) := by decide +kernel
theorem dX10_monitorFact_52 : decode cX10_monitorFact 52 = .ok (.getfield 21, 3) := by decide +kernel
theorem dX10_monitorFact_55 : decode cX10_monitorFact 55 = .ok (.aload_n 0, 1) := by decide +kernel
theorem dX10_monitorFact_56 : decode cX10_monitorFact 56 = .ok (.invokevirtual 411, 3) := by decide +kernel
theorem dX10_monitorFact_59 : decode cX10_monitorFact 59 = .ok (.aload_n 1, 1) := by decide +kernel
theorem dX10_monitorFact_60 : decode cX10_monitorFact 60 = .ok (.getfield 467, 3) := by decide +kernel
theorem dX10_monitorFact_63 : decode cX10_monitorFact 63 = .ok (.invokevirtual 468, 3) := by decide +kernel
theorem dX10_monitorFact_66 : decode cX10_monitorFact 66 = .ok (.ireturn, 1) := by decide +kernel
theorem dX10_monitorFact_67 : decode cX10_monitorFact 67 = .ok (.aload_n 1, 1) := by decide +kernel
theorem dX10_monitorFact_68 : decode cX10_monitorFact 68 = .ok (.iload_n 2, 1) := by decide +kernel
theorem dX10_monitorFact_69 : decode cX10_monitorFact 69 = .ok (.invokevirtual 471, 3) := by decide +kernel
theorem dX10_monitorFact_72 : decode cX10_monitorFact 72 = .ok (.ireturn, 1) := by decide +kernel
abbrev rm_m_X10_monitorFact : Room := { frames := 4, cells := 0, slots := 0, locals := 88 }
set_option maxHeartbeats 4000000 in
set_option maxRecDepth 100000 in
theorem m_X10_monitorFact {s0 : State} {l : Launch} {D : va_G} {cy : Nat → ClassId} (G : Gl s0 l D cy) (S : HS) (ea ns nj nm nt nr nc : Nat) (h : CI ea S ns nj nm nt nr nc) (mo q : Nat) (hmo : mo < nm) (hq : q < 9) : Ctr s0 l D cy yX10_monitorFact cX10_monitorFact 3 (some .int) rm_m_X10_monitorFact S [.ref (gG S 10 0), .ref (gG S 3 mo), .int (nI q)] (PXi S) := by
  refine pro "CavershamShift" G rfl rfl (Nat.le_of_ble_eq_true rfl) (fun p e s m below meth c ls X w hnm hl => ?_)
  have hx := X.1
  have hb := X.2.1
  have hown := X.2.2.2.1
  have hts := X.2.2.2.2.1
  have hl : lv_has ls 3 [(0, .ref (gG S 10 0)), (1, .ref (gG S 3 mo)), (2, .int (nI q))] := hl
  refine lv_iload_n hx hb dX10_monitorFact_0 rfl (lv_at hl 2 rfl) ?_
  by_cases hw1_5 : (nI q : Int32).toInt = 5
  · refine lv_tableIn (off := 31) (tgt := 32) hx hb dX10_monitorFact_1 (by omega) (by omega) (by rw [hw1_5]; rfl) (by decide) ?_
    refine lv_aload_n hx hb dX10_monitorFact_32 rfl (lv_at hl 1 rfl) ?_
    refine g_3_2 (S := S) (x := (mI S 50 mo)) X w (h.e_mo mo hmo).2 wF_X10_457 (rfl) dX10_monitorFact_33 ?_
    exact rI X w rfl dX10_monitorFact_36 (by decide) (by decide) (px_i)
  by_cases hw1_6 : (nI q : Int32).toInt = 6
  · refine lv_tableIn (off := 36) (tgt := 37) hx hb dX10_monitorFact_1 (by omega) (by omega) (by rw [hw1_6]; rfl) (by decide) ?_
    refine lv_aload_n hx hb dX10_monitorFact_37 rfl (lv_at hl 1 rfl) ?_
    refine g_3_3 (S := S) (x := (mI S 51 mo)) X w (h.e_mo mo hmo).2 wF_X10_460 (rfl) dX10_monitorFact_38 ?_
    exact rI X w rfl dX10_monitorFact_41 (by decide) (by decide) (px_i)
  by_cases hw1_7 : (nI q : Int32).toInt = 7
  · refine lv_tableIn (off := 41) (tgt := 42) hx hb dX10_monitorFact_1 (by omega) (by omega) (by rw [hw1_7]; rfl) (by decide) ?_
    refine lv_aload_n hx hb dX10_monitorFact_42 rfl (lv_at hl 0 rfl) ?_
    refine g_10_2 (S := S) (x := (some (gG S 4 0))) X w h.v10 wF_X10_28 (h.f162) dX10_monitorFact_43 ?_
    refine lv_aload_n hx hb dX10_monitorFact_46 rfl (lv_at hl 1 rfl) ?_
    refine cV (S := S) (nA := 1) (As := [.ref (gG S 3 mo)]) (rest := []) X w hl h.v4 (m_X4_countReportsBy G S ea ns nj nm nt nr nc h mo hmo) wY_X4_countReportsBy wM_X10_463 wIn_X4_countReportsBy wSe_X4_X4_countReportsBy wI_X4 (by decide) rfl (by decide +kernel) rfl rfl dX10_monitorFact_47 ⟨by decide, by decide⟩ (Nat.le_of_ble_eq_true rfl) (⟨Nat.le_of_ble_eq_true rfl, Nat.le_of_ble_eq_true rfl⟩) (fun v3 S1 H locs hp w => ?_)
    obtain ⟨⟨x2, rfl⟩, rfl⟩ := hp
    exact rI X w rfl dX10_monitorFact_50 (by decide) (by decide) (px_i)
  by_cases hw1_8 : (nI q : Int32).toInt = 8
  · refine lv_tableIn (off := 50) (tgt := 51) hx hb dX10_monitorFact_1 (by omega) (by omega) (by rw [hw1_8]; rfl) (by decide) ?_
    refine lv_aload_n hx hb dX10_monitorFact_51 rfl (lv_at hl 0 rfl) ?_
    refine g_10_1 (S := S) (x := (some (gG S 7 0))) X w h.v10 wF_X10_21 (h.f161) dX10_monitorFact_52 ?_
    refine lv_aload_n hx hb dX10_monitorFact_55 rfl (lv_at hl 0 rfl) ?_
    refine cV (S := S) (nA := 0) (As := []) (rest := [.ref (gG S 7 0)]) X w hl h.v10 (m_X10_hourOfDay G S ea ns nj nm nt nr nc h ) wY_X10_hourOfDay wM_X10_411 wIn_X10_hourOfDay wSe_X10_X10_hourOfDay wI_X10 (by decide) rfl (by decide +kernel) rfl rfl dX10_monitorFact_56 ⟨by decide, by decide⟩ (Nat.le_of_ble_eq_true rfl) (⟨Nat.le_of_ble_eq_true rfl, Nat.le_of_ble_eq_true rfl⟩) (fun v4 S1 H locs hp w => ?_)
    obtain ⟨rfl, rfl⟩ := hp
    refine lv_aload_n hx hb dX10_monitorFact_59 rfl (lv_at hl 1 rfl) ?_
    refine g_3_0 (S := S) (x := (mI S 48 mo)) X w (h.e_mo mo hmo).2 wF_X10_467 (rfl) dX10_monitorFact_60 ?_
    refine cV (S := S) (nA := 2) (As := [.int (mI S 164 0 - mI S 164 0 / 24 * 24), .int (mI S 48 mo)]) (rest := []) X w hl h.v7 (m_X7_setOf G S ea ns nj nm nt nr nc h (mI S 164 0 - mI S 164 0 / 24 * 24) (mI S 48 mo)) wY_X7_setOf wM_X10_468 wIn_X7_setOf wSe_X7_X7_setOf wI_X7 (by decide) rfl (by decide +kernel) rfl rfl dX10_monitorFact_63 ⟨by decide, by decide⟩ (Nat.le_of_ble_eq_true rfl) (⟨Nat.le_of_ble_eq_true rfl, Nat.le_of_ble_eq_true rfl⟩) (fun v6 S1 H locs hp w => ?_)
    obtain ⟨⟨x5, rfl⟩, rfl⟩ := hp
    exact rI X w rfl dX10_monitorFact_66 (by decide) (by decide) (px_i)
  refine lv_tableOut (tgt := 67) hx hb dX10_monitorFact_1 (by omega) (by decide) ?_
  refine lv_aload_n hx hb dX10_monitorFact_67 rfl (lv_at hl 1 rfl) ?_
  refine lv_iload_n hx hb dX10_monitorFact_68 rfl (lv_at hl 2 rfl) ?_
  refine cV (S := S) (nA := 1) (As := [.int (nI q)]) (rest := []) X w hl (h.e_mo mo hmo).2 (m_X3_skillFor G S ea ns nj nm nt nr nc h mo q hmo (by omega)) wY_X3_skillFor wM_X10_471 wIn_X3_skillFor wSe_X3_X3_skillFor wI_X3 (by decide) rfl (by decide +kernel) rfl rfl dX10_monitorFact_69 ⟨by decide, by decide⟩ (Nat.le_of_ble_eq_true rfl) (⟨Nat.le_of_ble_eq_true rfl, Nat.le_of_ble_eq_true rfl⟩) (fun v8 S1 H locs hp w => ?_)
  obtain ⟨⟨x7, rfl⟩, rfl⟩ := hp
  exact rI X w rfl dX10_monitorFact_72 (by decide) (by decide) (px_i)

theorem dX10_talkFact_0 : decode cX10_talkFact 0 = .ok (.iload_n 2, 1) := by decide +kernel
theorem dX10_talkFact_1 : decode cX10_talkFact 1 = .ok (.tableswitch 81 0 6 #[43, 51, 56, 61, 66, 71, 76], 43) := by decide +kernel
theorem dX10_talkFact_44 : decode cX10_talkFact 44 = .ok (.aload_n 1, 1) := by decide +kernel
theorem dX10_talkFact_45 : decode cX10_talkFact 45 = .ok (.getfield 326, 3) := by decide +kernel
theorem dX10_talkFact_48 : decode cX10_talkFact 48 = .ok (.getfield 330, 3) := by decide +kernel
theorem dX10_talkFact_51 : decode cX10_talkFact 51 = .ok (.ireturn, 1) := by decide +kernel
theorem dX10_talkFact_52 : decode cX10_talkFact 52 = .ok (.aload_n 1, 1) := by decide +kernel
theorem dX10_talkFact_53 : decode cX10_talkFact 53 = .ok (.getfield 333, 3) := by decide +kernel
theorem dX10_talkFact_56 : decode cX10_talkFact 56 = .ok (.ireturn, 1) := by decide +kernel
theorem dX10_talkFact_57 : decode cX10_talkFact 57 = .ok (.aload_n 1, 1) := by decide +kernel
theorem dX10_talkFact_58 : decode cX10_talkFact 58 = .ok (.getfield 474, 3) := by decide +kernel
theorem dX10_talkFact_61 : decode cX10_talkFact 61 = .ok (.ireturn, 1) := by decide +kernel
theorem dX10_talkFact_62 : decode cX10_talkFact 62 = .ok (.aload_n 1, 1) := by decide +kernel
theorem dX10_talkFact_63 : decode cX10_talkFact 63 = .ok (.getfield 477, 3) := by decide +kernel
theorem dX10_talkFact_66 : decode cX10_talkFact 66 = .ok (.ireturn, 1) := by decide +kernel
theorem dX10_talkFact_67 : decode cX10_talkFact 67 = .ok (.aload_n 1, 1) := by decide +kernel
theorem dX10_talkFact_68 : decode cX10_talkFact 68 = .ok (.getfield 480, 3) := by decide +kernel
theorem dX10_talkFact_71 : decode cX10_talkFact 71 = .ok (.ireturn, 1) := by decide +kernel
theorem dX10_talkFact_72 : decode cX10_talkFact 72 = .ok (.aload_n 1, 1) := by decide +kernel
theorem dX10_talkFact_73 : decode cX10_talkFact 73 = .ok (.getfield 483, 3) := by decide +kernel
theorem dX10_talkFact_76 : decode cX10_talkFact 76 = .ok (.ireturn, 1) := by decide +kernel
theorem dX10_talkFact_77 : decode cX10_talkFact 77 = .ok (.aload_n 1, 1) := by decide +kernel
theorem dX10_talkFact_78 : decode cX10_talkFact 78 = .ok (.getfield 188, 3) := by decide +kernel
theorem dX10_talkFact_81 : decode cX10_talkFact 81 = .ok (.ireturn, 1) := by decide +kernel
theorem dX10_talkFact_82 : decode cX10_talkFact 82 = .ok (.aload_n 1, 1) := by decide +kernel
theorem dX10_talkFact_83 : decode cX10_talkFact 83 = .ok (.getfield 197, 3) := by decide +kernel
theorem dX10_talkFact_86 : decode cX10_talkFact 86 = .ok (.ifnull 7, 3) := by decide +kernel
theorem dX10_talkFact_89 : decode cX10_talkFact 89 = .ok (.iconst 2, 1) := by decide +kernel
theorem dX10_talkFact_90 : decode cX10_talkFact 90 = .ok (.goto 19, 3) := by decide +kernel
theorem dX10_talkFact_93 : decode cX10_talkFact 93 = .ok (.aload_n 1, 1) := by decide +kernel
theorem dX10_talkFact_94 : decode cX10_talkFact 94 = .ok (.getfield 333, 3) := by decide +kernel
theorem dX10_talkFact_97 : decode cX10_talkFact 97 = .ok (.aload_n 0, 1) := by decide +kernel
theorem dX10_talkFact_98 : decode cX10_talkFact 98 = .ok (.getfield 41, 3) := by decide +kernel
theorem dX10_talkFact_101 : decode cX10_talkFact 101 = .ok (.if_icmp .ge 7, 3) := by decide +kernel
theorem dX10_talkFact_104 : decode cX10_talkFact 104 = .ok (.iconst 1, 1) := by decide +kernel
theorem dX10_talkFact_105 : decode cX10_talkFact 105 = .ok (.goto 4, 3) := by decide +kernel
theorem dX10_talkFact_108 : decode cX10_talkFact 108 = .ok (.iconst 0, 1) := by decide +kernel
theorem dX10_talkFact_109 : decode cX10_talkFact 109 = .ok (.ireturn, 1) := by decide +kernel
abbrev rm_m_X10_talkFact : Room := { frames := 0, cells := 0, slots := 0, locals := 0 }
set_option maxHeartbeats 4000000 in
set_option maxRecDepth 100000 in
theorem m_X10_talkFact {s0 : State} {l : Launch} {D : va_G} {cy : Nat → ClassId} (G : Gl s0 l D cy) (S : HS) (ea ns nj nm nt nr nc : Nat) (h : CI ea S ns nj nm nt nr nc) (j : Nat) (hj : j < nt) (what : Int32) : Ctr s0 l D cy yX10_talkFact cX10_talkFact 3 (some .int) rm_m_X10_talkFact S [.ref (gG S 10 0), .ref (gG S 9 j), .int what] (PXi S) := by
  refine pro "CavershamShift" G rfl rfl (Nat.le_of_ble_eq_true rfl) (fun p e s m below meth c ls X w hnm hl => ?_)
  have hx := X.1
  have hb := X.2.1
  have hown := X.2.2.2.1
  have hts := X.2.2.2.2.1
  have hl : lv_has ls 3 [(0, .ref (gG S 10 0)), (1, .ref (gG S 9 j)), (2, .int what)] := hl
  refine lv_iload_n hx hb dX10_talkFact_0 rfl (lv_at hl 2 rfl) ?_
  by_cases hw1_0 : (what : Int32).toInt = 0
  · refine lv_tableIn (off := 43) (tgt := 44) hx hb dX10_talkFact_1 (by omega) (by omega) (by rw [hw1_0]; rfl) (by decide) ?_
    refine lv_aload_n hx hb dX10_talkFact_44 rfl (lv_at hl 1 rfl) ?_
    obtain ⟨i2, hli2, hei2⟩ := h.t_st j hj
    refine g_9_1 (S := S) (x := (some (gG S 8 i2))) X w (h.e_ta j hj).2 wF_X10_326 (hei2) dX10_talkFact_45 ?_
    refine g_8_0 (S := S) (x := (mI S 128 i2)) X w (h.e_st i2 hli2).2 wF_X10_330 (rfl) dX10_talkFact_48 ?_
    exact rI X w rfl dX10_talkFact_51 (by decide) (by decide) (px_i)
  by_cases hw1_1 : (what : Int32).toInt = 1
  · refine lv_tableIn (off := 51) (tgt := 52) hx hb dX10_talkFact_1 (by omega) (by omega) (by rw [hw1_1]; rfl) (by decide) ?_
    refine lv_aload_n hx hb dX10_talkFact_52 rfl (lv_at hl 1 rfl) ?_
    refine g_9_2 (S := S) (x := (mI S 146 j)) X w (h.e_ta j hj).2 wF_X10_333 (rfl) dX10_talkFact_53 ?_
    exact rI X w rfl dX10_talkFact_56 (by decide) (by decide) (px_i)
  by_cases hw1_2 : (what : Int32).toInt = 2
  · refine lv_tableIn (off := 56) (tgt := 57) hx hb dX10_talkFact_1 (by omega) (by omega) (by rw [hw1_2]; rfl) (by decide) ?_
    refine lv_aload_n hx hb dX10_talkFact_57 rfl (lv_at hl 1 rfl) ?_
    refine g_9_3 (S := S) (x := (mI S 147 j)) X w (h.e_ta j hj).2 wF_X10_474 (rfl) dX10_talkFact_58 ?_
    exact rI X w rfl dX10_talkFact_61 (by decide) (by decide) (px_i)
  by_cases hw1_3 : (what : Int32).toInt = 3
  · refine lv_tableIn (off := 61) (tgt := 62) hx hb dX10_talkFact_1 (by omega) (by omega) (by rw [hw1_3]; rfl) (by decide) ?_
    refine lv_aload_n hx hb dX10_talkFact_62 rfl (lv_at hl 1 rfl) ?_
    refine g_9_4 (S := S) (x := (mI S 148 j)) X w (h.e_ta j hj).2 wF_X10_477 (rfl) dX10_talkFact_63 ?_
    exact rI X w rfl dX10_talkFact_66 (by decide) (by decide) (px_i)
  by_cases hw1_4 : (what : Int32).toInt = 4
  · refine lv_tableIn (off := 66) (tgt := 67) hx hb dX10_talkFact_1 (by omega) (by omega) (by rw [hw1_4]; rfl) (by decide) ?_
    refine lv_aload_n hx hb dX10_talkFact_67 rfl (lv_at hl 1 rfl) ?_
    refine g_9_5 (S := S) (x := (mI S 149 j)) X w (h.e_ta j hj).2 wF_X10_480 (rfl) dX10_talkFact_68 ?_
    exact rI X w rfl dX10_talkFact_71 (by decide) (by decide) (px_i)
  by_cases hw1_5 : (what : Int32).toInt = 5
  · refine lv_tableIn (off := 71) (tgt := 72) hx hb dX10_talkFact_1 (by omega) (by omega) (by rw [hw1_5]; rfl) (by decide) ?_
    refine lv_aload_n hx hb dX10_talkFact_72 rfl (lv_at hl 1 rfl) ?_
    refine g_9_6 (S := S) (x := (mI S 150 j)) X w (h.e_ta j hj).2 wF_X10_483 (rfl) dX10_talkFact_73 ?_
    exact rI X w rfl dX10_talkFact_76 (by decide) (by decide) (px_i)
  by_cases hw1_6 : (what : Int32).toInt = 6
  · refine lv_tableIn (off := 76) (tgt := 77) hx hb dX10_talkFact_1 (by omega) (by omega) (by rw [hw1_6]; rfl) (by decide) ?_
    refine lv_aload_n hx hb dX10_talkFact_77 rfl (lv_at hl 1 rfl) ?_
    refine g_9_7 (S := S) (x := (mI S 151 j)) X w (h.e_ta j hj).2 wF_X10_188 (rfl) dX10_talkFact_78 ?_
    exact rI X w rfl dX10_talkFact_81 (by decide) (by decide) (px_i)
  refine lv_tableOut (tgt := 82) hx hb dX10_talkFact_1 (by omega) (by decide) ?_
  refine lv_aload_n hx hb dX10_talkFact_82 rfl (lv_at hl 1 rfl) ?_
  rcases h.t_rp j hj with her3 | ⟨her3, hvr3⟩
  · refine g_9_8 (S := S) (x := none) X w (h.e_ta j hj).2 wF_X10_197 (her3) dX10_talkFact_83 ?_
    refine lv_ifnullN (tgt := 93) hx hb dX10_talkFact_86 (by decide) ?_
    refine lv_aload_n hx hb dX10_talkFact_93 rfl (lv_at hl 1 rfl) ?_
    refine g_9_2 (S := S) (x := (mI S 146 j)) X w (h.e_ta j hj).2 wF_X10_333 (rfl) dX10_talkFact_94 ?_
    refine lv_aload_n hx hb dX10_talkFact_97 rfl (lv_at hl 0 rfl) ?_
    refine g_10_4 (S := S) (x := (mI S 164 0)) X w h.v10 wF_X10_41 (rfl) dX10_talkFact_98 ?_
    refine lv_icmp_ge (tgt := 108) hx hb dX10_talkFact_101 (by decide) (fun hc4 => ?_) (fun hc4 => ?_)
    · refine lv_iconst (v := 0) hx hb dX10_talkFact_108 (by decide) ?_
      exact rI X w rfl dX10_talkFact_109 (by decide) (by decide) (px_i)
    · refine lv_iconst (v := 1) hx hb dX10_talkFact_104 (by decide) ?_
      refine lv_goto (tgt := 109) hx hb dX10_talkFact_105 (by decide) ?_
      exact rI X w rfl dX10_talkFact_109 (by decide) (by decide) (px_i)
  · refine g_9_8 (S := S) (x := (some (gG S 6 j))) X w (h.e_ta j hj).2 wF_X10_197 (her3) dX10_talkFact_83 ?_
    refine lv_ifnull hx hb dX10_talkFact_86 ?_
    refine lv_iconst (v := 2) hx hb dX10_talkFact_89 (by decide) ?_
    refine lv_goto (tgt := 109) hx hb dX10_talkFact_90 (by decide) ?_
    exact rI X w rfl dX10_talkFact_109 (by decide) (by decide) (px_i)

theorem dX10_reportFact_0 : decode cX10_reportFact 0 = .ok (.aload_n 1, 1) := by decide +kernel
theorem dX10_reportFact_1 : decode cX10_reportFact 1 = .ok (.getfield 197, 3) := by decide +kernel
theorem dX10_reportFact_4 : decode cX10_reportFact 4 = .ok (.astore_n 3, 1) := by decide +kernel
theorem dX10_reportFact_5 : decode cX10_reportFact 5 = .ok (.aload_n 3, 1) := by decide +kernel
theorem dX10_reportFact_6 : decode cX10_reportFact 6 = .ok (.ifnonnull 6, 3) := by decide +kernel
theorem dX10_reportFact_9 : decode cX10_reportFact 9 = .ok (.bipush (-2), 2) := by decide +kernel
theorem dX10_reportFact_11 : decode cX10_reportFact 11 = .ok (.ireturn, 1) := by decide +kernel
theorem dX10_reportFact_12 : decode cX10_reportFact 12 = .ok (.iload_n 2, 1) := by decide +kernel
theorem dX10_reportFact_13 : decode cX10_reportFact 13 = .ok (.tableswitch 122 0 10 #[59, 64, 69, 74, 79, 84, 89, 94, 99, 104, 109], 59) := by decide +kernel
theorem dX10_reportFact_72 : decode cX10_reportFact 72 = .ok (.aload_n 3, 1) := by decide +kernel
theorem dX10_reportFact_73 : decode cX10_reportFact 73 = .ok (.getfield 340, 3) := by decide +kernel
theorem dX10_reportFact_76 : decode cX10_reportFact 76 = .ok (.ireturn, 1) := by decide +kernel
theorem dX10_reportFact_77 : decode cX10_reportFact 77 = .ok (.aload_n 3, 1) := by decide +kernel
theorem dX10_reportFact_78 : decode cX10_reportFact 78 = .ok (.getfield 485, 3) := by decide +kernel
theorem dX10_reportFact_81 : decode cX10_reportFact 81 = .ok (.ireturn, 1) := by decide +kernel
theorem dX10_reportFact_82 : decode cX10_reportFact 82 = .ok (.aload_n 3, 1) := by decide +kernel
theorem dX10_reportFact_83 : decode cX10_reportFact 83 = .ok (.getfield 488, 3) := by decide +kernel
theorem dX10_reportFact_86 : decode cX10_reportFact 86 = .ok (.ireturn, 1) := by decide +kernel
theorem dX10_reportFact_87 : decode cX10_reportFact 87 = .ok (.aload_n 3, 1) := by decide +kernel
theorem dX10_reportFact_88 : decode cX10_reportFact 88 = .ok (.getfield 491, 3) := by decide +kernel
theorem dX10_reportFact_91 : decode cX10_reportFact 91 = .ok (.ireturn, 1) := by decide +kernel
theorem dX10_reportFact_92 : decode cX10_reportFact 92 = .ok (.aload_n 3, 1) := by decide +kernel
theorem dX10_reportFact_93 : decode cX10_reportFact 93 = .ok (.getfield 494, 3) := by decide +kernel
theorem dX10_reportFact_96 : decode cX10_reportFact 96 = .ok (.ireturn, 1) := by decide +kernel
theorem dX10_reportFact_97 : decode cX10_reportFact 97 = .ok (.aload_n 3, 1) := by decide +kernel
theorem dX10_reportFact_98 : decode cX10_reportFact 98 = .ok (.getfield 347, 3) := by decide +kernel
theorem dX10_reportFact_101 : decode cX10_reportFact 101 = .ok (.ireturn, 1) := by decide +kernel
theorem dX10_reportFact_102 : decode cX10_reportFact 102 = .ok (.aload_n 3, 1) := by decide +kernel
theorem dX10_reportFact_103 : decode cX10_reportFact 103 = .ok (.getfield 497, 3) := by decide +kernel
theorem dX10_reportFact_106 : decode cX10_reportFact 106 = .ok (.ireturn, 1) := by decide +kernel
theorem dX10_reportFact_107 : decode cX10_reportFact 107 = .ok (.aload_n 3, 1) := by decide +kernel
theorem dX10_reportFact_108 : decode cX10_reportFact 108 = .ok (.getfield 500, 3) := by decide +kernel
theorem dX10_reportFact_111 : decode cX10_reportFact 111 = .ok (.ireturn, 1) := by decide +kernel
theorem dX10_reportFact_112 : decode cX10_reportFact 112 = .ok (.aload_n 3, 1) := by decide +kernel
theorem dX10_reportFact_113 : decode cX10_reportFact 113 = .ok (.getfield 503, 3) := by decide +kernel
theorem dX10_reportFact_116 : decode cX10_reportFact 116 = .ok (.ireturn, 1) := by decide +kernel
theorem dX10_reportFact_117 : decode cX10_reportFact 117 = .ok (.aload_n 3, 1) := by decide +kernel
theorem dX10_reportFact_118 : decode cX10_reportFact 118 = .ok (.getfield 506, 3) := by decide +kernel
theorem dX10_reportFact_121 : decode cX10_reportFact 121 = .ok (.ireturn, 1) := by decide +kernel
theorem dX10_reportFact_122 : decode cX10_reportFact 122 = .ok (.aload_n 1, 1) := by decide +kernel
theorem dX10_reportFact_123 : decode cX10_reportFact 123 = .ok (.invokevirtual 509, 3) := by decide +kernel
theorem dX10_reportFact_126 : decode cX10_reportFact 126 = .ok (.ifCond .eq 7, 3) := by decide +kernel
theorem dX10_reportFact_129 : decode cX10_reportFact 129 = .ok (.iconst 1, 1) := by decide +kernel
theorem dX10_reportFact_130 : decode cX10_reportFact 130 = .ok (.goto 4, 3) := by decide +kernel
theorem dX10_reportFact_133 : decode cX10_reportFact 133 = .ok (.iconst 0, 1) := by decide +kernel
theorem dX10_reportFact_134 : decode cX10_reportFact 134 = .ok (.ireturn, 1) := by decide +kernel
theorem dX10_reportFact_135 : decode cX10_reportFact 135 = .ok (.aload_n 3, 1) := by decide +kernel
theorem dX10_reportFact_136 : decode cX10_reportFact 136 = .ok (.getfield 512, 3) := by decide +kernel
theorem dX10_reportFact_139 : decode cX10_reportFact 139 = .ok (.ireturn, 1) := by decide +kernel
abbrev rm_m_X10_reportFact : Room := { frames := 2, cells := 0, slots := 0, locals := 42 }
set_option maxHeartbeats 4000000 in
set_option maxRecDepth 100000 in
theorem m_X10_reportFact {s0 : State} {l : Launch} {D : va_G} {cy : Nat → ClassId} (G : Gl s0 l D cy) (S : HS) (ea ns nj nm nt nr nc : Nat) (h : CI ea S ns nj nm nt nr nc) (j : Nat) (hj : j < nt) (what : Int32) : Ctr s0 l D cy yX10_reportFact cX10_reportFact 4 (some .int) rm_m_X10_reportFact S [.ref (gG S 10 0), .ref (gG S 9 j), .int what] (PXi S) := by
  refine pro "CavershamShift" G rfl rfl (Nat.le_of_ble_eq_true rfl) (fun p e s m below meth c ls X w hnm hl => ?_)
  have hx := X.1
  have hb := X.2.1
  have hown := X.2.2.2.1
  have hts := X.2.2.2.2.1
  have hl : lv_has ls 4 [(0, .ref (gG S 10 0)), (1, .ref (gG S 9 j)), (2, .int what)] := hl
  refine lv_aload_n hx hb dX10_reportFact_0 rfl (lv_at hl 1 rfl) ?_
  rcases h.t_rp j hj with her1 | ⟨her1, hvr1⟩
  · refine g_9_8 (S := S) (x := none) X w (h.e_ta j hj).2 wF_X10_197 (her1) dX10_reportFact_1 ?_
    refine lv_astore_nN (lv' := [(3, .null), (0, .ref (gG S 10 0)), (1, .ref (gG S 9 j)), (2, .int what)]) hx hb dX10_reportFact_4 rfl hl (by decide) rfl (fun ls hl => ?_)
    refine lv_aload_nN hx hb dX10_reportFact_5 rfl (lv_at hl 0 rfl) ?_
    refine lv_ifnonnullN hx hb dX10_reportFact_6 ?_
    refine lv_bipush (v := (-2)) hx hb dX10_reportFact_9 (by decide) ?_
    exact rI X w rfl dX10_reportFact_11 (by decide) (by decide) (px_i)
  · refine g_9_8 (S := S) (x := (some (gG S 6 j))) X w (h.e_ta j hj).2 wF_X10_197 (her1) dX10_reportFact_1 ?_
    refine lv_astore_n (lv' := [(3, .ref (gG S 6 j)), (0, .ref (gG S 10 0)), (1, .ref (gG S 9 j)), (2, .int what)]) hx hb dX10_reportFact_4 rfl hl (by decide) rfl (fun ls hl => ?_)
    refine lv_aload_n hx hb dX10_reportFact_5 rfl (lv_at hl 0 rfl) ?_
    refine lv_ifnonnull (tgt := 12) hx hb dX10_reportFact_6 (by decide) ?_
    refine lv_iload_n hx hb dX10_reportFact_12 rfl (lv_at hl 3 rfl) ?_
    by_cases hw2_0 : (what : Int32).toInt = 0
    · refine lv_tableIn (off := 59) (tgt := 72) hx hb dX10_reportFact_13 (by omega) (by omega) (by rw [hw2_0]; rfl) (by decide) ?_
      refine lv_aload_n hx hb dX10_reportFact_72 rfl (lv_at hl 0 rfl) ?_
      refine g_6_0 (S := S) (x := (mI S 96 j)) X w hvr1 wF_X10_340 (rfl) dX10_reportFact_73 ?_
      exact rI X w rfl dX10_reportFact_76 (by decide) (by decide) (px_i)
    by_cases hw2_1 : (what : Int32).toInt = 1
    · refine lv_tableIn (off := 64) (tgt := 77) hx hb dX10_reportFact_13 (by omega) (by omega) (by rw [hw2_1]; rfl) (by decide) ?_
      refine lv_aload_n hx hb dX10_reportFact_77 rfl (lv_at hl 0 rfl) ?_
      refine g_6_1 (S := S) (x := (mI S 97 j)) X w hvr1 wF_X10_485 (rfl) dX10_reportFact_78 ?_
      exact rI X w rfl dX10_reportFact_81 (by decide) (by decide) (px_i)
    by_cases hw2_2 : (what : Int32).toInt = 2
    · refine lv_tableIn (off := 69) (tgt := 82) hx hb dX10_reportFact_13 (by omega) (by omega) (by rw [hw2_2]; rfl) (by decide) ?_
      refine lv_aload_n hx hb dX10_reportFact_82 rfl (lv_at hl 0 rfl) ?_
      refine g_6_2 (S := S) (x := (mI S 98 j)) X w hvr1 wF_X10_488 (rfl) dX10_reportFact_83 ?_
      exact rI X w rfl dX10_reportFact_86 (by decide) (by decide) (px_i)
    by_cases hw2_3 : (what : Int32).toInt = 3
    · refine lv_tableIn (off := 74) (tgt := 87) hx hb dX10_reportFact_13 (by omega) (by omega) (by rw [hw2_3]; rfl) (by decide) ?_
      refine lv_aload_n hx hb dX10_reportFact_87 rfl (lv_at hl 0 rfl) ?_
      refine g_6_3 (S := S) (x := (mI S 99 j)) X w hvr1 wF_X10_491 (rfl) dX10_reportFact_88 ?_
      exact rI X w rfl dX10_reportFact_91 (by decide) (by decide) (px_i)
    by_cases hw2_4 : (what : Int32).toInt = 4
    · refine lv_tableIn (off := 79) (tgt := 92) hx hb dX10_reportFact_13 (by omega) (by omega) (by rw [hw2_4]; rfl) (by decide) ?_
      refine lv_aload_n hx hb dX10_reportFact_92 rfl (lv_at hl 0 rfl) ?_
      refine g_6_4 (S := S) (x := (mI S 100 j)) X w hvr1 wF_X10_494 (rfl) dX10_reportFact_93 ?_
      exact rI X w rfl dX10_reportFact_96 (by decide) (by decide) (px_i)
    by_cases hw2_5 : (what : Int32).toInt = 5
    · refine lv_tableIn (off := 84) (tgt := 97) hx hb dX10_reportFact_13 (by omega) (by omega) (by rw [hw2_5]; rfl) (by decide) ?_
      refine lv_aload_n hx hb dX10_reportFact_97 rfl (lv_at hl 0 rfl) ?_
      refine g_6_8 (S := S) (x := (mI S 104 j)) X w hvr1 wF_X10_347 (rfl) dX10_reportFact_98 ?_
      exact rI X w rfl dX10_reportFact_101 (by decide) (by decide) (px_i)
    by_cases hw2_6 : (what : Int32).toInt = 6
    · refine lv_tableIn (off := 89) (tgt := 102) hx hb dX10_reportFact_13 (by omega) (by omega) (by rw [hw2_6]; rfl) (by decide) ?_
      refine lv_aload_n hx hb dX10_reportFact_102 rfl (lv_at hl 0 rfl) ?_
      refine g_6_9 (S := S) (x := (mI S 105 j)) X w hvr1 wF_X10_497 (rfl) dX10_reportFact_103 ?_
      exact rI X w rfl dX10_reportFact_106 (by decide) (by decide) (px_i)
    by_cases hw2_7 : (what : Int32).toInt = 7
    · refine lv_tableIn (off := 94) (tgt := 107) hx hb dX10_reportFact_13 (by omega) (by omega) (by rw [hw2_7]; rfl) (by decide) ?_
      refine lv_aload_n hx hb dX10_reportFact_107 rfl (lv_at hl 0 rfl) ?_
      refine g_6_5 (S := S) (x := (mI S 101 j)) X w hvr1 wF_X10_500 (rfl) dX10_reportFact_108 ?_
      exact rI X w rfl dX10_reportFact_111 (by decide) (by decide) (px_i)
    by_cases hw2_8 : (what : Int32).toInt = 8
    · refine lv_tableIn (off := 99) (tgt := 112) hx hb dX10_reportFact_13 (by omega) (by omega) (by rw [hw2_8]; rfl) (by decide) ?_
      refine lv_aload_n hx hb dX10_reportFact_112 rfl (lv_at hl 0 rfl) ?_
      refine g_6_6 (S := S) (x := (mI S 102 j)) X w hvr1 wF_X10_503 (rfl) dX10_reportFact_113 ?_
      exact rI X w rfl dX10_reportFact_116 (by decide) (by decide) (px_i)
    by_cases hw2_9 : (what : Int32).toInt = 9
    · refine lv_tableIn (off := 104) (tgt := 117) hx hb dX10_reportFact_13 (by omega) (by omega) (by rw [hw2_9]; rfl) (by decide) ?_
      refine lv_aload_n hx hb dX10_reportFact_117 rfl (lv_at hl 0 rfl) ?_
      refine g_6_7 (S := S) (x := (mI S 103 j)) X w hvr1 wF_X10_506 (rfl) dX10_reportFact_118 ?_
      exact rI X w rfl dX10_reportFact_121 (by decide) (by decide) (px_i)
    by_cases hw2_10 : (what : Int32).toInt = 10
    · refine lv_tableIn (off := 109) (tgt := 122) hx hb dX10_reportFact_13 (by omega) (by omega) (by rw [hw2_10]; rfl) (by decide) ?_
      refine lv_aload_n hx hb dX10_reportFact_122 rfl (lv_at hl 2 rfl) ?_
      refine cV (S := S) (nA := 0) (As := []) (rest := []) X w hl (h.e_ta j hj).2 (m_X9_isInError G S ea ns nj nm nt nr nc h j hj) wY_X9_isInError wM_X10_509 wIn_X9_isInError wSe_X9_X9_isInError wI_X9 (by decide) rfl (by decide +kernel) rfl rfl dX10_reportFact_123 ⟨by decide, by decide⟩ (Nat.le_of_ble_eq_true rfl) (⟨Nat.le_of_ble_eq_true rfl, Nat.le_of_ble_eq_true rfl⟩) (fun v4 S1 H locs hp w => ?_)
      obtain ⟨⟨x3, rfl, hpx3⟩, rfl⟩ := hp
      refine lv_if_eq (tgt := 133) hx hb dX10_reportFact_126 (by decide) (fun hc5 => ?_) (fun hc5 => ?_)
      · refine lv_iconst (v := 0) hx hb dX10_reportFact_133 (by decide) ?_
        exact rI X w rfl dX10_reportFact_134 (by decide) (by decide) (px_i)
      · refine lv_iconst (v := 1) hx hb dX10_reportFact_129 (by decide) ?_
        refine lv_goto (tgt := 134) hx hb dX10_reportFact_130 (by decide) ?_
        exact rI X w rfl dX10_reportFact_134 (by decide) (by decide) (px_i)
    refine lv_tableOut (tgt := 135) hx hb dX10_reportFact_13 (by omega) (by decide) ?_
    refine lv_aload_n hx hb dX10_reportFact_135 rfl (lv_at hl 0 rfl) ?_
    refine g_6_11 (S := S) (x := (mI S 107 j)) X w hvr1 wF_X10_512 (rfl) dX10_reportFact_136 ?_
    exact rI X w rfl dX10_reportFact_139 (by decide) (by decide) (px_i)

theorem dX10_readerFact_0 : decode cX10_readerFact 0 = .ok (.iload_n 2, 1) := by decide +kernel
theorem dX10_readerFact_1 : decode cX10_readerFact 1 = .ok (.tableswitch 61 0 3 #[31, 36, 41, 51], 31) := by decide +kernel
theorem dX10_readerFact_32 : decode cX10_readerFact 32 = .ok (.aload_n 1, 1) := by decide +kernel
theorem dX10_readerFact_33 : decode cX10_readerFact 33 = .ok (.getfield 223, 3) := by decide +kernel
theorem dX10_readerFact_36 : decode cX10_readerFact 36 = .ok (.ireturn, 1) := by decide +kernel
theorem dX10_readerFact_37 : decode cX10_readerFact 37 = .ok (.aload_n 1, 1) := by decide +kernel
theorem dX10_readerFact_38 : decode cX10_readerFact 38 = .ok (.getfield 226, 3) := by decide +kernel
theorem dX10_readerFact_41 : decode cX10_readerFact 41 = .ok (.ireturn, 1) := by decide +kernel
theorem dX10_readerFact_42 : decode cX10_readerFact 42 = .ok (.aload_n 0, 1) := by decide +kernel
theorem dX10_readerFact_43 : decode cX10_readerFact 43 = .ok (.getfield 28, 3) := by decide +kernel
theorem dX10_readerFact_46 : decode cX10_readerFact 46 = .ok (.aload_n 1, 1) := by decide +kernel
theorem dX10_readerFact_47 : decode cX10_readerFact 47 = .ok (.iconst 1, 1) := by decide +kernel
theorem dX10_readerFact_48 : decode cX10_readerFact 48 = .ok (.invokevirtual 515, 3) := by decide +kernel
theorem dX10_readerFact_51 : decode cX10_readerFact 51 = .ok (.ireturn, 1) := by decide +kernel
theorem dX10_readerFact_52 : decode cX10_readerFact 52 = .ok (.aload_n 0, 1) := by decide +kernel
theorem dX10_readerFact_53 : decode cX10_readerFact 53 = .ok (.getfield 28, 3) := by decide +kernel
theorem dX10_readerFact_56 : decode cX10_readerFact 56 = .ok (.aload_n 1, 1) := by decide +kernel
theorem dX10_readerFact_57 : decode cX10_readerFact 57 = .ok (.iconst 2, 1) := by decide +kernel
theorem dX10_readerFact_58 : decode cX10_readerFact 58 = .ok (.invokevirtual 515, 3) := by decide +kernel
theorem dX10_readerFact_61 : decode cX10_readerFact 61 = .ok (.ireturn, 1) := by decide +kernel
theorem dX10_readerFact_62 : decode cX10_readerFact 62 = .ok (.aload_n 0, 1) := by decide +kernel
theorem dX10_readerFact_63 : decode cX10_readerFact 63 = .ok (.getfield 28, 3) := by decide +kernel
theorem dX10_readerFact_66 : decode cX10_readerFact 66 = .ok (.aload_n 1, 1) := by decide +kernel
theorem dX10_readerFact_67 : decode cX10_readerFact 67 = .ok (.invokevirtual 518, 3) := by decide +kernel
theorem dX10_readerFact_70 : decode cX10_readerFact 70 = .ok (.ireturn, 1) := by decide +kernel
abbrev rm_m_X10_readerFact : Room := { frames := 4, cells := 0, slots := 0, locals := 88 }
set_option maxHeartbeats 4000000 in
set_option maxRecDepth 100000 in
theorem m_X10_readerFact {s0 : State} {l : Launch} {D : va_G} {cy : Nat → ClassId} (G : Gl s0 l D cy) (S : HS) (ea ns nj nm nt nr nc : Nat) (h : CI ea S ns nj nm nt nr nc) (r : Nat) (hr : r < nr) (what : Int32) : Ctr s0 l D cy yX10_readerFact cX10_readerFact 3 (some .int) rm_m_X10_readerFact S [.ref (gG S 10 0), .ref (gG S 5 r), .int what] (PXi S) := by
  refine pro "CavershamShift" G rfl rfl (Nat.le_of_ble_eq_true rfl) (fun p e s m below meth c ls X w hnm hl => ?_)
  have hx := X.1
  have hb := X.2.1
  have hown := X.2.2.2.1
  have hts := X.2.2.2.2.1
  have hl : lv_has ls 3 [(0, .ref (gG S 10 0)), (1, .ref (gG S 5 r)), (2, .int what)] := hl
  refine lv_iload_n hx hb dX10_readerFact_0 rfl (lv_at hl 2 rfl) ?_
  by_cases hw1_0 : (what : Int32).toInt = 0
  · refine lv_tableIn (off := 31) (tgt := 32) hx hb dX10_readerFact_1 (by omega) (by omega) (by rw [hw1_0]; rfl) (by decide) ?_
    refine lv_aload_n hx hb dX10_readerFact_32 rfl (lv_at hl 1 rfl) ?_
    refine g_5_1 (S := S) (x := (mI S 81 r)) X w (h.e_re r hr).2 wF_X10_223 (rfl) dX10_readerFact_33 ?_
    exact rI X w rfl dX10_readerFact_36 (by decide) (by decide) (px_i)
  by_cases hw1_1 : (what : Int32).toInt = 1
  · refine lv_tableIn (off := 36) (tgt := 37) hx hb dX10_readerFact_1 (by omega) (by omega) (by rw [hw1_1]; rfl) (by decide) ?_
    refine lv_aload_n hx hb dX10_readerFact_37 rfl (lv_at hl 1 rfl) ?_
    refine g_5_2 (S := S) (x := (mI S 82 r)) X w (h.e_re r hr).2 wF_X10_226 (rfl) dX10_readerFact_38 ?_
    exact rI X w rfl dX10_readerFact_41 (by decide) (by decide) (px_i)
  by_cases hw1_2 : (what : Int32).toInt = 2
  · refine lv_tableIn (off := 41) (tgt := 42) hx hb dX10_readerFact_1 (by omega) (by omega) (by rw [hw1_2]; rfl) (by decide) ?_
    refine lv_aload_n hx hb dX10_readerFact_42 rfl (lv_at hl 0 rfl) ?_
    refine g_10_2 (S := S) (x := (some (gG S 4 0))) X w h.v10 wF_X10_28 (h.f162) dX10_readerFact_43 ?_
    refine lv_aload_n hx hb dX10_readerFact_46 rfl (lv_at hl 1 rfl) ?_
    refine lv_iconst (v := 1) hx hb dX10_readerFact_47 (by decide) ?_
    refine cV (S := S) (nA := 2) (As := [.ref (gG S 5 r), .int 1]) (rest := []) X w hl h.v4 (m_X4_countReached G S ea ns nj nm nt nr nc h r hr 1) wY_X4_countReached wM_X10_515 wIn_X4_countReached wSe_X4_X4_countReached wI_X4 (by decide) rfl (by decide +kernel) rfl rfl dX10_readerFact_48 ⟨by decide, by decide⟩ (Nat.le_of_ble_eq_true rfl) (⟨Nat.le_of_ble_eq_true rfl, Nat.le_of_ble_eq_true rfl⟩) (fun v3 S1 H locs hp w => ?_)
    obtain ⟨⟨x2, rfl⟩, rfl⟩ := hp
    exact rI X w rfl dX10_readerFact_51 (by decide) (by decide) (px_i)
  by_cases hw1_3 : (what : Int32).toInt = 3
  · refine lv_tableIn (off := 51) (tgt := 52) hx hb dX10_readerFact_1 (by omega) (by omega) (by rw [hw1_3]; rfl) (by decide) ?_
    refine lv_aload_n hx hb dX10_readerFact_52 rfl (lv_at hl 0 rfl) ?_
    refine g_10_2 (S := S) (x := (some (gG S 4 0))) X w h.v10 wF_X10_28 (h.f162) dX10_readerFact_53 ?_
    refine lv_aload_n hx hb dX10_readerFact_56 rfl (lv_at hl 1 rfl) ?_
    refine lv_iconst (v := 2) hx hb dX10_readerFact_57 (by decide) ?_
    refine cV (S := S) (nA := 2) (As := [.ref (gG S 5 r), .int 2]) (rest := []) X w hl h.v4 (m_X4_countReached G S ea ns nj nm nt nr nc h r hr 2) wY_X4_countReached wM_X10_515 wIn_X4_countReached wSe_X4_X4_countReached wI_X4 (by decide) rfl (by decide +kernel) rfl rfl dX10_readerFact_58 ⟨by decide, by decide⟩ (Nat.le_of_ble_eq_true rfl) (⟨Nat.le_of_ble_eq_true rfl, Nat.le_of_ble_eq_true rfl⟩) (fun v5 S1 H locs hp w => ?_)
    obtain ⟨⟨x4, rfl⟩, rfl⟩ := hp
    exact rI X w rfl dX10_readerFact_61 (by decide) (by decide) (px_i)
  refine lv_tableOut (tgt := 62) hx hb dX10_readerFact_1 (by omega) (by decide) ?_
  refine lv_aload_n hx hb dX10_readerFact_62 rfl (lv_at hl 0 rfl) ?_
  refine g_10_2 (S := S) (x := (some (gG S 4 0))) X w h.v10 wF_X10_28 (h.f162) dX10_readerFact_63 ?_
  refine lv_aload_n hx hb dX10_readerFact_66 rfl (lv_at hl 1 rfl) ?_
  refine cV (S := S) (nA := 1) (As := [.ref (gG S 5 r)]) (rest := []) X w hl h.v4 (m_X4_countMisled G S ea ns nj nm nt nr nc h r hr) wY_X4_countMisled wM_X10_518 wIn_X4_countMisled wSe_X4_X4_countMisled wI_X4 (by decide) rfl (by decide +kernel) rfl rfl dX10_readerFact_67 ⟨by decide, by decide⟩ (Nat.le_of_ble_eq_true rfl) (⟨Nat.le_of_ble_eq_true rfl, Nat.le_of_ble_eq_true rfl⟩) (fun v7 S1 H locs hp w => ?_)
  obtain ⟨⟨x6, rfl⟩, rfl⟩ := hp
  exact rI X w rfl dX10_readerFact_70 (by decide) (by decide) (px_i)

theorem dX10_deskFact_0 : decode cX10_deskFact 0 = .ok (.iload_n 1, 1) := by decide +kernel
theorem dX10_deskFact_1 : decode cX10_deskFact 1 = .ok (.tableswitch 253 0 17 #[87, 92, 97, 102, 113, 124, 135, 146, 154, 163, 172, 181, 190, 199, 207, 226, 234, 245], 87) := by decide +kernel
theorem dX10_deskFact_88 : decode cX10_deskFact 88 = .ok (.aload_n 0, 1) := by decide +kernel
theorem dX10_deskFact_89 : decode cX10_deskFact 89 = .ok (.getfield 41, 3) := by decide +kernel
theorem dX10_deskFact_92 : decode cX10_deskFact 92 = .ok (.ireturn, 1) := by decide +kernel
theorem dX10_deskFact_93 : decode cX10_deskFact 93 = .ok (.aload_n 0, 1) := by decide +kernel
theorem dX10_deskFact_94 : decode cX10_deskFact 94 = .ok (.invokevirtual 292, 3) := by decide +kernel
theorem dX10_deskFact_97 : decode cX10_deskFact 97 = .ok (.ireturn, 1) := by decide +kernel
theorem dX10_deskFact_98 : decode cX10_deskFact 98 = .ok (.aload_n 0, 1) := by decide +kernel
theorem dX10_deskFact_99 : decode cX10_deskFact 99 = .ok (.invokevirtual 411, 3) := by decide +kernel
theorem dX10_deskFact_102 : decode cX10_deskFact 102 = .ok (.ireturn, 1) := by decide +kernel
theorem dX10_deskFact_103 : decode cX10_deskFact 103 = .ok (.aload_n 0, 1) := by decide +kernel
theorem dX10_deskFact_104 : decode cX10_deskFact 104 = .ok (.getfield 12, 3) := by decide +kernel
theorem dX10_deskFact_107 : decode cX10_deskFact 107 = .ok (.getfield 62, 3) := by decide +kernel
theorem dX10_deskFact_110 : decode cX10_deskFact 110 = .ok (.invokevirtual 66, 3) := by decide +kernel
theorem dX10_deskFact_113 : decode cX10_deskFact 113 = .ok (.ireturn, 1) := by decide +kernel
theorem dX10_deskFact_114 : decode cX10_deskFact 114 = .ok (.aload_n 0, 1) := by decide +kernel
theorem dX10_deskFact_115 : decode cX10_deskFact 115 = .ok (.getfield 12, 3) := by decide +kernel
theorem dX10_deskFact_118 : decode cX10_deskFact 118 = .ok (.getfield 101, 3) := by decide +kernel
theorem dX10_deskFact_121 : decode cX10_deskFact 121 = .ok (.invokevirtual 66, 3) := by decide +kernel
theorem dX10_deskFact_124 : decode cX10_deskFact 124 = .ok (.ireturn, 1) := by decide +kernel
theorem dX10_deskFact_125 : decode cX10_deskFact 125 = .ok (.aload_n 0, 1) := by decide +kernel
theorem dX10_deskFact_126 : decode cX10_deskFact 126 = .ok (.getfield 21, 3) := by decide +kernel
theorem dX10_deskFact_129 : decode cX10_deskFact 129 = .ok (.getfield 124, 3) := by decide +kernel
theorem dX10_deskFact_132 : decode cX10_deskFact 132 = .ok (.invokevirtual 66, 3) := by decide +kernel
theorem dX10_deskFact_135 : decode cX10_deskFact 135 = .ok (.ireturn, 1) := by decide +kernel
theorem dX10_deskFact_136 : decode cX10_deskFact 136 = .ok (.aload_n 0, 1) := by decide +kernel
theorem dX10_deskFact_137 : decode cX10_deskFact 137 = .ok (.getfield 28, 3) := by decide +kernel
theorem dX10_deskFact_140 : decode cX10_deskFact 140 = .ok (.getfield 162, 3) := by decide +kernel
theorem dX10_deskFact_143 : decode cX10_deskFact 143 = .ok (.invokevirtual 66, 3) := by decide +kernel
theorem dX10_deskFact_146 : decode cX10_deskFact 146 = .ok (.ireturn, 1) := by decide +kernel
theorem dX10_deskFact_147 : decode cX10_deskFact 147 = .ok (.aload_n 0, 1) := by decide +kernel
theorem dX10_deskFact_148 : decode cX10_deskFact 148 = .ok (.getfield 28, 3) := by decide +kernel
theorem dX10_deskFact_151 : decode cX10_deskFact 151 = .ok (.invokevirtual 521, 3) := by decide +kernel
theorem dX10_deskFact_154 : decode cX10_deskFact 154 = .ok (.ireturn, 1) := by decide +kernel
theorem dX10_deskFact_155 : decode cX10_deskFact 155 = .ok (.aload_n 0, 1) := by decide +kernel
theorem dX10_deskFact_156 : decode cX10_deskFact 156 = .ok (.getfield 28, 3) := by decide +kernel
theorem dX10_deskFact_159 : decode cX10_deskFact 159 = .ok (.iconst 0, 1) := by decide +kernel
theorem dX10_deskFact_160 : decode cX10_deskFact 160 = .ok (.invokevirtual 524, 3) := by decide +kernel
theorem dX10_deskFact_163 : decode cX10_deskFact 163 = .ok (.ireturn, 1) := by decide +kernel
theorem dX10_deskFact_164 : decode cX10_deskFact 164 = .ok (.aload_n 0, 1) := by decide +kernel
theorem dX10_deskFact_165 : decode cX10_deskFact 165 = .ok (.getfield 28, 3) := by decide +kernel
theorem dX10_deskFact_168 : decode cX10_deskFact 168 = .ok (.iconst 1, 1) := by decide +kernel
theorem dX10_deskFact_169 : decode cX10_deskFact 169 = .ok (.invokevirtual 524, 3) := by decide +kernel
theorem dX10_deskFact_172 : decode cX10_deskFact 172 = .ok (.ireturn, 1) := by decide +kernel
theorem dX10_deskFact_173 : decode cX10_deskFact 173 = .ok (.aload_n 0, 1) := by decide +kernel
theorem dX10_deskFact_174 : decode cX10_deskFact 174 = .ok (.getfield 28, 3) := by decide +kernel
theorem dX10_deskFact_177 : decode cX10_deskFact 177 = .ok (.iconst 2, 1) := by decide +kernel
theorem dX10_deskFact_178 : decode cX10_deskFact 178 = .ok (.invokevirtual 524, 3) := by decide +kernel
theorem dX10_deskFact_181 : decode cX10_deskFact 181 = .ok (.ireturn, 1) := by decide +kernel
theorem dX10_deskFact_182 : decode cX10_deskFact 182 = .ok (.aload_n 0, 1) := by decide +kernel
theorem dX10_deskFact_183 : decode cX10_deskFact 183 = .ok (.getfield 28, 3) := by decide +kernel
theorem dX10_deskFact_186 : decode cX10_deskFact 186 = .ok (.iconst 3, 1) := by decide +kernel
theorem dX10_deskFact_187 : decode cX10_deskFact 187 = .ok (.invokevirtual 524, 3) := by decide +kernel
theorem dX10_deskFact_190 : decode cX10_deskFact 190 = .ok (.ireturn, 1) := by decide +kernel
theorem dX10_deskFact_191 : decode cX10_deskFact 191 = .ok (.aload_n 0, 1) := by decide +kernel
theorem dX10_deskFact_192 : decode cX10_deskFact 192 = .ok (.getfield 28, 3) := by decide +kernel
theorem dX10_deskFact_195 : decode cX10_deskFact 195 = .ok (.iconst 4, 1) := by decide +kernel
theorem dX10_deskFact_196 : decode cX10_deskFact 196 = .ok (.invokevirtual 524, 3) := by decide +kernel
theorem dX10_deskFact_199 : decode cX10_deskFact 199 = .ok (.ireturn, 1) := by decide +kernel
theorem dX10_deskFact_200 : decode cX10_deskFact 200 = .ok (.aload_n 0, 1) := by decide +kernel
theorem dX10_deskFact_201 : decode cX10_deskFact 201 = .ok (.getfield 28, 3) := by decide +kernel
theorem dX10_deskFact_204 : decode cX10_deskFact 204 = .ok (.getfield 437, 3) := by decide +kernel
theorem dX10_deskFact_207 : decode cX10_deskFact 207 = .ok (.ireturn, 1) := by decide +kernel
theorem dX10_deskFact_208 : decode cX10_deskFact 208 = .ok (.aload_n 0, 1) := by decide +kernel
theorem dX10_deskFact_209 : decode cX10_deskFact 209 = .ok (.getfield 28, 3) := by decide +kernel
theorem dX10_deskFact_212 : decode cX10_deskFact 212 = .ok (.getfield 527, 3) := by decide +kernel
theorem dX10_deskFact_215 : decode cX10_deskFact 215 = .ok (.invokevirtual 66, 3) := by decide +kernel
theorem dX10_deskFact_218 : decode cX10_deskFact 218 = .ok (.aload_n 0, 1) := by decide +kernel
theorem dX10_deskFact_219 : decode cX10_deskFact 219 = .ok (.getfield 28, 3) := by decide +kernel
theorem dX10_deskFact_222 : decode cX10_deskFact 222 = .ok (.getfield 530, 3) := by decide +kernel
theorem dX10_deskFact_225 : decode cX10_deskFact 225 = .ok (.isub, 1) := by decide +kernel
theorem dX10_deskFact_226 : decode cX10_deskFact 226 = .ok (.ireturn, 1) := by decide +kernel
theorem dX10_deskFact_227 : decode cX10_deskFact 227 = .ok (.aload_n 0, 1) := by decide +kernel
theorem dX10_deskFact_228 : decode cX10_deskFact 228 = .ok (.getfield 28, 3) := by decide +kernel
theorem dX10_deskFact_231 : decode cX10_deskFact 231 = .ok (.getfield 530, 3) := by decide +kernel
theorem dX10_deskFact_234 : decode cX10_deskFact 234 = .ok (.ireturn, 1) := by decide +kernel
theorem dX10_deskFact_235 : decode cX10_deskFact 235 = .ok (.aload_n 0, 1) := by decide +kernel
theorem dX10_deskFact_236 : decode cX10_deskFact 236 = .ok (.getfield 28, 3) := by decide +kernel
theorem dX10_deskFact_239 : decode cX10_deskFact 239 = .ok (.getfield 207, 3) := by decide +kernel
theorem dX10_deskFact_242 : decode cX10_deskFact 242 = .ok (.invokevirtual 66, 3) := by decide +kernel
theorem dX10_deskFact_245 : decode cX10_deskFact 245 = .ok (.ireturn, 1) := by decide +kernel
theorem dX10_deskFact_246 : decode cX10_deskFact 246 = .ok (.aload_n 0, 1) := by decide +kernel
theorem dX10_deskFact_247 : decode cX10_deskFact 247 = .ok (.getfield 28, 3) := by decide +kernel
theorem dX10_deskFact_250 : decode cX10_deskFact 250 = .ok (.getfield 234, 3) := by decide +kernel
theorem dX10_deskFact_253 : decode cX10_deskFact 253 = .ok (.ireturn, 1) := by decide +kernel
theorem dX10_deskFact_254 : decode cX10_deskFact 254 = .ok (.aload_n 0, 1) := by decide +kernel
theorem dX10_deskFact_255 : decode cX10_deskFact 255 = .ok (.getfield 45, 3) := by decide +kernel
theorem dX10_deskFact_258 : decode cX10_deskFact 258 = .ok (.ireturn, 1) := by decide +kernel
abbrev rm_m_X10_deskFact : Room := { frames := 4, cells := 0, slots := 0, locals := 87 }
set_option maxHeartbeats 4000000 in
set_option maxRecDepth 100000 in
theorem m_X10_deskFact {s0 : State} {l : Launch} {D : va_G} {cy : Nat → ClassId} (G : Gl s0 l D cy) (S : HS) (ea ns nj nm nt nr nc : Nat) (h : CI ea S ns nj nm nt nr nc) (what : Int32) : Ctr s0 l D cy yX10_deskFact cX10_deskFact 2 (some .int) rm_m_X10_deskFact S [.ref (gG S 10 0), .int what] (PXi S) := by
  refine pro "CavershamShift" G rfl rfl (Nat.le_of_ble_eq_true rfl) (fun p e s m below meth c ls X w hnm hl => ?_)
  have hx := X.1
  have hb := X.2.1
  have hown := X.2.2.2.1
  have hts := X.2.2.2.2.1
  have hl : lv_has ls 2 [(0, .ref (gG S 10 0)), (1, .int what)] := hl
  refine lv_iload_n hx hb dX10_deskFact_0 rfl (lv_at hl 1 rfl) ?_
  by_cases hw1_0 : (what : Int32).toInt = 0
  · refine lv_tableIn (off := 87) (tgt := 88) hx hb dX10_deskFact_1 (by omega) (by omega) (by rw [hw1_0]; rfl) (by decide) ?_
    refine lv_aload_n hx hb dX10_deskFact_88 rfl (lv_at hl 0 rfl) ?_
    refine g_10_4 (S := S) (x := (mI S 164 0)) X w h.v10 wF_X10_41 (rfl) dX10_deskFact_89 ?_
    exact rI X w rfl dX10_deskFact_92 (by decide) (by decide) (px_i)
  by_cases hw1_1 : (what : Int32).toInt = 1
  · refine lv_tableIn (off := 92) (tgt := 93) hx hb dX10_deskFact_1 (by omega) (by omega) (by rw [hw1_1]; rfl) (by decide) ?_
    refine lv_aload_n hx hb dX10_deskFact_93 rfl (lv_at hl 0 rfl) ?_
    refine cV (S := S) (nA := 0) (As := []) (rest := []) X w hl h.v10 (m_X10_day G S ea ns nj nm nt nr nc h ) wY_X10_day wM_X10_292 wIn_X10_day wSe_X10_X10_day wI_X10 (by decide) rfl (by decide +kernel) rfl rfl dX10_deskFact_94 ⟨by decide, by decide⟩ (Nat.le_of_ble_eq_true rfl) (⟨Nat.le_of_ble_eq_true rfl, Nat.le_of_ble_eq_true rfl⟩) (fun v2 S1 H locs hp w => ?_)
    obtain ⟨rfl, rfl⟩ := hp
    exact rI X w rfl dX10_deskFact_97 (by decide) (by decide) (px_i)
  by_cases hw1_2 : (what : Int32).toInt = 2
  · refine lv_tableIn (off := 97) (tgt := 98) hx hb dX10_deskFact_1 (by omega) (by omega) (by rw [hw1_2]; rfl) (by decide) ?_
    refine lv_aload_n hx hb dX10_deskFact_98 rfl (lv_at hl 0 rfl) ?_
    refine cV (S := S) (nA := 0) (As := []) (rest := []) X w hl h.v10 (m_X10_hourOfDay G S ea ns nj nm nt nr nc h ) wY_X10_hourOfDay wM_X10_411 wIn_X10_hourOfDay wSe_X10_X10_hourOfDay wI_X10 (by decide) rfl (by decide +kernel) rfl rfl dX10_deskFact_99 ⟨by decide, by decide⟩ (Nat.le_of_ble_eq_true rfl) (⟨Nat.le_of_ble_eq_true rfl, Nat.le_of_ble_eq_true rfl⟩) (fun v3 S1 H locs hp w => ?_)
    obtain ⟨rfl, rfl⟩ := hp
    exact rI X w rfl dX10_deskFact_102 (by decide) (by decide) (px_i)
  by_cases hw1_3 : (what : Int32).toInt = 3
  · refine lv_tableIn (off := 102) (tgt := 103) hx hb dX10_deskFact_1 (by omega) (by omega) (by rw [hw1_3]; rfl) (by decide) ?_
    refine lv_aload_n hx hb dX10_deskFact_103 rfl (lv_at hl 0 rfl) ?_
    refine g_10_0 (S := S) (x := (some (gG S 0 0))) X w h.v10 wF_X10_12 (h.f160) dX10_deskFact_104 ?_
    refine g_0_0 (S := S) (x := (some (gG S 17 0))) X w h.v0 wF_X10_62 (h.f0) dX10_deskFact_107 ?_
    refine cV (S := S) (nA := 0) (As := []) (rest := []) X w hl h.l_st.1 (m_size G S ea 0 ns h.l_st) wY_Jx4a65c_size_8abf5 wM_X10_66 wIn_Jx4a65c_size_8abf5 wSe_Jx4a65c_Jx4a65c_size_8abf5 wI_Jx4a65c (by decide) rfl (by decide +kernel) rfl rfl dX10_deskFact_110 ⟨by decide, by decide⟩ (Nat.le_of_ble_eq_true rfl) (⟨Nat.le_of_ble_eq_true rfl, Nat.le_of_ble_eq_true rfl⟩) (fun v4 S1 H locs hp w => ?_)
    obtain ⟨rfl, rfl⟩ := hp
    exact rI X w rfl dX10_deskFact_113 (by decide) (by decide) (px_i)
  by_cases hw1_4 : (what : Int32).toInt = 4
  · refine lv_tableIn (off := 113) (tgt := 114) hx hb dX10_deskFact_1 (by omega) (by omega) (by rw [hw1_4]; rfl) (by decide) ?_
    refine lv_aload_n hx hb dX10_deskFact_114 rfl (lv_at hl 0 rfl) ?_
    refine g_10_0 (S := S) (x := (some (gG S 0 0))) X w h.v10 wF_X10_12 (h.f160) dX10_deskFact_115 ?_
    refine g_0_1 (S := S) (x := (some (gG S 17 1))) X w h.v0 wF_X10_101 (h.f1) dX10_deskFact_118 ?_
    refine cV (S := S) (nA := 0) (As := []) (rest := []) X w hl h.l_jm.1 (m_size G S ea 1 nj h.l_jm) wY_Jx4a65c_size_8abf5 wM_X10_66 wIn_Jx4a65c_size_8abf5 wSe_Jx4a65c_Jx4a65c_size_8abf5 wI_Jx4a65c (by decide) rfl (by decide +kernel) rfl rfl dX10_deskFact_121 ⟨by decide, by decide⟩ (Nat.le_of_ble_eq_true rfl) (⟨Nat.le_of_ble_eq_true rfl, Nat.le_of_ble_eq_true rfl⟩) (fun v5 S1 H locs hp w => ?_)
    obtain ⟨rfl, rfl⟩ := hp
    exact rI X w rfl dX10_deskFact_124 (by decide) (by decide) (px_i)
  by_cases hw1_5 : (what : Int32).toInt = 5
  · refine lv_tableIn (off := 124) (tgt := 125) hx hb dX10_deskFact_1 (by omega) (by omega) (by rw [hw1_5]; rfl) (by decide) ?_
    refine lv_aload_n hx hb dX10_deskFact_125 rfl (lv_at hl 0 rfl) ?_
    refine g_10_1 (S := S) (x := (some (gG S 7 0))) X w h.v10 wF_X10_21 (h.f161) dX10_deskFact_126 ?_
    refine g_7_1 (S := S) (x := (some (gG S 17 2))) X w h.v7 wF_X10_124 (h.f113) dX10_deskFact_129 ?_
    refine cV (S := S) (nA := 0) (As := []) (rest := []) X w hl h.l_mo.1 (m_size G S ea 2 nm h.l_mo) wY_Jx4a65c_size_8abf5 wM_X10_66 wIn_Jx4a65c_size_8abf5 wSe_Jx4a65c_Jx4a65c_size_8abf5 wI_Jx4a65c (by decide) rfl (by decide +kernel) rfl rfl dX10_deskFact_132 ⟨by decide, by decide⟩ (Nat.le_of_ble_eq_true rfl) (⟨Nat.le_of_ble_eq_true rfl, Nat.le_of_ble_eq_true rfl⟩) (fun v6 S1 H locs hp w => ?_)
    obtain ⟨rfl, rfl⟩ := hp
    exact rI X w rfl dX10_deskFact_135 (by decide) (by decide) (px_i)
  by_cases hw1_6 : (what : Int32).toInt = 6
  · refine lv_tableIn (off := 135) (tgt := 136) hx hb dX10_deskFact_1 (by omega) (by omega) (by rw [hw1_6]; rfl) (by decide) ?_
    refine lv_aload_n hx hb dX10_deskFact_136 rfl (lv_at hl 0 rfl) ?_
    refine g_10_2 (S := S) (x := (some (gG S 4 0))) X w h.v10 wF_X10_28 (h.f162) dX10_deskFact_137 ?_
    refine g_4_0 (S := S) (x := (some (gG S 17 3))) X w h.v4 wF_X10_162 (h.f64) dX10_deskFact_140 ?_
    refine cV (S := S) (nA := 0) (As := []) (rest := []) X w hl h.l_ta.1 (m_size G S ea 3 nt h.l_ta) wY_Jx4a65c_size_8abf5 wM_X10_66 wIn_Jx4a65c_size_8abf5 wSe_Jx4a65c_Jx4a65c_size_8abf5 wI_Jx4a65c (by decide) rfl (by decide +kernel) rfl rfl dX10_deskFact_143 ⟨by decide, by decide⟩ (Nat.le_of_ble_eq_true rfl) (⟨Nat.le_of_ble_eq_true rfl, Nat.le_of_ble_eq_true rfl⟩) (fun v7 S1 H locs hp w => ?_)
    obtain ⟨rfl, rfl⟩ := hp
    exact rI X w rfl dX10_deskFact_146 (by decide) (by decide) (px_i)
  by_cases hw1_7 : (what : Int32).toInt = 7
  · refine lv_tableIn (off := 146) (tgt := 147) hx hb dX10_deskFact_1 (by omega) (by omega) (by rw [hw1_7]; rfl) (by decide) ?_
    refine lv_aload_n hx hb dX10_deskFact_147 rfl (lv_at hl 0 rfl) ?_
    refine g_10_2 (S := S) (x := (some (gG S 4 0))) X w h.v10 wF_X10_28 (h.f162) dX10_deskFact_148 ?_
    refine cV (S := S) (nA := 0) (As := []) (rest := []) X w hl h.v4 (m_X4_countReports G S ea ns nj nm nt nr nc h ) wY_X4_countReports wM_X10_521 wIn_X4_countReports wSe_X4_X4_countReports wI_X4 (by decide) rfl (by decide +kernel) rfl rfl dX10_deskFact_151 ⟨by decide, by decide⟩ (Nat.le_of_ble_eq_true rfl) (⟨Nat.le_of_ble_eq_true rfl, Nat.le_of_ble_eq_true rfl⟩) (fun v9 S1 H locs hp w => ?_)
    obtain ⟨⟨x8, rfl⟩, rfl⟩ := hp
    exact rI X w rfl dX10_deskFact_154 (by decide) (by decide) (px_i)
  by_cases hw1_8 : (what : Int32).toInt = 8
  · refine lv_tableIn (off := 154) (tgt := 155) hx hb dX10_deskFact_1 (by omega) (by omega) (by rw [hw1_8]; rfl) (by decide) ?_
    refine lv_aload_n hx hb dX10_deskFact_155 rfl (lv_at hl 0 rfl) ?_
    refine g_10_2 (S := S) (x := (some (gG S 4 0))) X w h.v10 wF_X10_28 (h.f162) dX10_deskFact_156 ?_
    refine lv_iconst (v := 0) hx hb dX10_deskFact_159 (by decide) ?_
    refine cV (S := S) (nA := 1) (As := [.int 0]) (rest := []) X w hl h.v4 (m_X4_countThatStand G S ea ns nj nm nt nr nc h 0) wY_X4_countThatStand wM_X10_524 wIn_X4_countThatStand wSe_X4_X4_countThatStand wI_X4 (by decide) rfl (by decide +kernel) rfl rfl dX10_deskFact_160 ⟨by decide, by decide⟩ (Nat.le_of_ble_eq_true rfl) (⟨Nat.le_of_ble_eq_true rfl, Nat.le_of_ble_eq_true rfl⟩) (fun v11 S1 H locs hp w => ?_)
    obtain ⟨⟨x10, rfl⟩, rfl⟩ := hp
    exact rI X w rfl dX10_deskFact_163 (by decide) (by decide) (px_i)
  by_cases hw1_9 : (what : Int32).toInt = 9
  · refine lv_tableIn (off := 163) (tgt := 164) hx hb dX10_deskFact_1 (by omega) (by omega) (by rw [hw1_9]; rfl) (by decide) ?_
    refine lv_aload_n hx hb dX10_deskFact_164 rfl (lv_at hl 0 rfl) ?_
    refine g_10_2 (S := S) (x := (some (gG S 4 0))) X w h.v10 wF_X10_28 (h.f162) dX10_deskFact_165 ?_
    refine lv_iconst (v := 1) hx hb dX10_deskFact_168 (by decide) ?_
    refine cV (S := S) (nA := 1) (As := [.int 1]) (rest := []) X w hl h.v4 (m_X4_countThatStand G S ea ns nj nm nt nr nc h 1) wY_X4_countThatStand wM_X10_524 wIn_X4_countThatStand wSe_X4_X4_countThatStand wI_X4 (by decide) rfl (by decide +kernel) rfl rfl dX10_deskFact_169 ⟨by decide, by decide⟩ (Nat.le_of_ble_eq_true rfl) (⟨Nat.le_of_ble_eq_true rfl, Nat.le_of_ble_eq_true rfl⟩) (fun v13 S1 H locs hp w => ?_)
    obtain ⟨⟨x12, rfl⟩, rfl⟩ := hp
    exact rI X w rfl dX10_deskFact_172 (by decide) (by decide) (px_i)
  by_cases hw1_10 : (what : Int32).toInt = 10
  · refine lv_tableIn (off := 172) (tgt := 173) hx hb dX10_deskFact_1 (by omega) (by omega) (by rw [hw1_10]; rfl) (by decide) ?_
    refine lv_aload_n hx hb dX10_deskFact_173 rfl (lv_at hl 0 rfl) ?_
    refine g_10_2 (S := S) (x := (some (gG S 4 0))) X w h.v10 wF_X10_28 (h.f162) dX10_deskFact_174 ?_
    refine lv_iconst (v := 2) hx hb dX10_deskFact_177 (by decide) ?_
    refine cV (S := S) (nA := 1) (As := [.int 2]) (rest := []) X w hl h.v4 (m_X4_countThatStand G S ea ns nj nm nt nr nc h 2) wY_X4_countThatStand wM_X10_524 wIn_X4_countThatStand wSe_X4_X4_countThatStand wI_X4 (by decide) rfl (by decide +kernel) rfl rfl dX10_deskFact_178 ⟨by decide, by decide⟩ (Nat.le_of_ble_eq_true rfl) (⟨Nat.le_of_ble_eq_true rfl, Nat.le_of_ble_eq_true rfl⟩) (fun v15 S1 H locs hp w => ?_)
    obtain ⟨⟨x14, rfl⟩, rfl⟩ := hp
    exact rI X w rfl dX10_deskFact_181 (by decide) (by decide) (px_i)
  by_cases hw1_11 : (what : Int32).toInt = 11
  · refine lv_tableIn (off := 181) (tgt := 182) hx hb dX10_deskFact_1 (by omega) (by omega) (by rw [hw1_11]; rfl) (by decide) ?_
    refine lv_aload_n hx hb dX10_deskFact_182 rfl (lv_at hl 0 rfl) ?_
    refine g_10_2 (S := S) (x := (some (gG S 4 0))) X w h.v10 wF_X10_28 (h.f162) dX10_deskFact_183 ?_
    refine lv_iconst (v := 3) hx hb dX10_deskFact_186 (by decide) ?_
    refine cV (S := S) (nA := 1) (As := [.int 3]) (rest := []) X w hl h.v4 (m_X4_countThatStand G S ea ns nj nm nt nr nc h 3) wY_X4_countThatStand wM_X10_524 wIn_X4_countThatStand wSe_X4_X4_countThatStand wI_X4 (by decide) rfl (by decide +kernel) rfl rfl dX10_deskFact_187 ⟨by decide, by decide⟩ (Nat.le_of_ble_eq_true rfl) (⟨Nat.le_of_ble_eq_true rfl, Nat.le_of_ble_eq_true rfl⟩) (fun v17 S1 H locs hp w => ?_)
    obtain ⟨⟨x16, rfl⟩, rfl⟩ := hp
    exact rI X w rfl dX10_deskFact_190 (by decide) (by decide) (px_i)
  by_cases hw1_12 : (what : Int32).toInt = 12
  · refine lv_tableIn (off := 190) (tgt := 191) hx hb dX10_deskFact_1 (by omega) (by omega) (by rw [hw1_12]; rfl) (by decide) ?_
    refine lv_aload_n hx hb dX10_deskFact_191 rfl (lv_at hl 0 rfl) ?_
    refine g_10_2 (S := S) (x := (some (gG S 4 0))) X w h.v10 wF_X10_28 (h.f162) dX10_deskFact_192 ?_
    refine lv_iconst (v := 4) hx hb dX10_deskFact_195 (by decide) ?_
    refine cV (S := S) (nA := 1) (As := [.int 4]) (rest := []) X w hl h.v4 (m_X4_countThatStand G S ea ns nj nm nt nr nc h 4) wY_X4_countThatStand wM_X10_524 wIn_X4_countThatStand wSe_X4_X4_countThatStand wI_X4 (by decide) rfl (by decide +kernel) rfl rfl dX10_deskFact_196 ⟨by decide, by decide⟩ (Nat.le_of_ble_eq_true rfl) (⟨Nat.le_of_ble_eq_true rfl, Nat.le_of_ble_eq_true rfl⟩) (fun v19 S1 H locs hp w => ?_)
    obtain ⟨⟨x18, rfl⟩, rfl⟩ := hp
    exact rI X w rfl dX10_deskFact_199 (by decide) (by decide) (px_i)
  by_cases hw1_13 : (what : Int32).toInt = 13
  · refine lv_tableIn (off := 199) (tgt := 200) hx hb dX10_deskFact_1 (by omega) (by omega) (by rw [hw1_13]; rfl) (by decide) ?_
    refine lv_aload_n hx hb dX10_deskFact_200 rfl (lv_at hl 0 rfl) ?_
    refine g_10_2 (S := S) (x := (some (gG S 4 0))) X w h.v10 wF_X10_28 (h.f162) dX10_deskFact_201 ?_
    refine g_4_5 (S := S) (x := (mI S 69 0)) X w h.v4 wF_X10_437 (rfl) dX10_deskFact_204 ?_
    exact rI X w rfl dX10_deskFact_207 (by decide) (by decide) (px_i)
  by_cases hw1_14 : (what : Int32).toInt = 14
  · refine lv_tableIn (off := 207) (tgt := 208) hx hb dX10_deskFact_1 (by omega) (by omega) (by rw [hw1_14]; rfl) (by decide) ?_
    refine lv_aload_n hx hb dX10_deskFact_208 rfl (lv_at hl 0 rfl) ?_
    refine g_10_2 (S := S) (x := (some (gG S 4 0))) X w h.v10 wF_X10_28 (h.f162) dX10_deskFact_209 ?_
    refine g_4_2 (S := S) (x := (some (gG S 17 5))) X w h.v4 wF_X10_527 (h.f66) dX10_deskFact_212 ?_
    refine cV (S := S) (nA := 0) (As := []) (rest := []) X w hl h.l_co.1 (m_size G S ea 5 nc h.l_co) wY_Jx4a65c_size_8abf5 wM_X10_66 wIn_Jx4a65c_size_8abf5 wSe_Jx4a65c_Jx4a65c_size_8abf5 wI_Jx4a65c (by decide) rfl (by decide +kernel) rfl rfl dX10_deskFact_215 ⟨by decide, by decide⟩ (Nat.le_of_ble_eq_true rfl) (⟨Nat.le_of_ble_eq_true rfl, Nat.le_of_ble_eq_true rfl⟩) (fun v20 S1 H locs hp w => ?_)
    obtain ⟨rfl, rfl⟩ := hp
    refine lv_aload_n hx hb dX10_deskFact_218 rfl (lv_at hl 0 rfl) ?_
    refine g_10_2 (S := S) (x := (some (gG S 4 0))) X w h.v10 wF_X10_28 (h.f162) dX10_deskFact_219 ?_
    refine g_4_3 (S := S) (x := (mI S 67 0)) X w h.v4 wF_X10_530 (rfl) dX10_deskFact_222 ?_
    refine lv_isub hx hb dX10_deskFact_225 ?_
    exact rI X w rfl dX10_deskFact_226 (by decide) (by decide) (px_i)
  by_cases hw1_15 : (what : Int32).toInt = 15
  · refine lv_tableIn (off := 226) (tgt := 227) hx hb dX10_deskFact_1 (by omega) (by omega) (by rw [hw1_15]; rfl) (by decide) ?_
    refine lv_aload_n hx hb dX10_deskFact_227 rfl (lv_at hl 0 rfl) ?_
    refine g_10_2 (S := S) (x := (some (gG S 4 0))) X w h.v10 wF_X10_28 (h.f162) dX10_deskFact_228 ?_
    refine g_4_3 (S := S) (x := (mI S 67 0)) X w h.v4 wF_X10_530 (rfl) dX10_deskFact_231 ?_
    exact rI X w rfl dX10_deskFact_234 (by decide) (by decide) (px_i)
  by_cases hw1_16 : (what : Int32).toInt = 16
  · refine lv_tableIn (off := 234) (tgt := 235) hx hb dX10_deskFact_1 (by omega) (by omega) (by rw [hw1_16]; rfl) (by decide) ?_
    refine lv_aload_n hx hb dX10_deskFact_235 rfl (lv_at hl 0 rfl) ?_
    refine g_10_2 (S := S) (x := (some (gG S 4 0))) X w h.v10 wF_X10_28 (h.f162) dX10_deskFact_236 ?_
    refine g_4_1 (S := S) (x := (some (gG S 17 4))) X w h.v4 wF_X10_207 (h.f65) dX10_deskFact_239 ?_
    refine cV (S := S) (nA := 0) (As := []) (rest := []) X w hl h.l_re.1 (m_size G S ea 4 nr h.l_re) wY_Jx4a65c_size_8abf5 wM_X10_66 wIn_Jx4a65c_size_8abf5 wSe_Jx4a65c_Jx4a65c_size_8abf5 wI_Jx4a65c (by decide) rfl (by decide +kernel) rfl rfl dX10_deskFact_242 ⟨by decide, by decide⟩ (Nat.le_of_ble_eq_true rfl) (⟨Nat.le_of_ble_eq_true rfl, Nat.le_of_ble_eq_true rfl⟩) (fun v21 S1 H locs hp w => ?_)
    obtain ⟨rfl, rfl⟩ := hp
    exact rI X w rfl dX10_deskFact_245 (by decide) (by decide) (px_i)
  by_cases hw1_17 : (what : Int32).toInt = 17
  · refine lv_tableIn (off := 245) (tgt := 246) hx hb dX10_deskFact_1 (by omega) (by omega) (by rw [hw1_17]; rfl) (by decide) ?_
    refine lv_aload_n hx hb dX10_deskFact_246 rfl (lv_at hl 0 rfl) ?_
    refine g_10_2 (S := S) (x := (some (gG S 4 0))) X w h.v10 wF_X10_28 (h.f162) dX10_deskFact_247 ?_
    refine g_4_6 (S := S) (x := (mI S 70 0)) X w h.v4 wF_X10_234 (rfl) dX10_deskFact_250 ?_
    exact rI X w rfl dX10_deskFact_253 (by decide) (by decide) (px_i)
  refine lv_tableOut (tgt := 254) hx hb dX10_deskFact_1 (by omega) (by decide) ?_
  refine lv_aload_n hx hb dX10_deskFact_254 rfl (lv_at hl 0 rfl) ?_
  refine g_10_5 (S := S) (x := (mI S 165 0)) X w h.v10 wF_X10_45 (rfl) dX10_deskFact_255 ?_
  exact rI X w rfl dX10_deskFact_258 (by decide) (by decide) (px_i)

theorem dX10_mixed_0 : decode cX10_mixed 0 = .ok (.lload_n 0, 1) := by decide +kernel
theorem dX10_mixed_1 : decode cX10_mixed 1 = .ok (.ldc2_w 549, 3) := by decide +kernel
theorem dX10_mixed_4 : decode cX10_mixed 4 = .ok (.lmul, 1) := by decide +kernel
theorem dX10_mixed_5 : decode cX10_mixed 5 = .ok (.lload_n 2, 1) := by decide +kernel
theorem dX10_mixed_6 : decode cX10_mixed 6 = .ok (.ladd, 1) := by decide +kernel
theorem dX10_mixed_7 : decode cX10_mixed 7 = .ok (.lreturn, 1) := by decide +kernel
abbrev rm_m_X10_mixed : Room := { frames := 0, cells := 0, slots := 0, locals := 0 }
set_option maxHeartbeats 4000000 in
set_option maxRecDepth 100000 in
theorem m_X10_mixed {s0 : State} {l : Launch} {D : va_G} {cy : Nat → ClassId} (G : Gl s0 l D cy) (S : HS) (ea ns nj nm nt nr nc : Nat) (h : CI ea S ns nj nm nt nr nc) (d v : Int64) : Ctr s0 l D cy yX10_mixed cX10_mixed 4 (some .long) rm_m_X10_mixed S [.long d, .long v] (PU S (some (.long (d * 31 + v)))) := by
  refine pro "CavershamShift" G rfl rfl (Nat.le_of_ble_eq_true rfl) (fun p e s m below meth c ls X w hnm hl => ?_)
  have hx := X.1
  have hb := X.2.1
  have hown := X.2.2.2.1
  have hts := X.2.2.2.2.1
  have hl : lv_has ls 4 [(0, .long d), (2, .long v)] := hl
  refine lv_lload_n hx hb dX10_mixed_0 rfl (lv_at hl 0 rfl) ?_
  refine lv_ldc2 hx hb hown (hts _ wK_X10_549) dX10_mixed_1 ?_
  refine lv_lmul hx hb dX10_mixed_4 ?_
  refine lv_lload_n hx hb dX10_mixed_5 rfl (lv_at hl 1 rfl) ?_
  refine lv_ladd hx hb dX10_mixed_6 ?_
  exact rL X w rfl dX10_mixed_7 (by decide) (by decide) (pu_l rfl)

