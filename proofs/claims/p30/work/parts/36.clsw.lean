theorem dX4_sendReports_128 : decode cX4_sendReports 128 = .ok (.aload_n 0, 1) := by decide +kernel
theorem dX4_sendReports_129 : decode cX4_sendReports 129 = .ok (.aload 8, 2) := by decide +kernel
theorem dX4_sendReports_131 : decode cX4_sendReports 131 = .ok (.aload 10, 2) := by decide +kernel
theorem dX4_sendReports_133 : decode cX4_sendReports 133 = .ok (.iload_n 1, 1) := by decide +kernel
theorem dX4_sendReports_134 : decode cX4_sendReports 134 = .ok (.invokevirtual 99, 3) := by decide +kernel
abbrev rm_m_X4_sendReports_r : Room := { frames := 9, cells := 40, slots := 1960, locals := 237 }
set_option maxHeartbeats 4000000 in
set_option maxRecDepth 100000 in
theorem m_X4_sendReports_r {s0 : State} {l : Launch} {D : va_G} {cy : Nat → ClassId} (G : Gl s0 l D cy) (S : HS) (ea ns nj nm nt nr nc : Nat) (h : CI ea S ns nj nm nt nr nc) (hea : ea = eaOf s0) (a : Int32) : Ctr s0 l D cy yX4_sendReports cX4_sendReports 11 (some .int) rm_m_X4_sendReports_r S [.ref (gG S 4 0), .int a, .int (mI S 69 0), .int 1] (fun v S' => (∃ x : Int32, some (.int x) = v) ∧ ∃ nc', CI ea S' ns nj nm nt nr nc' ∧ Kq (hidV false) hiH (hidR false) S S') := by
  refine pro "CavershamShift$Newsroom" G rfl rfl (Nat.le_of_ble_eq_true rfl) (fun p e s m below meth c ls X w hnm hl => ?_)
  have hx := X.1
  have hb := X.2.1
  have hown := X.2.2.2.1
  have hts := X.2.2.2.2.1
  have hl : lv_has ls 11 [(0, .ref (gG S 4 0)), (1, .int a), (2, .int (mI S 69 0)), (3, .int 1)] := hl
  have h0 := h
  have hK : Kq (hidV false) hiH (hidR false) S S := Kq.rf
  refine lv_iload_n hx hb dX4_sendReports_0 rfl (lv_at hl 2 rfl) ?_
  refine lv_istore (lv' := [(4, .int (mI S 69 0)), (0, .ref (gG S 4 0)), (1, .int a), (2, .int (mI S 69 0)), (3, .int 1)]) hx hb dX4_sendReports_1 hl (by decide) rfl (fun ls hl => ?_)
  refine lv_iconst (v := 0) hx hb dX4_sendReports_3 (by decide) ?_
  refine lv_istore (lv' := [(5, .int 0), (4, .int (mI S 69 0)), (0, .ref (gG S 4 0)), (1, .int a), (2, .int (mI S 69 0)), (3, .int 1)]) hx hb dX4_sendReports_4 hl (by decide) rfl (fun ls hl => ?_)
  refine lv_bipush (v := 9) hx hb dX4_sendReports_6 (by decide) ?_
  refine lv_istore (lv' := [(6, .int 9), (5, .int 0), (4, .int (mI S 69 0)), (0, .ref (gG S 4 0)), (1, .int a), (2, .int (mI S 69 0)), (3, .int 1)]) hx hb dX4_sendReports_8 hl (by decide) rfl (fun ls hl => ?_)
  have L10 : ∀ (N : Nat) (kw : Nat) (v4 : Int32) (v5 : Int32) (T10 : HS) (nc10 : Nat) (H : Heap) (locs : List Loc) (ls : Array Slot), kw < N → (kw ≤ 9) → (v4 = mI T10 69 0) → (CI ea T10 ns nj nm nt nr nc10) → (Kq (hidV false) hiH (hidR false) S T10) → Wd s0 D cy T10 s.heap H locs → lv_has ls 11 [(0, .ref (gG S 4 0)), (1, .int a), (2, .int (mI S 69 0)), (3, .int 1), (4, .int v4), (5, .int v5), (6, .int (nI kw))] → W p l e rm_m_X4_sendReports_r s m ([.ref (gG S 4 0), .int a, .int (mI S 69 0), .int 1] : List Value).toArray below meth c H locs (usd T10 nt) (49 * usd T10 nt) (MQ below (GQ s0 D cy (fun v S' => (∃ x : Int32, some (.int x) = v) ∧ ∃ nc', CI ea S' ns nj nm nt nr nc' ∧ Kq (hidV false) hiH (hidR false) S S')) ([.ref (gG S 4 0), .int a, .int (mI S 69 0), .int 1] : List Value).toArray s rm_m_X4_sendReports_r.cells rm_m_X4_sendReports_r.slots (A0 s0)) (F0 m 10 ls []) := by
    intro N
    induction N with
    | zero => intros; omega
    | succ N ih10 =>
      intro kw v4 v5 T10 nc10 H locs ls hmu hkw hw4 h hK_T10 w hl
      have hK := hK_T10
      refine lv_iload hx hb dX4_sendReports_10 (lv_at hl 6 rfl) ?_
      refine lv_iconst (v := 3) hx hb dX4_sendReports_12 (by decide) ?_
      refine lv_icmp_lt (tgt := 149) hx hb dX4_sendReports_13 (by decide) (fun hcw => ?_) (fun hcw => ?_)
      · refine lv_iload hx hb dX4_sendReports_149 (lv_at hl 5 rfl) ?_
        exact rI X w rfl dX4_sendReports_151 (Nat.le_trans (usd_le T10 nt) h.b_ta) (Nat.le_trans (Nat.mul_le_mul_left 49 (usd_le T10 nt)) (Nat.mul_le_mul_left 49 h.b_ta)) (⟨⟨_, rfl⟩, _, h, hK⟩)
      · have hw3 : 3 ≤ kw := Nat.le_of_not_lt (fun z => hcw ((nI_ltI (a := kw) (b := 3) (by omega) (by decide)).mpr z))
        refine lv_iconst (v := 0) hx hb dX4_sendReports_16 (by decide) ?_
        refine lv_istore (lv' := [(7, .int 0), (0, .ref (gG S 4 0)), (1, .int a), (2, .int (mI S 69 0)), (3, .int 1), (4, .int v4), (5, .int v5), (6, .int (nI kw))]) hx hb dX4_sendReports_17 hl (by decide) rfl (fun ls hl => ?_)
        have L19 : ∀ (N : Nat) (k19 : Nat) (v19_4 : Int32) (v19_5 : Int32) (T19 : HS) (nc19 : Nat) (H : Heap) (locs : List Loc) (ls : Array Slot), nt - k19 < N → (k19 ≤ nt) → (v19_4 = mI T19 69 0) → (CI ea T19 ns nj nm nt nr nc19) → (Kq (hidV false) hiH (hidR false) S T19) → Wd s0 D cy T19 s.heap H locs → lv_has ls 11 [(7, .int (nI k19)), (0, .ref (gG S 4 0)), (1, .int a), (2, .int (mI S 69 0)), (3, .int 1), (4, .int v19_4), (5, .int v19_5), (6, .int (nI kw))] → W p l e rm_m_X4_sendReports_r s m ([.ref (gG S 4 0), .int a, .int (mI S 69 0), .int 1] : List Value).toArray below meth c H locs (usd T19 nt) (49 * usd T19 nt) (MQ below (GQ s0 D cy (fun v S' => (∃ x : Int32, some (.int x) = v) ∧ ∃ nc', CI ea S' ns nj nm nt nr nc' ∧ Kq (hidV false) hiH (hidR false) S S')) ([.ref (gG S 4 0), .int a, .int (mI S 69 0), .int 1] : List Value).toArray s rm_m_X4_sendReports_r.cells rm_m_X4_sendReports_r.slots (A0 s0)) (F0 m 19 ls []) := by
          intro N
          induction N with
          | zero => intros; omega
          | succ N ih19 =>
            intro k19 v19_4 v19_5 T19 nc19 H locs ls hmu hk_k19 hw4 h hK_T19 w hl
            have hK := hK_T19
            refine lv_iload hx hb dX4_sendReports_19 (lv_at hl 0 rfl) ?_
            refine lv_aload_n hx hb dX4_sendReports_21 rfl (lv_at hl 1 rfl) ?_
            refine rE0 ((rfl).trans ((hK_T19.G (t := 4) (i := 0) rfl)).symm) ?_
            refine g_4_0 (S := T19) (x := (some (gG T19 17 3))) X w h.v4 wF_X4_12 (h.f64) dX4_sendReports_22 ?_
            refine cV (S := T19) (nA := 0) (As := []) (rest := [.int (nI k19)]) X w hl h.l_ta.1 (m_size G T19 ea 3 nt h.l_ta) wY_Jx4a65c_size_8abf5 wM_X4_28 wIn_Jx4a65c_size_8abf5 wSe_Jx4a65c_Jx4a65c_size_8abf5 wI_Jx4a65c (by decide) rfl (by decide +kernel) rfl rfl dX4_sendReports_25 ⟨by decide, by decide⟩ (Nat.le_of_ble_eq_true rfl) (⟨(show usd T19 nt + 0 ≤ 40 by have := usd_le T19 nt; have := h.b_ta; omega), (show 49 * usd T19 nt + 0 ≤ 1960 by have := usd_le T19 nt; have := h.b_ta; omega)⟩) (fun v1 S1 H locs hp w => ?_)
            obtain ⟨rfl, rfl⟩ := hp
            refine lv_icmp_ge (tgt := 143) hx hb dX4_sendReports_28 (by decide) (fun hc_k19 => ?_) (fun hc_k19 => ?_)
            · have hge_k19 : nt ≤ k19 := by
                have hb1 := h.b_ta
                exact (nI_leI (a := nt) (b := k19) (by omega) (by omega)).mp hc_k19
              refine lv_iinc (v := nI (kw - 1)) (lv' := [(6, .int (nI (kw - 1))), (7, .int (nI k19)), (0, .ref (gG S 4 0)), (1, .int a), (2, .int (mI S 69 0)), (3, .int 1), (4, .int v19_4), (5, .int v19_5)]) hx hb dX4_sendReports_143 hl (k := 7) rfl (by rw [show kw = (kw - 1) + 1 by omega]; exact pk_m1 _) (by decide) rfl (fun ls hl => ?_)
              refine lv_goto (tgt := 10) hx hb dX4_sendReports_146 (by decide) ?_
              exact ih10 (kw - 1) v19_4 v19_5 T19 nc19 _ _ _ (by omega) (by omega) (hw4) (h) (hK) w (lv_sub hl [2, 3, 4, 5, 6, 7, 0] rfl)
            · have hlt_k19 : k19 < nt := by
                have hb1 := h.b_ta
                exact Nat.lt_of_not_le (fun z => hc_k19 ((nI_leI (a := nt) (b := k19) (by omega) (by omega)).mpr z))
              refine lv_aload_n hx hb dX4_sendReports_31 rfl (lv_at hl 1 rfl) ?_
              refine rE0 ((rfl).trans ((hK_T19.G (t := 4) (i := 0) rfl)).symm) ?_
              refine g_4_0 (S := T19) (x := (some (gG T19 17 3))) X w h.v4 wF_X4_12 (h.f64) dX4_sendReports_32 ?_
              refine lv_iload hx hb dX4_sendReports_35 (lv_at hl 0 rfl) ?_
              refine cV (S := T19) (nA := 1) (As := [.int (nI k19)]) (rest := []) X w hl h.l_ta.1 (m_get G T19 ea 3 k19 nt (some (gG T19 9 k19)) h.l_ta hlt_k19 (h.e_ta k19 hlt_k19).1) wY_Jx4a65c_get_915e3 wM_X4_36 wIn_Jx4a65c_get_915e3 wSe_Jx4a65c_Jx4a65c_get_915e3 wI_Jx4a65c (by decide) rfl (by decide +kernel) rfl rfl dX4_sendReports_37 ⟨by decide, by decide⟩ (Nat.le_of_ble_eq_true rfl) (⟨(show usd T19 nt + 0 ≤ 40 by have := usd_le T19 nt; have := h.b_ta; omega), (show 49 * usd T19 nt + 0 ≤ 1960 by have := usd_le T19 nt; have := h.b_ta; omega)⟩) (fun v2 S1 H locs hp w => ?_)
              obtain ⟨rfl, rfl⟩ := hp
              refine ckC (S := T19) (t := 9) X w (h.e_ta k19 hlt_k19).2 (by decide) rfl wC_X4_40 dX4_sendReports_40 ?_
              refine lv_astore (lv' := [(8, .ref (gG T19 9 k19)), (7, .int (nI k19)), (0, .ref (gG S 4 0)), (1, .int a), (2, .int (mI S 69 0)), (3, .int 1), (4, .int v19_4), (5, .int v19_5), (6, .int (nI kw))]) hx hb dX4_sendReports_43 hl (by decide) rfl (fun ls hl => ?_)
              refine lv_aload hx hb dX4_sendReports_45 (lv_at hl 0 rfl) ?_
              refine g_9_5 (S := T19) (x := (mI T19 149 k19)) X w (h.e_ta k19 hlt_k19).2 wF_X4_89 (rfl) dX4_sendReports_47 ?_
              refine lv_iload hx hb dX4_sendReports_50 (lv_at hl 8 rfl) ?_
              refine lv_icmp_ne (tgt := 68) hx hb dX4_sendReports_52 (by decide) (fun hc3 => ?_) (fun hc3 => ?_)
              · refine lv_iconst (v := 0) hx hb dX4_sendReports_68 (by decide) ?_
                refine lv_istore (lv' := [(9, .int 0), (8, .ref (gG T19 9 k19)), (7, .int (nI k19)), (0, .ref (gG S 4 0)), (1, .int a), (2, .int (mI S 69 0)), (3, .int 1), (4, .int v19_4), (5, .int v19_5), (6, .int (nI kw))]) hx hb dX4_sendReports_69 hl (by decide) rfl (fun ls hl => ?_)
                refine lv_iload hx hb dX4_sendReports_71 (lv_at hl 0 rfl) ?_
                refine lv_if_eq (tgt := 93) hx hb dX4_sendReports_73 (by decide) (fun hc4 => ?_) (fun hc4 => ?_)
                · refine lv_null hx hb dX4_sendReports_93 ?_
                  refine lv_astoreN (lv' := [(10, .null), (9, .int 0), (8, .ref (gG T19 9 k19)), (7, .int (nI k19)), (0, .ref (gG S 4 0)), (1, .int a), (2, .int (mI S 69 0)), (3, .int 1), (4, .int v19_4), (5, .int v19_5), (6, .int (nI kw))]) hx hb dX4_sendReports_94 hl (by decide) rfl (fun ls hl => ?_)
                  refine lv_aloadN hx hb dX4_sendReports_96 (lv_at hl 0 rfl) ?_
                  refine lv_ifnullN (tgt := 137) hx hb dX4_sendReports_98 (by decide) ?_
                  refine lv_iinc (v := nI (k19 + 1)) (lv' := [(7, .int (nI (k19 + 1))), (10, .null), (9, .int 0), (8, .ref (gG T19 9 k19)), (0, .ref (gG S 4 0)), (1, .int a), (2, .int (mI S 69 0)), (3, .int 1), (4, .int v19_4), (5, .int v19_5), (6, .int (nI kw))]) hx hb dX4_sendReports_137 hl (k := 3) rfl (nI_1 _) (by decide) rfl (fun ls hl => ?_)
                  refine lv_goto (tgt := 19) hx hb dX4_sendReports_140 (by decide) ?_
                  exact ih19 (k19 + 1) v19_4 v19_5 T19 nc19 _ _ _ (by omega) (hlt_k19) (by first | exact hw4 | (rw [hw4]; exact e69c.symm)) (h) (hK) w (lv_sub hl [0, 4, 5, 6, 7, 8, 9, 10] rfl)
                · exact absurd hc4 (by decide)
              · refine lv_aload hx hb dX4_sendReports_55 (lv_at hl 0 rfl) ?_
                refine lv_iconst (v := 0) hx hb dX4_sendReports_57 (by decide) ?_
                refine cV (S := T19) (nA := 1) (As := [.int 0]) (rest := []) X w hl (h.e_ta k19 hlt_k19).2 (m_X9_hasReportThatStands G T19 ea ns nj nm nt nr nc19 h k19 hlt_k19 0) wY_X9_hasReportThatStands wM_X4_92 wIn_X9_hasReportThatStands wSe_X9_X9_hasReportThatStands wI_X9 (by decide) rfl (by decide +kernel) rfl rfl dX4_sendReports_58 ⟨by decide, by decide⟩ (Nat.le_of_ble_eq_true rfl) (⟨(show usd T19 nt + 0 ≤ 40 by have := usd_le T19 nt; have := h.b_ta; omega), (show 49 * usd T19 nt + 0 ≤ 1960 by have := usd_le T19 nt; have := h.b_ta; omega)⟩) (fun v5 S1 H locs hp w => ?_)
                obtain ⟨rfl, rfl⟩ := hp
                refine lv_if_eq (tgt := 68) hx hb dX4_sendReports_61 (by decide) (fun hnx => ?_) (fun hnx => ?_)
                · refine lv_iconst (v := 0) hx hb dX4_sendReports_68 (by decide) ?_
                  refine lv_istore (lv' := [(9, .int 0), (8, .ref (gG T19 9 k19)), (7, .int (nI k19)), (0, .ref (gG S 4 0)), (1, .int a), (2, .int (mI S 69 0)), (3, .int 1), (4, .int v19_4), (5, .int v19_5), (6, .int (nI kw))]) hx hb dX4_sendReports_69 hl (by decide) rfl (fun ls hl => ?_)
                  refine lv_iload hx hb dX4_sendReports_71 (lv_at hl 0 rfl) ?_
                  refine lv_if_eq (tgt := 93) hx hb dX4_sendReports_73 (by decide) (fun hc6 => ?_) (fun hc6 => ?_)
                  · refine lv_null hx hb dX4_sendReports_93 ?_
                    refine lv_astoreN (lv' := [(10, .null), (9, .int 0), (8, .ref (gG T19 9 k19)), (7, .int (nI k19)), (0, .ref (gG S 4 0)), (1, .int a), (2, .int (mI S 69 0)), (3, .int 1), (4, .int v19_4), (5, .int v19_5), (6, .int (nI kw))]) hx hb dX4_sendReports_94 hl (by decide) rfl (fun ls hl => ?_)
                    refine lv_aloadN hx hb dX4_sendReports_96 (lv_at hl 0 rfl) ?_
                    refine lv_ifnullN (tgt := 137) hx hb dX4_sendReports_98 (by decide) ?_
                    refine lv_iinc (v := nI (k19 + 1)) (lv' := [(7, .int (nI (k19 + 1))), (10, .null), (9, .int 0), (8, .ref (gG T19 9 k19)), (0, .ref (gG S 4 0)), (1, .int a), (2, .int (mI S 69 0)), (3, .int 1), (4, .int v19_4), (5, .int v19_5), (6, .int (nI kw))]) hx hb dX4_sendReports_137 hl (k := 3) rfl (nI_1 _) (by decide) rfl (fun ls hl => ?_)
                    refine lv_goto (tgt := 19) hx hb dX4_sendReports_140 (by decide) ?_
                    exact ih19 (k19 + 1) v19_4 v19_5 T19 nc19 _ _ _ (by omega) (hlt_k19) (by first | exact hw4 | (rw [hw4]; exact e69c.symm)) (h) (hK) w (lv_sub hl [0, 4, 5, 6, 7, 8, 9, 10] rfl)
                  · exact absurd hc6 (by decide)
                · have hpw : pW T19 k19 = true := b2i_t hnx
                  have hst0 : mI T19 104 k19 = 0 := by
                    have z := hpw
                    unfold pW at z
                    rw [Bool.and_eq_true] at z
                    exact of_decide_eq_true z.2
                  refine lv_iconst (v := 1) hx hb dX4_sendReports_64 (by decide) ?_
                  refine lv_goto (tgt := 69) hx hb dX4_sendReports_65 (by decide) ?_
                  refine lv_istore (lv' := [(9, .int 1), (8, .ref (gG T19 9 k19)), (7, .int (nI k19)), (0, .ref (gG S 4 0)), (1, .int a), (2, .int (mI S 69 0)), (3, .int 1), (4, .int v19_4), (5, .int v19_5), (6, .int (nI kw))]) hx hb dX4_sendReports_69 hl (by decide) rfl (fun ls hl => ?_)
                  refine lv_iload hx hb dX4_sendReports_71 (lv_at hl 0 rfl) ?_
                  refine lv_if_eq (tgt := 93) hx hb dX4_sendReports_73 (by decide) (fun hc7 => ?_) (fun hc7 => ?_)
                  · exact absurd hc7 (by decide)
                  · refine lv_aload hx hb dX4_sendReports_76 (lv_at hl 1 rfl) ?_
                    refine lv_iload_n hx hb dX4_sendReports_78 rfl (lv_at hl 4 rfl) ?_
                    refine cS (S := T19) (nA := 2) (As := [.ref (gG T19 9 k19), .int a]) (rest := []) X w hl (m_X4_isTooOld G T19 ea ns nj nm nt nr nc19 h k19 hlt_k19 a) wY_X4_isTooOld wM_X4_75 wSt_X4_isTooOld wI_X4 (by decide +kernel) rfl rfl dX4_sendReports_79 ⟨by decide, by decide⟩ (Nat.le_of_ble_eq_true rfl) (⟨(show usd T19 nt + 0 ≤ 40 by have := usd_le T19 nt; have := h.b_ta; omega), (show 49 * usd T19 nt + 0 ≤ 1960 by have := usd_le T19 nt; have := h.b_ta; omega)⟩) (fun v9 S1 H locs hp w => ?_)
                    obtain ⟨⟨x8, rfl⟩, rfl⟩ := hp
                    refine lv_if_ne (tgt := 93) hx hb dX4_sendReports_82 (by decide) (fun hc10 => ?_) (fun hc10 => ?_)
                    · refine lv_null hx hb dX4_sendReports_93 ?_
                      refine lv_astoreN (lv' := [(10, .null), (9, .int 1), (8, .ref (gG T19 9 k19)), (7, .int (nI k19)), (0, .ref (gG S 4 0)), (1, .int a), (2, .int (mI S 69 0)), (3, .int 1), (4, .int v19_4), (5, .int v19_5), (6, .int (nI kw))]) hx hb dX4_sendReports_94 hl (by decide) rfl (fun ls hl => ?_)
                      refine lv_aloadN hx hb dX4_sendReports_96 (lv_at hl 0 rfl) ?_
                      refine lv_ifnullN (tgt := 137) hx hb dX4_sendReports_98 (by decide) ?_
                      refine lv_iinc (v := nI (k19 + 1)) (lv' := [(7, .int (nI (k19 + 1))), (10, .null), (9, .int 1), (8, .ref (gG T19 9 k19)), (0, .ref (gG S 4 0)), (1, .int a), (2, .int (mI S 69 0)), (3, .int 1), (4, .int v19_4), (5, .int v19_5), (6, .int (nI kw))]) hx hb dX4_sendReports_137 hl (k := 3) rfl (nI_1 _) (by decide) rfl (fun ls hl => ?_)
                      refine lv_goto (tgt := 19) hx hb dX4_sendReports_140 (by decide) ?_
                      exact ih19 (k19 + 1) v19_4 v19_5 T19 nc19 _ _ _ (by omega) (hlt_k19) (by first | exact hw4 | (rw [hw4]; exact e69c.symm)) (h) (hK) w (lv_sub hl [0, 4, 5, 6, 7, 8, 9, 10] rfl)
                    · refine lv_aload hx hb dX4_sendReports_85 (lv_at hl 1 rfl) ?_
                      rcases h.t_rp k19 hlt_k19 with heX | ⟨hrpX, hvX⟩
                      · refine g_9_8 (S := T19) (x := none) X w (h.e_ta k19 hlt_k19).2 wF_X4_71 (heX) dX4_sendReports_87 ?_
                        refine lv_goto (tgt := 94) hx hb dX4_sendReports_90 (by decide) ?_
                        refine lv_astoreN (lv' := [(10, .null), (9, .int 1), (8, .ref (gG T19 9 k19)), (7, .int (nI k19)), (0, .ref (gG S 4 0)), (1, .int a), (2, .int (mI S 69 0)), (3, .int 1), (4, .int v19_4), (5, .int v19_5), (6, .int (nI kw))]) hx hb dX4_sendReports_94 hl (by decide) rfl (fun ls hl => ?_)
                        refine lv_aloadN hx hb dX4_sendReports_96 (lv_at hl 0 rfl) ?_
                        refine lv_ifnullN (tgt := 137) hx hb dX4_sendReports_98 (by decide) ?_
                        refine lv_iinc (v := nI (k19 + 1)) (lv' := [(7, .int (nI (k19 + 1))), (10, .null), (9, .int 1), (8, .ref (gG T19 9 k19)), (0, .ref (gG S 4 0)), (1, .int a), (2, .int (mI S 69 0)), (3, .int 1), (4, .int v19_4), (5, .int v19_5), (6, .int (nI kw))]) hx hb dX4_sendReports_137 hl (k := 3) rfl (nI_1 _) (by decide) rfl (fun ls hl => ?_)
                        refine lv_goto (tgt := 19) hx hb dX4_sendReports_140 (by decide) ?_
                        exact ih19 (k19 + 1) v19_4 v19_5 T19 nc19 _ _ _ (by omega) (hlt_k19) (by first | exact hw4 | (rw [hw4]; exact e69c.symm)) (h) (hK) w (lv_sub hl [0, 4, 5, 6, 7, 8, 9, 10] rfl)
                      · refine g_9_8 (S := T19) (x := (some (gG T19 6 k19))) X w (h.e_ta k19 hlt_k19).2 wF_X4_71 (hrpX) dX4_sendReports_87 ?_
                        refine lv_goto (tgt := 94) hx hb dX4_sendReports_90 (by decide) ?_
                        refine lv_astore (lv' := [(10, .ref (gG T19 6 k19)), (9, .int 1), (8, .ref (gG T19 9 k19)), (7, .int (nI k19)), (0, .ref (gG S 4 0)), (1, .int a), (2, .int (mI S 69 0)), (3, .int 1), (4, .int v19_4), (5, .int v19_5), (6, .int (nI kw))]) hx hb dX4_sendReports_94 hl (by decide) rfl (fun ls hl => ?_)
                        refine lv_aload hx hb dX4_sendReports_96 (lv_at hl 0 rfl) ?_
                        refine lv_ifnull hx hb dX4_sendReports_98 ?_
                        refine lv_aload hx hb dX4_sendReports_101 (lv_at hl 0 rfl) ?_
                        refine g_6_1 (S := T19) (x := (mI T19 97 k19)) X w hvX wF_X4_96 (rfl) dX4_sendReports_103 ?_
                        refine lv_iload hx hb dX4_sendReports_106 (lv_at hl 8 rfl) ?_
                        refine lv_icmp_gt (tgt := 137) hx hb dX4_sendReports_108 (by decide) (fun hlen => ?_) (fun hlen => ?_)
                        · refine lv_iinc (v := nI (k19 + 1)) (lv' := [(7, .int (nI (k19 + 1))), (10, .ref (gG T19 6 k19)), (9, .int 1), (8, .ref (gG T19 9 k19)), (0, .ref (gG S 4 0)), (1, .int a), (2, .int (mI S 69 0)), (3, .int 1), (4, .int v19_4), (5, .int v19_5), (6, .int (nI kw))]) hx hb dX4_sendReports_137 hl (k := 3) rfl (nI_1 _) (by decide) rfl (fun ls hl => ?_)
                          refine lv_goto (tgt := 19) hx hb dX4_sendReports_140 (by decide) ?_
                          exact ih19 (k19 + 1) v19_4 v19_5 T19 nc19 _ _ _ (by omega) (hlt_k19) (by first | exact hw4 | (rw [hw4]; exact e69c.symm)) (h) (hK) w (lv_sub hl [0, 4, 5, 6, 7, 8, 9, 10] rfl)
                        · have hle9 : ¬ mI T19 69 0 < mI T19 97 k19 := by rw [← hw4]; exact hlen
                          refine lv_iload hx hb dX4_sendReports_111 (lv_at hl 8 rfl) ?_
                          refine lv_aload hx hb dX4_sendReports_113 (lv_at hl 0 rfl) ?_
                          refine g_6_1 (S := T19) (x := (mI T19 97 k19)) X w hvX wF_X4_96 (rfl) dX4_sendReports_115 ?_
                          refine lv_isub hx hb dX4_sendReports_118 ?_
                          refine lv_istore (lv' := [(4, .int (v19_4 - (mI T19 97 k19))), (10, .ref (gG T19 6 k19)), (9, .int 1), (8, .ref (gG T19 9 k19)), (7, .int (nI k19)), (0, .ref (gG S 4 0)), (1, .int a), (2, .int (mI S 69 0)), (3, .int 1), (5, .int v19_5), (6, .int (nI kw))]) hx hb dX4_sendReports_119 hl (by decide) rfl (fun ls hl => ?_)
                          refine lv_iinc (v := (v19_5 + 1)) (lv' := [(5, .int (v19_5 + 1)), (4, .int (v19_4 - (mI T19 97 k19))), (10, .ref (gG T19 6 k19)), (9, .int 1), (8, .ref (gG T19 9 k19)), (7, .int (nI k19)), (0, .ref (gG S 4 0)), (1, .int a), (2, .int (mI S 69 0)), (3, .int 1), (6, .int (nI kw))]) hx hb dX4_sendReports_121 hl (k := 9) rfl (rfl) (by decide) rfl (fun ls hl => ?_)
                          refine lv_iload_n hx hb dX4_sendReports_124 rfl (lv_at hl 9 rfl) ?_
                          refine lv_if_eq (tgt := 137) hx hb dX4_sendReports_125 (by decide) (fun hc12 => ?_) (fun hc12 => ?_)
                          · exact absurd hc12 (by decide)
                          · refine lv_aload_n hx hb dX4_sendReports_128 rfl (lv_at hl 6 rfl) ?_
                            refine lv_aload hx hb dX4_sendReports_129 (lv_at hl 4 rfl) ?_
                            refine lv_aload hx hb dX4_sendReports_131 (lv_at hl 2 rfl) ?_
                            refine lv_iload_n hx hb dX4_sendReports_133 rfl (lv_at hl 7 rfl) ?_
                            refine rE3 ((rfl).trans ((hK_T19.G (t := 4) (i := 0) rfl)).symm) ?_
                            refine cV (S := T19) (nA := 3) (As := [.ref (gG T19 9 k19), .ref (gG T19 6 k19), .int a]) (rest := []) X w hl h.v4 (m_X4_markSent G T19 ea ns nj nm nt nr nc19 h k19 hlt_k19 (hvX) (hrpX) (hst0) (hle9) (hea) a) wY_X4_markSent wM_X4_99 wIn_X4_markSent wSe_X4_X4_markSent wI_X4 (by decide) rfl (by decide +kernel) rfl rfl dX4_sendReports_134 ⟨by decide, by decide⟩ (Nat.le_of_ble_eq_true rfl) (⟨(show usd T19 nt + 1 ≤ 40 from Nat.le_trans (usd_lt hlt_k19 hpw) h.b_ta), (show 49 * usd T19 nt + 49 ≤ 1960 by have := Nat.le_trans (usd_lt hlt_k19 hpw) h.b_ta; omega)⟩) (fun v16 U13 H locs hp w => ?_)
                            obtain ⟨rfl, nc14, h, hkU13, e104c, e69c⟩ := hp
                            have hK_U13 : Kq (hidV false) hiH (hidR false) S U13 := hK.tr hkU13
                            have hK := hK_U13
                            have husU : usd T19 nt + 1 ≤ usd U13 nt := usd_s hlt_k19 hpw (fun i => hkU13.R rfl) e104c
                            refine lv_iinc (v := nI (k19 + 1)) (lv' := [(7, .int (nI (k19 + 1))), (5, .int (v19_5 + 1)), (4, .int (v19_4 - (mI T19 97 k19))), (10, .ref (gG T19 6 k19)), (9, .int 1), (8, .ref (gG T19 9 k19)), (0, .ref (gG S 4 0)), (1, .int a), (2, .int (mI S 69 0)), (3, .int 1), (6, .int (nI kw))]) hx hb dX4_sendReports_137 hl (k := 5) rfl (nI_1 _) (by decide) rfl (fun ls hl => ?_)
                            refine lv_goto (tgt := 19) hx hb dX4_sendReports_140 (by decide) ?_
                            refine W.widen (k := usd U13 nt) (n := 49 * usd U13 nt) (show usd T19 nt + 1 ≤ usd U13 nt from husU) (show 49 * usd T19 nt + 49 ≤ 49 * usd U13 nt by omega) ?_
                            exact ih19 (k19 + 1) (v19_4 - (mI T19 97 k19)) (v19_5 + 1) U13 nc14 _ _ _ (by omega) (hlt_k19) (by first | exact hw4 | (rw [hw4]; exact e69c.symm)) (h) (hK) w (lv_sub hl [0, 6, 7, 8, 9, 2, 1, 10] rfl)
        refine W.widen (k := usd T10 nt) (n := 49 * usd T10 nt) (Nat.le_refl _) (Nat.le_refl _) ?_
        exact L19 _ 0 v4 v5 T10 nc10 _ _ _ (Nat.lt_succ_self _) (Nat.zero_le _) (hw4) (h) (hK) w (lv_sub hl [0, 1, 2, 3, 4, 5, 6, 7] rfl)
  refine W.widen (k := usd S nt) (n := 49 * usd S nt) (Nat.zero_le _) (Nat.zero_le _) ?_
  exact L10 _ 9 (mI S 69 0) 0 S nc _ _ _ (Nat.lt_succ_self _) (Nat.le_refl _) (rfl) (h) (hK) w (lv_sub hl [3, 4, 5, 6, 2, 1, 0] rfl)

theorem dX4_sendCorrections_0 : decode cX4_sendCorrections 0 = .ok (.aload_n 0, 1) := by decide +kernel
theorem dX4_sendCorrections_1 : decode cX4_sendCorrections 1 = .ok (.getfield 122, 3) := by decide +kernel
theorem dX4_sendCorrections_4 : decode cX4_sendCorrections 4 = .ok (.aload_n 0, 1) := by decide +kernel
theorem dX4_sendCorrections_5 : decode cX4_sendCorrections 5 = .ok (.invokevirtual 86, 3) := by decide +kernel
theorem dX4_sendCorrections_8 : decode cX4_sendCorrections 8 = .ok (.iadd, 1) := by decide +kernel
theorem dX4_sendCorrections_9 : decode cX4_sendCorrections 9 = .ok (.istore_n 1, 1) := by decide +kernel
theorem dX4_sendCorrections_10 : decode cX4_sendCorrections 10 = .ok (.aload_n 0, 1) := by decide +kernel
theorem dX4_sendCorrections_11 : decode cX4_sendCorrections 11 = .ok (.getfield 122, 3) := by decide +kernel
theorem dX4_sendCorrections_14 : decode cX4_sendCorrections 14 = .ok (.istore_n 2, 1) := by decide +kernel
theorem dX4_sendCorrections_15 : decode cX4_sendCorrections 15 = .ok (.iload_n 2, 1) := by decide +kernel
theorem dX4_sendCorrections_16 : decode cX4_sendCorrections 16 = .ok (.iload_n 1, 1) := by decide +kernel
theorem dX4_sendCorrections_17 : decode cX4_sendCorrections 17 = .ok (.if_icmp .ge 55, 3) := by decide +kernel
theorem dX4_sendCorrections_20 : decode cX4_sendCorrections 20 = .ok (.iload_n 2, 1) := by decide +kernel
theorem dX4_sendCorrections_21 : decode cX4_sendCorrections 21 = .ok (.aload_n 0, 1) := by decide +kernel
theorem dX4_sendCorrections_22 : decode cX4_sendCorrections 22 = .ok (.getfield 21, 3) := by decide +kernel
theorem dX4_sendCorrections_25 : decode cX4_sendCorrections 25 = .ok (.invokevirtual 28, 3) := by decide +kernel
theorem dX4_sendCorrections_28 : decode cX4_sendCorrections 28 = .ok (.if_icmp .ge 44, 3) := by decide +kernel
theorem dX4_sendCorrections_31 : decode cX4_sendCorrections 31 = .ok (.aload_n 0, 1) := by decide +kernel
theorem dX4_sendCorrections_32 : decode cX4_sendCorrections 32 = .ok (.getfield 21, 3) := by decide +kernel
theorem dX4_sendCorrections_35 : decode cX4_sendCorrections 35 = .ok (.iload_n 2, 1) := by decide +kernel
theorem dX4_sendCorrections_36 : decode cX4_sendCorrections 36 = .ok (.invokevirtual 36, 3) := by decide +kernel
theorem dX4_sendCorrections_39 : decode cX4_sendCorrections 39 = .ok (.checkcast 40, 3) := by decide +kernel
theorem dX4_sendCorrections_42 : decode cX4_sendCorrections 42 = .ok (.getfield 71, 3) := by decide +kernel
theorem dX4_sendCorrections_45 : decode cX4_sendCorrections 45 = .ok (.astore_n 3, 1) := by decide +kernel
theorem dX4_sendCorrections_46 : decode cX4_sendCorrections 46 = .ok (.aload_n 3, 1) := by decide +kernel
theorem dX4_sendCorrections_47 : decode cX4_sendCorrections 47 = .ok (.ifnull 19, 3) := by decide +kernel
theorem dX4_sendCorrections_50 : decode cX4_sendCorrections 50 = .ok (.aload_n 3, 1) := by decide +kernel
theorem dX4_sendCorrections_51 : decode cX4_sendCorrections 51 = .ok (.iconst 2, 1) := by decide +kernel
theorem dX4_sendCorrections_52 : decode cX4_sendCorrections 52 = .ok (.putfield 131, 3) := by decide +kernel
theorem dX4_sendCorrections_55 : decode cX4_sendCorrections 55 = .ok (.aload_n 0, 1) := by decide +kernel
theorem dX4_sendCorrections_56 : decode cX4_sendCorrections 56 = .ok (.dup, 1) := by decide +kernel
theorem dX4_sendCorrections_57 : decode cX4_sendCorrections 57 = .ok (.getfield 24, 3) := by decide +kernel
theorem dX4_sendCorrections_60 : decode cX4_sendCorrections 60 = .ok (.bipush 10, 2) := by decide +kernel
theorem dX4_sendCorrections_62 : decode cX4_sendCorrections 62 = .ok (.isub, 1) := by decide +kernel
theorem dX4_sendCorrections_63 : decode cX4_sendCorrections 63 = .ok (.putfield 24, 3) := by decide +kernel
theorem dX4_sendCorrections_66 : decode cX4_sendCorrections 66 = .ok (.iinc 2 1, 3) := by decide +kernel
theorem dX4_sendCorrections_69 : decode cX4_sendCorrections 69 = .ok (.goto (-54), 3) := by decide +kernel
theorem dX4_sendCorrections_72 : decode cX4_sendCorrections 72 = .ok (.aload_n 0, 1) := by decide +kernel
theorem dX4_sendCorrections_73 : decode cX4_sendCorrections 73 = .ok (.iload_n 1, 1) := by decide +kernel
theorem dX4_sendCorrections_74 : decode cX4_sendCorrections 74 = .ok (.putfield 122, 3) := by decide +kernel
theorem dX4_sendCorrections_77 : decode cX4_sendCorrections 77 = .ok (.return_, 1) := by decide +kernel
abbrev rm_m_X4_sendCorrections : Room := { frames := 3, cells := 0, slots := 0, locals := 64 }
set_option maxHeartbeats 4000000 in
set_option maxRecDepth 100000 in
theorem m_X4_sendCorrections {s0 : State} {l : Launch} {D : va_G} {cy : Nat → ClassId} (G : Gl s0 l D cy) (S : HS) (ea ns nj nm nt nr nc : Nat) (h : CI ea S ns nj nm nt nr nc)  : Ctr s0 l D cy yX4_sendCorrections cX4_sendCorrections 4 none rm_m_X4_sendCorrections S [.ref (gG S 4 0)] (fun v S' => none = v ∧ CI ea S' ns nj nm nt nr nc ∧ Kq (hidV false) hiH (hidR false) S S') := by
  refine pro "CavershamShift$Newsroom" G rfl rfl (Nat.le_of_ble_eq_true rfl) (fun p e s m below meth c ls X w hnm hl => ?_)
  have hx := X.1
  have hb := X.2.1
  have hown := X.2.2.2.1
  have hts := X.2.2.2.2.1
  have hl : lv_has ls 4 [(0, .ref (gG S 4 0))] := hl
  have h0 := h
  have hK : Kq (hidV false) hiH (hidR false) S S := Kq.rf
  have hb9 := h.b_co
  obtain ⟨g, hg, hcs⟩ := h.x_cs
  obtain ⟨w0, r, hwl, hw0, hr1, hr2, hfit⟩ := fit_num h.x_wl hg h.b_co
  refine lv_aload_n hx hb dX4_sendCorrections_0 rfl (lv_at hl 0 rfl) ?_
  refine g_4_3 (S := S) (x := (nI g)) X w h.v4 wF_X4_122 (hcs) dX4_sendCorrections_1 ?_
  refine lv_aload_n hx hb dX4_sendCorrections_4 rfl (lv_at hl 0 rfl) ?_
  refine cV (S := S) (nA := 0) (As := []) (rest := [.int (nI g)]) X w hl h.v4 (m_X4_correctionsThatFit G S ea ns nj nm nt nr nc h ) wY_X4_correctionsThatFit wM_X4_86 wIn_X4_correctionsThatFit wSe_X4_X4_correctionsThatFit wI_X4 (by decide) rfl (by decide +kernel) rfl rfl dX4_sendCorrections_5 ⟨by decide, by decide⟩ (Nat.le_of_ble_eq_true rfl) (⟨Nat.le_of_ble_eq_true rfl, Nat.le_of_ble_eq_true rfl⟩) (fun v1 S1 H locs hp w => ?_)
  obtain ⟨rfl, rfl⟩ := hp
  refine lv_topi (fun z2 ez2 => ?_)
  obtain rfl : z2 = nI r := ez2.trans (by rw [hcs]; exact hfit)
  refine lv_iadd hx hb dX4_sendCorrections_8 ?_
  refine lv_topi (fun z3 ez3 => ?_)
  obtain rfl : z3 = nI (g + r) := ez3.trans (nI_add _ _)
  refine lv_istore_n (lv' := [(1, .int (nI (g + r))), (0, .ref (gG S 4 0))]) hx hb dX4_sendCorrections_9 rfl hl (by decide) rfl (fun ls hl => ?_)
  refine lv_aload_n hx hb dX4_sendCorrections_10 rfl (lv_at hl 1 rfl) ?_
  refine g_4_3 (S := S) (x := (nI g)) X w h.v4 wF_X4_122 (hcs) dX4_sendCorrections_11 ?_
  refine lv_istore_n (lv' := [(2, .int (nI g)), (1, .int (nI (g + r))), (0, .ref (gG S 4 0))]) hx hb dX4_sendCorrections_14 rfl hl (by decide) rfl (fun ls hl => ?_)
  have L15 : ∀ (N : Nat) (k : Nat) (wv : Nat) (T15 : HS) (H : Heap) (locs : List Loc) (ls : Array Slot), g + r - k < N → (k ≤ g + r) → (mI T15 69 0 = nI wv) → (10 * (g + r - k) ≤ wv) → (wv < 2147483648) → (CI ea T15 ns nj nm nt nr nc) → (Kq (hidV false) hiH (hidR false) S T15) → Wd s0 D cy T15 s.heap H locs → lv_has ls 4 [(0, .ref (gG S 4 0)), (1, .int (nI (g + r))), (2, .int (nI k))] → W p l e rm_m_X4_sendCorrections s m ([.ref (gG S 4 0)] : List Value).toArray below meth c H locs 0 0 (MQ below (GQ s0 D cy (fun v S' => none = v ∧ CI ea S' ns nj nm nt nr nc ∧ Kq (hidV false) hiH (hidR false) S S')) ([.ref (gG S 4 0)] : List Value).toArray s rm_m_X4_sendCorrections.cells rm_m_X4_sendCorrections.slots (A0 s0)) (F0 m 15 ls []) := by
    intro N
    induction N with
    | zero => intros; omega
    | succ N ih15 =>
      intro k wv T15 H locs ls hmu hk hw hw2 hw31 h hK_T15 w hl
      have hK := hK_T15
      refine lv_iload_n hx hb dX4_sendCorrections_15 rfl (lv_at hl 2 rfl) ?_
      refine lv_iload_n hx hb dX4_sendCorrections_16 rfl (lv_at hl 1 rfl) ?_
      refine lv_icmp_ge (tgt := 72) hx hb dX4_sendCorrections_17 (by decide) (fun hc17 => ?_) (fun hc17 => ?_)
      · refine lv_aload_n hx hb dX4_sendCorrections_72 rfl (lv_at hl 0 rfl) ?_
        refine lv_iload_n hx hb dX4_sendCorrections_73 rfl (lv_at hl 1 rfl) ?_
        refine rE1 ((rfl).trans ((hK_T15.G (t := 4) (i := 0) rfl)).symm) ?_
        refine p_4_3 (S := T15) (x := (nI (g + r))) X w h.v4 wF_X4_122 dX4_sendCorrections_74 (fun H locs w => ?_)
        have h : CI ea (sI T15 67 0 (nI (g + r))) ns nj nm nt nr nc := h.s67 (by omega)
        have hK : Kq (hidV false) hiH (hidR false) S (sI T15 67 0 (nI (g + r))) := hK.sI rfl
        exact rV X w rfl dX4_sendCorrections_77 (by decide) (by decide) (⟨rfl, h, hK⟩)
      · have hkr : k < g + r := Nat.lt_of_not_le (fun z => hc17 ((nI_leI (a := g + r) (b := k) (by omega) (by omega)).mpr z))
        refine lv_iload_n hx hb dX4_sendCorrections_20 rfl (lv_at hl 2 rfl) ?_
        refine lv_aload_n hx hb dX4_sendCorrections_21 rfl (lv_at hl 0 rfl) ?_
        refine rE0 ((rfl).trans ((hK_T15.G (t := 4) (i := 0) rfl)).symm) ?_
        refine g_4_2 (S := T15) (x := (some (gG T15 17 5))) X w h.v4 wF_X4_21 (h.f66) dX4_sendCorrections_22 ?_
        refine cV (S := T15) (nA := 0) (As := []) (rest := [.int (nI k)]) X w hl h.l_co.1 (m_size G T15 ea 5 nc h.l_co) wY_Jx4a65c_size_8abf5 wM_X4_28 wIn_Jx4a65c_size_8abf5 wSe_Jx4a65c_Jx4a65c_size_8abf5 wI_Jx4a65c (by decide) rfl (by decide +kernel) rfl rfl dX4_sendCorrections_25 ⟨by decide, by decide⟩ (Nat.le_of_ble_eq_true rfl) (⟨Nat.le_of_ble_eq_true rfl, Nat.le_of_ble_eq_true rfl⟩) (fun v4 S1 H locs hp w => ?_)
        obtain ⟨rfl, rfl⟩ := hp
        refine lv_icmp_ge (tgt := 72) hx hb dX4_sendCorrections_28 (by decide) (fun hc28 => ?_) (fun hc28 => ?_)
        · refine lv_aload_n hx hb dX4_sendCorrections_72 rfl (lv_at hl 0 rfl) ?_
          refine lv_iload_n hx hb dX4_sendCorrections_73 rfl (lv_at hl 1 rfl) ?_
          refine rE1 ((rfl).trans ((hK_T15.G (t := 4) (i := 0) rfl)).symm) ?_
          refine p_4_3 (S := T15) (x := (nI (g + r))) X w h.v4 wF_X4_122 dX4_sendCorrections_74 (fun H locs w => ?_)
          have h : CI ea (sI T15 67 0 (nI (g + r))) ns nj nm nt nr nc := h.s67 (by omega)
          have hK : Kq (hidV false) hiH (hidR false) S (sI T15 67 0 (nI (g + r))) := hK.sI rfl
          exact rV X w rfl dX4_sendCorrections_77 (by decide) (by decide) (⟨rfl, h, hK⟩)
        · have hkn : k < nc := Nat.lt_of_not_le (fun z => hc28 ((nI_leI (a := nc) (b := k) (by omega) (by omega)).mpr z))
          refine lv_aload_n hx hb dX4_sendCorrections_31 rfl (lv_at hl 0 rfl) ?_
          refine rE0 ((rfl).trans ((hK_T15.G (t := 4) (i := 0) rfl)).symm) ?_
          refine g_4_2 (S := T15) (x := (some (gG T15 17 5))) X w h.v4 wF_X4_21 (h.f66) dX4_sendCorrections_32 ?_
          refine lv_iload_n hx hb dX4_sendCorrections_35 rfl (lv_at hl 2 rfl) ?_
          obtain ⟨c5, hlc5, hec5⟩ := h.e_co k hkn
          refine cV (S := T15) (nA := 1) (As := [.int (nI k)]) (rest := []) X w hl h.l_co.1 (m_get G T15 ea 5 k nc (some (gG T15 9 c5)) h.l_co hkn hec5) wY_Jx4a65c_get_915e3 wM_X4_36 wIn_Jx4a65c_get_915e3 wSe_Jx4a65c_Jx4a65c_get_915e3 wI_Jx4a65c (by decide) rfl (by decide +kernel) rfl rfl dX4_sendCorrections_36 ⟨by decide, by decide⟩ (Nat.le_of_ble_eq_true rfl) (⟨Nat.le_of_ble_eq_true rfl, Nat.le_of_ble_eq_true rfl⟩) (fun v6 S1 H locs hp w => ?_)
          obtain ⟨rfl, rfl⟩ := hp
          refine ckC (S := T15) (t := 9) X w (h.e_ta c5 hlc5).2 (by decide) rfl wC_X4_40 dX4_sendCorrections_39 ?_
          rcases h.t_rp c5 hlc5 with her7 | ⟨her7, hvr7⟩
          · refine g_9_8 (S := T15) (x := none) X w (h.e_ta c5 hlc5).2 wF_X4_71 (her7) dX4_sendCorrections_42 ?_
            refine lv_astore_nN (lv' := [(3, .null), (0, .ref (gG S 4 0)), (1, .int (nI (g + r))), (2, .int (nI k))]) hx hb dX4_sendCorrections_45 rfl hl (by decide) rfl (fun ls hl => ?_)
            refine lv_aload_nN hx hb dX4_sendCorrections_46 rfl (lv_at hl 0 rfl) ?_
            refine lv_ifnullN (tgt := 66) hx hb dX4_sendCorrections_47 (by decide) ?_
            refine lv_iinc (v := nI (k + 1)) (lv' := [(2, .int (nI (k + 1))), (3, .null), (0, .ref (gG S 4 0)), (1, .int (nI (g + r)))]) hx hb dX4_sendCorrections_66 hl (k := 3) rfl (nI_1 _) (by decide) rfl (fun ls hl => ?_)
            refine lv_goto (tgt := 15) hx hb dX4_sendCorrections_69 (by decide) ?_
            exact ih15 (k + 1) wv T15 _ _ _ (by omega) (by omega) (by first | exact hw | rfl) (by omega) (by omega) (h) (hK) w (lv_sub hl [2, 3, 0] rfl)
          · refine g_9_8 (S := T15) (x := (some (gG T15 6 c5))) X w (h.e_ta c5 hlc5).2 wF_X4_71 (her7) dX4_sendCorrections_42 ?_
            refine lv_astore_n (lv' := [(3, .ref (gG T15 6 c5)), (0, .ref (gG S 4 0)), (1, .int (nI (g + r))), (2, .int (nI k))]) hx hb dX4_sendCorrections_45 rfl hl (by decide) rfl (fun ls hl => ?_)
            refine lv_aload_n hx hb dX4_sendCorrections_46 rfl (lv_at hl 0 rfl) ?_
            refine lv_ifnull hx hb dX4_sendCorrections_47 ?_
            refine lv_aload_n hx hb dX4_sendCorrections_50 rfl (lv_at hl 0 rfl) ?_
            refine lv_iconst (v := 2) hx hb dX4_sendCorrections_51 (by decide) ?_
            refine p_6_11 (S := T15) (x := 2) X w hvr7 wF_X4_131 dX4_sendCorrections_52 (fun H locs w => ?_)
            have h : CI ea (sI T15 107 c5 2) ns nj nm nt nr nc := h.stI (by decide)
            have hK : Kq (hidV false) hiH (hidR false) S (sI T15 107 c5 2) := hK.sI rfl
            refine lv_aload_n hx hb dX4_sendCorrections_55 rfl (lv_at hl 1 rfl) ?_
            refine lv_dup hx hb dX4_sendCorrections_56 rfl ?_
            refine rE0 ((rfl).trans ((hK_T15.G (t := 4) (i := 0) rfl)).symm) ?_
            refine g_4_5 (S := (sI T15 107 c5 2)) (x := (nI wv)) X w h.v4 wF_X4_24 (hw) dX4_sendCorrections_57 ?_
            refine lv_bipush (v := 10) hx hb dX4_sendCorrections_60 (by decide) ?_
            refine lv_isub hx hb dX4_sendCorrections_62 ?_
            refine lv_topi (fun z8 ez8 => ?_)
            obtain rfl : z8 = nI (wv - 10) := ez8.trans (pk_sub (a := wv) (b := 10) (by omega))
            refine rE1 ((rfl).trans ((hK_T15.G (t := 4) (i := 0) rfl)).symm) ?_
            refine p_4_5 (S := (sI T15 107 c5 2)) (x := (nI (wv - 10))) X w h.v4 wF_X4_24 dX4_sendCorrections_63 (fun H locs w => ?_)
            have h : CI ea (sI (sI T15 107 c5 2) 69 0 (nI (wv - 10))) ns nj nm nt nr nc := h.s69 (nI_pos (by omega))
            have hK : Kq (hidV false) hiH (hidR false) S (sI (sI T15 107 c5 2) 69 0 (nI (wv - 10))) := hK.sI rfl
            refine lv_iinc (v := nI (k + 1)) (lv' := [(2, .int (nI (k + 1))), (3, .ref (gG T15 6 c5)), (0, .ref (gG S 4 0)), (1, .int (nI (g + r)))]) hx hb dX4_sendCorrections_66 hl (k := 3) rfl (nI_1 _) (by decide) rfl (fun ls hl => ?_)
            refine lv_goto (tgt := 15) hx hb dX4_sendCorrections_69 (by decide) ?_
            exact ih15 (k + 1) (wv - 10) (sI (sI T15 107 c5 2) 69 0 (nI (wv - 10))) _ _ _ (by omega) (by omega) (by first | exact hw | rfl) (by omega) (by omega) (h) (hK) w (lv_sub hl [2, 3, 0] rfl)
  exact L15 _ g w0 S _ _ _ (Nat.lt_succ_self _) (by omega) (hwl) (by omega) (hw0) (h) (hK) w (lv_sub hl [2, 1, 0] rfl)

theorem dX4_runWire_0 : decode cX4_runWire 0 = .ok (.aload_n 0, 1) := by decide +kernel
theorem dX4_runWire_1 : decode cX4_runWire 1 = .ok (.invokevirtual 79, 3) := by decide +kernel
theorem dX4_runWire_4 : decode cX4_runWire 4 = .ok (.aload_n 0, 1) := by decide +kernel
theorem dX4_runWire_5 : decode cX4_runWire 5 = .ok (.iload_n 1, 1) := by decide +kernel
theorem dX4_runWire_6 : decode cX4_runWire 6 = .ok (.aload_n 0, 1) := by decide +kernel
theorem dX4_runWire_7 : decode cX4_runWire 7 = .ok (.getfield 24, 3) := by decide +kernel
theorem dX4_runWire_10 : decode cX4_runWire 10 = .ok (.iconst 1, 1) := by decide +kernel
theorem dX4_runWire_11 : decode cX4_runWire 11 = .ok (.invokevirtual 82, 3) := by decide +kernel
theorem dX4_runWire_14 : decode cX4_runWire 14 = .ok (.pop, 1) := by decide +kernel
theorem dX4_runWire_15 : decode cX4_runWire 15 = .ok (.return_, 1) := by decide +kernel
abbrev rm_m_X4_runWire : Room := { frames := 10, cells := 40, slots := 1960, locals := 267 }
set_option maxHeartbeats 4000000 in
set_option maxRecDepth 100000 in
theorem m_X4_runWire {s0 : State} {l : Launch} {D : va_G} {cy : Nat → ClassId} (G : Gl s0 l D cy) (S : HS) (ea ns nj nm nt nr nc : Nat) (h : CI ea S ns nj nm nt nr nc) (hea : ea = eaOf s0) (a : Int32) : Ctr s0 l D cy yX4_runWire cX4_runWire 2 none rm_m_X4_runWire S [.ref (gG S 4 0), .int a] (fun v S' => none = v ∧ ∃ nc', CI ea S' ns nj nm nt nr nc' ∧ Kq (hidV false) hiH (hidR false) S S') := by
  refine pro "CavershamShift$Newsroom" G rfl rfl (Nat.le_of_ble_eq_true rfl) (fun p e s m below meth c ls X w hnm hl => ?_)
  have hx := X.1
  have hb := X.2.1
  have hown := X.2.2.2.1
  have hts := X.2.2.2.2.1
  have hl : lv_has ls 2 [(0, .ref (gG S 4 0)), (1, .int a)] := hl
  have h0 := h
  have hK : Kq (hidV false) hiH (hidR false) S S := Kq.rf
  refine lv_aload_n hx hb dX4_runWire_0 rfl (lv_at hl 0 rfl) ?_
  refine cV (S := S) (nA := 0) (As := []) (rest := []) X w hl h.v4 (m_X4_sendCorrections G S ea ns nj nm nt nr nc h ) wY_X4_sendCorrections wM_X4_79 wIn_X4_sendCorrections wSe_X4_X4_sendCorrections wI_X4 (by decide) rfl (by decide +kernel) rfl rfl dX4_runWire_1 ⟨by decide, by decide⟩ (Nat.le_of_ble_eq_true rfl) (⟨Nat.le_of_ble_eq_true rfl, Nat.le_of_ble_eq_true rfl⟩) (fun v3 U1 H locs hp w => ?_)
  obtain ⟨rfl, h, hkU1⟩ := hp
  have hK_U1 : Kq (hidV false) hiH (hidR false) S U1 := hK.tr hkU1
  have hK := hK_U1
  refine lv_aload_n hx hb dX4_runWire_4 rfl (lv_at hl 0 rfl) ?_
  refine lv_iload_n hx hb dX4_runWire_5 rfl (lv_at hl 1 rfl) ?_
  refine lv_aload_n hx hb dX4_runWire_6 rfl (lv_at hl 0 rfl) ?_
  refine rE0 ((rfl).trans ((hK_U1.G (t := 4) (i := 0) rfl)).symm) ?_
  refine g_4_5 (S := U1) (x := (mI U1 69 0)) X w h.v4 wF_X4_24 (rfl) dX4_runWire_7 ?_
  refine lv_iconst (v := 1) hx hb dX4_runWire_10 (by decide) ?_
  refine rE3 ((rfl).trans ((hK_U1.G (t := 4) (i := 0) rfl)).symm) ?_
  refine cV (S := U1) (nA := 3) (As := [.int a, .int (mI U1 69 0), .int 1]) (rest := []) X w hl h.v4 (m_X4_sendReports_r G U1 ea ns nj nm nt nr nc h hea a) wY_X4_sendReports wM_X4_82 wIn_X4_sendReports wSe_X4_X4_sendReports wI_X4 (by decide) rfl (by decide +kernel) rfl rfl dX4_runWire_11 ⟨by decide, by decide⟩ (Nat.le_of_ble_eq_true rfl) (⟨Nat.le_of_ble_eq_true rfl, Nat.le_of_ble_eq_true rfl⟩) (fun v7 U4 H locs hp w => ?_)
  obtain ⟨⟨x6, rfl⟩, nc5, h, hkU4⟩ := hp
  have hK_U4 : Kq (hidV false) hiH (hidR false) S U4 := hK.tr hkU4
  have hK := hK_U4
  refine lv_pop hx hb dX4_runWire_14 rfl ?_
  exact rV X w rfl dX4_runWire_15 (by decide) (by decide) (⟨rfl, _, h, hK⟩)
