theorem dX16_next_0 : decode cX16_next 0 = .ok (.iconst (-1), 1) := by decide +kernel
theorem dX16_next_1 : decode cX16_next 1 = .ok (.istore_n 3, 1) := by decide +kernel
theorem dX16_next_2 : decode cX16_next 2 = .ok (.iconst 0, 1) := by decide +kernel
theorem dX16_next_3 : decode cX16_next 3 = .ok (.istore 4, 2) := by decide +kernel
theorem dX16_next_5 : decode cX16_next 5 = .ok (.iload 4, 2) := by decide +kernel
theorem dX16_next_7 : decode cX16_next 7 = .ok (.aload_n 0, 1) := by decide +kernel
theorem dX16_next_8 : decode cX16_next 8 = .ok (.getfield 26, 3) := by decide +kernel
theorem dX16_next_11 : decode cX16_next 11 = .ok (.invokeinterface 73 1, 5) := by decide +kernel
theorem dX16_next_16 : decode cX16_next 16 = .ok (.if_icmp .ge 141, 3) := by decide +kernel
theorem dX16_next_19 : decode cX16_next 19 = .ok (.aload_n 0, 1) := by decide +kernel
theorem dX16_next_20 : decode cX16_next 20 = .ok (.getfield 26, 3) := by decide +kernel
theorem dX16_next_23 : decode cX16_next 23 = .ok (.iload 4, 2) := by decide +kernel
theorem dX16_next_25 : decode cX16_next 25 = .ok (.invokeinterface 46 2, 5) := by decide +kernel
theorem dX16_next_30 : decode cX16_next 30 = .ok (.checkcast 105, 3) := by decide +kernel
theorem dX16_next_33 : decode cX16_next 33 = .ok (.astore 5, 2) := by decide +kernel
theorem dX16_next_35 : decode cX16_next 35 = .ok (.aload 5, 2) := by decide +kernel
theorem dX16_next_37 : decode cX16_next 37 = .ok (.getfield 144, 3) := by decide +kernel
theorem dX16_next_40 : decode cX16_next 40 = .ok (.ifCond .ne 111, 3) := by decide +kernel
theorem dX16_next_43 : decode cX16_next 43 = .ok (.aload_n 0, 1) := by decide +kernel
theorem dX16_next_44 : decode cX16_next 44 = .ok (.aload 5, 2) := by decide +kernel
theorem dX16_next_46 : decode cX16_next 46 = .ok (.invokevirtual 147, 3) := by decide +kernel
theorem dX16_next_49 : decode cX16_next 49 = .ok (.ifCond .ne 102, 3) := by decide +kernel
theorem dX16_next_52 : decode cX16_next 52 = .ok (.aload_n 2, 1) := by decide +kernel
theorem dX16_next_53 : decode cX16_next 53 = .ok (.iload 4, 2) := by decide +kernel
theorem dX16_next_55 : decode cX16_next 55 = .ok (.baload, 1) := by decide +kernel
theorem dX16_next_56 : decode cX16_next 56 = .ok (.ifCond .ne 95, 3) := by decide +kernel
theorem dX16_next_59 : decode cX16_next 59 = .ok (.aload 5, 2) := by decide +kernel
theorem dX16_next_61 : decode cX16_next 61 = .ok (.invokevirtual 151, 3) := by decide +kernel
theorem dX16_next_64 : decode cX16_next 64 = .ok (.iload_n 1, 1) := by decide +kernel
theorem dX16_next_65 : decode cX16_next 65 = .ok (.if_icmp .le 6, 3) := by decide +kernel
theorem dX16_next_68 : decode cX16_next 68 = .ok (.goto 83, 3) := by decide +kernel
theorem dX16_next_71 : decode cX16_next 71 = .ok (.iload_n 3, 1) := by decide +kernel
theorem dX16_next_72 : decode cX16_next 72 = .ok (.iconst (-1), 1) := by decide +kernel
theorem dX16_next_73 : decode cX16_next 73 = .ok (.if_icmp .eq 75, 3) := by decide +kernel
theorem dX16_next_76 : decode cX16_next 76 = .ok (.aload 5, 2) := by decide +kernel
theorem dX16_next_78 : decode cX16_next 78 = .ok (.invokevirtual 135, 3) := by decide +kernel
theorem dX16_next_81 : decode cX16_next 81 = .ok (.aload_n 0, 1) := by decide +kernel
theorem dX16_next_82 : decode cX16_next 82 = .ok (.getfield 26, 3) := by decide +kernel
theorem dX16_next_85 : decode cX16_next 85 = .ok (.iload_n 3, 1) := by decide +kernel
theorem dX16_next_86 : decode cX16_next 86 = .ok (.invokeinterface 46 2, 5) := by decide +kernel
theorem dX16_next_91 : decode cX16_next 91 = .ok (.checkcast 105, 3) := by decide +kernel
theorem dX16_next_94 : decode cX16_next 94 = .ok (.invokevirtual 135, 3) := by decide +kernel
theorem dX16_next_97 : decode cX16_next 97 = .ok (.if_icmp .gt 51, 3) := by decide +kernel
theorem dX16_next_100 : decode cX16_next 100 = .ok (.aload 5, 2) := by decide +kernel
theorem dX16_next_102 : decode cX16_next 102 = .ok (.invokevirtual 135, 3) := by decide +kernel
theorem dX16_next_105 : decode cX16_next 105 = .ok (.aload_n 0, 1) := by decide +kernel
theorem dX16_next_106 : decode cX16_next 106 = .ok (.getfield 26, 3) := by decide +kernel
theorem dX16_next_109 : decode cX16_next 109 = .ok (.iload_n 3, 1) := by decide +kernel
theorem dX16_next_110 : decode cX16_next 110 = .ok (.invokeinterface 46 2, 5) := by decide +kernel
theorem dX16_next_115 : decode cX16_next 115 = .ok (.checkcast 105, 3) := by decide +kernel
theorem dX16_next_118 : decode cX16_next 118 = .ok (.invokevirtual 135, 3) := by decide +kernel
theorem dX16_next_121 : decode cX16_next 121 = .ok (.if_icmp .ne 30, 3) := by decide +kernel
theorem dX16_next_124 : decode cX16_next 124 = .ok (.aload 5, 2) := by decide +kernel
theorem dX16_next_126 : decode cX16_next 126 = .ok (.getfield 154, 3) := by decide +kernel
theorem dX16_next_129 : decode cX16_next 129 = .ok (.aload_n 0, 1) := by decide +kernel
theorem dX16_next_130 : decode cX16_next 130 = .ok (.getfield 26, 3) := by decide +kernel
theorem dX16_next_133 : decode cX16_next 133 = .ok (.iload_n 3, 1) := by decide +kernel
theorem dX16_next_134 : decode cX16_next 134 = .ok (.invokeinterface 46 2, 5) := by decide +kernel
theorem dX16_next_139 : decode cX16_next 139 = .ok (.checkcast 105, 3) := by decide +kernel
theorem dX16_next_142 : decode cX16_next 142 = .ok (.getfield 154, 3) := by decide +kernel
theorem dX16_next_145 : decode cX16_next 145 = .ok (.if_icmp .le 6, 3) := by decide +kernel
theorem dX16_next_148 : decode cX16_next 148 = .ok (.iload 4, 2) := by decide +kernel
theorem dX16_next_150 : decode cX16_next 150 = .ok (.istore_n 3, 1) := by decide +kernel
theorem dX16_next_151 : decode cX16_next 151 = .ok (.iinc 4 1, 3) := by decide +kernel
theorem dX16_next_154 : decode cX16_next 154 = .ok (.goto (-149), 3) := by decide +kernel
theorem dX16_next_157 : decode cX16_next 157 = .ok (.iload_n 3, 1) := by decide +kernel
theorem dX16_next_158 : decode cX16_next 158 = .ok (.ireturn, 1) := by decide +kernel
abbrev rm_m_X16_next : Room := { frames := 3, cells := 0, slots := 0, locals := 64 }
set_option maxHeartbeats 4000000 in
set_option maxRecDepth 100000 in
theorem m_X16_next {s0 : State} {l : Launch} {D : va_G} {cy : Nat → ClassId} (G : Gl s0 l D cy) (S : HS) (ea ns nj nm nt nr nq : Nat) (h : RI ea S ns nj nm nt nr nq) (a : Int32) (hV4 : vV S 40 0) (hN4 : mN S 40 0 = nt) : Ctr s0 l D cy yX16_next cX16_next 6 (some .int) rm_m_X16_next S [.ref (gG S 16 0), .int a, .ref (gG S 40 0)] (fun v S' => (∃ x : Int32, (x = -1 ∨ ∃ b, b < nt ∧ mI S 247 b = 0 ∧ mA S 40 0 b = 0 ∧ x = nI b) ∧ some (.int x) = v) ∧ S = S') := by
  refine pro "CavershamShiftModel" G rfl rfl (Nat.le_of_ble_eq_true rfl) (fun p e s m below meth c ls X w hnm hl => ?_)
  have hx := X.1
  have hb := X.2.1
  have hown := X.2.2.2.1
  have hts := X.2.2.2.2.1
  have hl : lv_has ls 6 [(0, .ref (gG S 16 0)), (1, .int a), (2, .ref (gG S 40 0))] := hl
  refine lv_iconst (v := (-1)) hx hb dX16_next_0 (by decide) ?_
  refine lv_istore_n (lv' := [(3, .int (-1)), (0, .ref (gG S 16 0)), (1, .int a), (2, .ref (gG S 40 0))]) hx hb dX16_next_1 rfl hl (by decide) rfl (fun ls hl => ?_)
  refine lv_iconst (v := 0) hx hb dX16_next_2 (by decide) ?_
  refine lv_istore (lv' := [(4, .int 0), (3, .int (-1)), (0, .ref (gG S 16 0)), (1, .int a), (2, .ref (gG S 40 0))]) hx hb dX16_next_3 hl (by decide) rfl (fun ls hl => ?_)
  have L5 : ∀ (N : Nat) (k : Nat) (best : Int32) (H : Heap) (locs : List Loc) (ls : Array Slot), nt - k < N → (k ≤ nt) → (best = -1 ∨ ∃ b, b < nt ∧ mI S 247 b = 0 ∧ mA S 40 0 b = 0 ∧ best = nI b) → Wd s0 D cy S s.heap H locs → lv_has ls 6 [(0, .ref (gG S 16 0)), (1, .int a), (2, .ref (gG S 40 0)), (3, .int best), (4, .int (nI k))] → W p l e rm_m_X16_next s m ([.ref (gG S 16 0), .int a, .ref (gG S 40 0)] : List Value).toArray below meth c H locs 0 0 (MQ below (GQ s0 D cy (fun v S' => (∃ x : Int32, (x = -1 ∨ ∃ b, b < nt ∧ mI S 247 b = 0 ∧ mA S 40 0 b = 0 ∧ x = nI b) ∧ some (.int x) = v) ∧ S = S')) ([.ref (gG S 16 0), .int a, .ref (gG S 40 0)] : List Value).toArray s rm_m_X16_next.cells rm_m_X16_next.slots (A0 s0)) (F0 m 5 ls []) := by
    intro N
    induction N with
    | zero => intros; omega
    | succ N ih5 =>
      intro k best H locs ls hmu hk hB w hl
      refine lv_iload hx hb dX16_next_5 (lv_at hl 4 rfl) ?_
      refine lv_aload_n hx hb dX16_next_7 rfl (lv_at hl 0 rfl) ?_
      refine g_16_9 (S := S) (x := (some (gG S 17 9))) X w h.v wF_X16_26 (h.f_ta) dX16_next_8 ?_
      refine cF (S := S) (t := 17) (nA := 0) (As := []) (rest := [.int (nI k)]) X w hl h.l_ta.1 (m_size G S ea 9 nt h.l_ta) wY_Jx4a65c_size_8abf5 wM_X16_73 wIn_Jx4a65c_size_8abf5 wSe_Jx4a65c_Jx4a65c_size_8abf5_of_java_util_List_size___I wI_Jx4a65c fw_size (by decide) rfl (by decide +kernel) rfl rfl dX16_next_11 ⟨by decide, by decide⟩ (Nat.le_of_ble_eq_true rfl) (⟨Nat.le_of_ble_eq_true rfl, Nat.le_of_ble_eq_true rfl⟩) (fun v1 S1 H locs hp w => ?_)
      obtain ⟨rfl, rfl⟩ := hp
      refine lv_icmp_ge (tgt := 157) hx hb dX16_next_16 (by decide) (fun hc9 => ?_) (fun hc9 => ?_)
      · have hge : nt ≤ k := by
          have hb1 := h.b_ta
          exact (nI_leI (by omega) (by omega)).mp hc9
        refine lv_iload_n hx hb dX16_next_157 rfl (lv_at hl 3 rfl) ?_
        exact rI X w rfl dX16_next_158 (by decide) (by decide) (⟨⟨best, hB, rfl⟩, rfl⟩)
      · have hlt : k < nt := by
          have hb1 := h.b_ta
          exact Nat.lt_of_not_le (fun z => hc9 ((nI_leI (by omega) (by omega)).mpr z))
        refine lv_aload_n hx hb dX16_next_19 rfl (lv_at hl 0 rfl) ?_
        refine g_16_9 (S := S) (x := (some (gG S 17 9))) X w h.v wF_X16_26 (h.f_ta) dX16_next_20 ?_
        refine lv_iload hx hb dX16_next_23 (lv_at hl 4 rfl) ?_
        refine cF (S := S) (t := 17) (nA := 1) (As := [.int (nI k)]) (rest := []) X w hl h.l_ta.1 (m_get G S ea 9 k nt (some (gG S 15 k)) h.l_ta hlt (h.e_ta k hlt).1) wY_Jx4a65c_get_915e3 wM_X16_46 wIn_Jx4a65c_get_915e3 wSe_Jx4a65c_Jx4a65c_get_915e3_of_java_util_List_get__I_Ljava_lang_Object_ wI_Jx4a65c fw_get (by decide) rfl (by decide +kernel) rfl rfl dX16_next_25 ⟨by decide, by decide⟩ (Nat.le_of_ble_eq_true rfl) (⟨Nat.le_of_ble_eq_true rfl, Nat.le_of_ble_eq_true rfl⟩) (fun v2 S1 H locs hp w => ?_)
        obtain ⟨rfl, rfl⟩ := hp
        refine ckC (S := S) (t := 15) X w (h.e_ta k hlt).2 (by decide) rfl wC_X16_105 dX16_next_30 ?_
        refine lv_astore (lv' := [(5, .ref (gG S 15 k)), (0, .ref (gG S 16 0)), (1, .int a), (2, .ref (gG S 40 0)), (3, .int best), (4, .int (nI k))]) hx hb dX16_next_33 hl (by decide) rfl (fun ls hl => ?_)
        refine lv_aload hx hb dX16_next_35 (lv_at hl 0 rfl) ?_
        refine g_15_7 (S := S) (x := (mI S 247 k)) X w (h.e_ta k hlt).2 wF_X16_144 (rfl) dX16_next_37 ?_
        refine lv_if_ne (tgt := 151) hx hb dX16_next_40 (by decide) (fun hs0 => ?_) (fun hs0 => ?_)
        · refine lv_iinc (v := nI (k + 1)) (lv' := [(4, .int (nI (k + 1))), (5, .ref (gG S 15 k)), (0, .ref (gG S 16 0)), (1, .int a), (2, .ref (gG S 40 0)), (3, .int best)]) hx hb dX16_next_151 hl (k := 5) rfl (nI_1 _) (by decide) rfl (fun ls hl => ?_)
          refine lv_goto (tgt := 5) hx hb dX16_next_154 (by decide) ?_
          exact ih5 (k + 1) best _ _ _ (by omega) (by omega) (by first | exact hB | exact Or.inr ⟨_, hlb, hsb, hpb, rfl⟩ | exact Or.inr ⟨_, hlt, hs0, hp0, rfl⟩) w (lv_sub hl [2, 3, 4, 5, 0] rfl)
        · refine lv_aload_n hx hb dX16_next_43 rfl (lv_at hl 1 rfl) ?_
          refine lv_aload hx hb dX16_next_44 (lv_at hl 0 rfl) ?_
          refine cV (S := S) (nA := 1) (As := [.ref (gG S 15 k)]) (rest := []) X w hl h.v (m_X16_isStale G S ea ns nj nm nt nr nq h k hlt) wY_X16_isStale wM_X16_147 wIn_X16_isStale wSe_X16_X16_isStale wI_X16 (by decide) rfl (by decide +kernel) rfl rfl dX16_next_46 ⟨by decide, by decide⟩ (Nat.le_of_ble_eq_true rfl) (⟨Nat.le_of_ble_eq_true rfl, Nat.le_of_ble_eq_true rfl⟩) (fun v3 S1 H locs hp w => ?_)
          obtain ⟨rfl, rfl⟩ := hp
          refine lv_if_ne (tgt := 151) hx hb dX16_next_49 (by decide) (fun hc4 => ?_) (fun hc4 => ?_)
          · refine lv_iinc (v := nI (k + 1)) (lv' := [(4, .int (nI (k + 1))), (5, .ref (gG S 15 k)), (0, .ref (gG S 16 0)), (1, .int a), (2, .ref (gG S 40 0)), (3, .int best)]) hx hb dX16_next_151 hl (k := 5) rfl (nI_1 _) (by decide) rfl (fun ls hl => ?_)
            refine lv_goto (tgt := 5) hx hb dX16_next_154 (by decide) ?_
            exact ih5 (k + 1) best _ _ _ (by omega) (by omega) (by first | exact hB | exact Or.inr ⟨_, hlb, hsb, hpb, rfl⟩ | exact Or.inr ⟨_, hlt, hs0, hp0, rfl⟩) w (lv_sub hl [2, 3, 4, 5, 0] rfl)
          · refine lv_aload_n hx hb dX16_next_52 rfl (lv_at hl 3 rfl) ?_
            refine lv_iload hx hb dX16_next_53 (lv_at hl 5 rfl) ?_
            refine aLdZ (S := S) (t := 40) (i := 0) (v := mA S 40 0 k) X w hV4 (by decide) rfl rfl (by rw [hN4]; exact nI_vp hlt (by have := h.b_ta; omega)) (by rw [cl_nI (n := nt) hlt (by have := h.b_ta; omega)]) dX16_next_55 ?_
            refine lv_if_ne (tgt := 151) hx hb dX16_next_56 (by decide) (fun hp0 => ?_) (fun hp0 => ?_)
            · refine lv_iinc (v := nI (k + 1)) (lv' := [(4, .int (nI (k + 1))), (5, .ref (gG S 15 k)), (0, .ref (gG S 16 0)), (1, .int a), (2, .ref (gG S 40 0)), (3, .int best)]) hx hb dX16_next_151 hl (k := 5) rfl (nI_1 _) (by decide) rfl (fun ls hl => ?_)
              refine lv_goto (tgt := 5) hx hb dX16_next_154 (by decide) ?_
              exact ih5 (k + 1) best _ _ _ (by omega) (by omega) (by first | exact hB | exact Or.inr ⟨_, hlb, hsb, hpb, rfl⟩ | exact Or.inr ⟨_, hlt, hs0, hp0, rfl⟩) w (lv_sub hl [2, 3, 4, 5, 0] rfl)
            · refine lv_aload hx hb dX16_next_59 (lv_at hl 0 rfl) ?_
              refine cV (S := S) (nA := 0) (As := []) (rest := []) X w hl (h.e_ta k hlt).2 (m_X15_length G S k (h.e_ta k hlt).2) wY_X15_length wM_X16_151 wIn_X15_length wSe_X15_X15_length wI_X15 (by decide) rfl (by decide +kernel) rfl rfl dX16_next_61 ⟨by decide, by decide⟩ (Nat.le_of_ble_eq_true rfl) (⟨Nat.le_of_ble_eq_true rfl, Nat.le_of_ble_eq_true rfl⟩) (fun v5 S1 H locs hp w => ?_)
              obtain ⟨rfl, rfl⟩ := hp
              refine lv_iload_n hx hb dX16_next_64 rfl (lv_at hl 2 rfl) ?_
              refine lv_icmp_le (tgt := 71) hx hb dX16_next_65 (by decide) (fun hc6 => ?_) (fun hc6 => ?_)
              · refine lv_iload_n hx hb dX16_next_71 rfl (lv_at hl 4 rfl) ?_
                refine lv_iconst (v := (-1)) hx hb dX16_next_72 (by decide) ?_
                refine lv_icmp_eq (tgt := 148) hx hb dX16_next_73 (by decide) (fun hbm => ?_) (fun hbm => ?_)
                · refine lv_iload hx hb dX16_next_148 (lv_at hl 5 rfl) ?_
                  refine lv_istore_n (lv' := [(3, .int (nI k)), (5, .ref (gG S 15 k)), (0, .ref (gG S 16 0)), (1, .int a), (2, .ref (gG S 40 0)), (4, .int (nI k))]) hx hb dX16_next_150 rfl hl (by decide) rfl (fun ls hl => ?_)
                  refine lv_iinc (v := nI (k + 1)) (lv' := [(4, .int (nI (k + 1))), (3, .int (nI k)), (5, .ref (gG S 15 k)), (0, .ref (gG S 16 0)), (1, .int a), (2, .ref (gG S 40 0))]) hx hb dX16_next_151 hl (k := 5) rfl (nI_1 _) (by decide) rfl (fun ls hl => ?_)
                  refine lv_goto (tgt := 5) hx hb dX16_next_154 (by decide) ?_
                  exact ih5 (k + 1) (nI k) _ _ _ (by omega) (by omega) (by first | exact hB | exact Or.inr ⟨_, hlb, hsb, hpb, rfl⟩ | exact Or.inr ⟨_, hlt, hs0, hp0, rfl⟩) w (lv_sub hl [3, 4, 5, 1, 0] rfl)
                · obtain ⟨b, hlb, hsb, hpb, rfl⟩ := hB.resolve_left hbm
                  refine lv_aload hx hb dX16_next_76 (lv_at hl 0 rfl) ?_
                  refine cV (S := S) (nA := 0) (As := []) (rest := []) X w hl (h.e_ta k hlt).2 (m_X15_sort G S k (h.e_ta k hlt).2) wY_X15_sort wM_X16_135 wIn_X15_sort wSe_X15_X15_sort wI_X15 (by decide) rfl (by decide +kernel) rfl rfl dX16_next_78 ⟨by decide, by decide⟩ (Nat.le_of_ble_eq_true rfl) (⟨Nat.le_of_ble_eq_true rfl, Nat.le_of_ble_eq_true rfl⟩) (fun v7 S1 H locs hp w => ?_)
                  obtain ⟨rfl, rfl⟩ := hp
                  refine lv_aload_n hx hb dX16_next_81 rfl (lv_at hl 1 rfl) ?_
                  refine g_16_9 (S := S) (x := (some (gG S 17 9))) X w h.v wF_X16_26 (h.f_ta) dX16_next_82 ?_
                  refine lv_iload_n hx hb dX16_next_85 rfl (lv_at hl 4 rfl) ?_
                  refine cF (S := S) (t := 17) (nA := 1) (As := [.int (nI b)]) (rest := [.int (rSort (mI S 244 k))]) X w hl h.l_ta.1 (m_get G S ea 9 b nt (some (gG S 15 b)) h.l_ta hlb (h.e_ta b hlb).1) wY_Jx4a65c_get_915e3 wM_X16_46 wIn_Jx4a65c_get_915e3 wSe_Jx4a65c_Jx4a65c_get_915e3_of_java_util_List_get__I_Ljava_lang_Object_ wI_Jx4a65c fw_get (by decide) rfl (by decide +kernel) rfl rfl dX16_next_86 ⟨by decide, by decide⟩ (Nat.le_of_ble_eq_true rfl) (⟨Nat.le_of_ble_eq_true rfl, Nat.le_of_ble_eq_true rfl⟩) (fun v8 S1 H locs hp w => ?_)
                  obtain ⟨rfl, rfl⟩ := hp
                  refine ckC (S := S) (t := 15) X w (h.e_ta b hlb).2 (by decide) rfl wC_X16_105 dX16_next_91 ?_
                  refine cV (S := S) (nA := 0) (As := []) (rest := [.int (rSort (mI S 244 k))]) X w hl (h.e_ta b hlb).2 (m_X15_sort G S b (h.e_ta b hlb).2) wY_X15_sort wM_X16_135 wIn_X15_sort wSe_X15_X15_sort wI_X15 (by decide) rfl (by decide +kernel) rfl rfl dX16_next_94 ⟨by decide, by decide⟩ (Nat.le_of_ble_eq_true rfl) (⟨Nat.le_of_ble_eq_true rfl, Nat.le_of_ble_eq_true rfl⟩) (fun v9 S1 H locs hp w => ?_)
                  obtain ⟨rfl, rfl⟩ := hp
                  refine lv_icmp_gt (tgt := 148) hx hb dX16_next_97 (by decide) (fun hc10 => ?_) (fun hc10 => ?_)
                  · refine lv_iload hx hb dX16_next_148 (lv_at hl 5 rfl) ?_
                    refine lv_istore_n (lv' := [(3, .int (nI k)), (5, .ref (gG S 15 k)), (0, .ref (gG S 16 0)), (1, .int a), (2, .ref (gG S 40 0)), (4, .int (nI k))]) hx hb dX16_next_150 rfl hl (by decide) rfl (fun ls hl => ?_)
                    refine lv_iinc (v := nI (k + 1)) (lv' := [(4, .int (nI (k + 1))), (3, .int (nI k)), (5, .ref (gG S 15 k)), (0, .ref (gG S 16 0)), (1, .int a), (2, .ref (gG S 40 0))]) hx hb dX16_next_151 hl (k := 5) rfl (nI_1 _) (by decide) rfl (fun ls hl => ?_)
                    refine lv_goto (tgt := 5) hx hb dX16_next_154 (by decide) ?_
                    exact ih5 (k + 1) (nI k) _ _ _ (by omega) (by omega) (by first | exact hB | exact Or.inr ⟨_, hlb, hsb, hpb, rfl⟩ | exact Or.inr ⟨_, hlt, hs0, hp0, rfl⟩) w (lv_sub hl [3, 4, 5, 1, 0] rfl)
                  · refine lv_aload hx hb dX16_next_100 (lv_at hl 0 rfl) ?_
                    refine cV (S := S) (nA := 0) (As := []) (rest := []) X w hl (h.e_ta k hlt).2 (m_X15_sort G S k (h.e_ta k hlt).2) wY_X15_sort wM_X16_135 wIn_X15_sort wSe_X15_X15_sort wI_X15 (by decide) rfl (by decide +kernel) rfl rfl dX16_next_102 ⟨by decide, by decide⟩ (Nat.le_of_ble_eq_true rfl) (⟨Nat.le_of_ble_eq_true rfl, Nat.le_of_ble_eq_true rfl⟩) (fun v11 S1 H locs hp w => ?_)
                    obtain ⟨rfl, rfl⟩ := hp
                    refine lv_aload_n hx hb dX16_next_105 rfl (lv_at hl 1 rfl) ?_
                    refine g_16_9 (S := S) (x := (some (gG S 17 9))) X w h.v wF_X16_26 (h.f_ta) dX16_next_106 ?_
                    refine lv_iload_n hx hb dX16_next_109 rfl (lv_at hl 4 rfl) ?_
                    refine cF (S := S) (t := 17) (nA := 1) (As := [.int (nI b)]) (rest := [.int (rSort (mI S 244 k))]) X w hl h.l_ta.1 (m_get G S ea 9 b nt (some (gG S 15 b)) h.l_ta hlb (h.e_ta b hlb).1) wY_Jx4a65c_get_915e3 wM_X16_46 wIn_Jx4a65c_get_915e3 wSe_Jx4a65c_Jx4a65c_get_915e3_of_java_util_List_get__I_Ljava_lang_Object_ wI_Jx4a65c fw_get (by decide) rfl (by decide +kernel) rfl rfl dX16_next_110 ⟨by decide, by decide⟩ (Nat.le_of_ble_eq_true rfl) (⟨Nat.le_of_ble_eq_true rfl, Nat.le_of_ble_eq_true rfl⟩) (fun v12 S1 H locs hp w => ?_)
                    obtain ⟨rfl, rfl⟩ := hp
                    refine ckC (S := S) (t := 15) X w (h.e_ta b hlb).2 (by decide) rfl wC_X16_105 dX16_next_115 ?_
                    refine cV (S := S) (nA := 0) (As := []) (rest := [.int (rSort (mI S 244 k))]) X w hl (h.e_ta b hlb).2 (m_X15_sort G S b (h.e_ta b hlb).2) wY_X15_sort wM_X16_135 wIn_X15_sort wSe_X15_X15_sort wI_X15 (by decide) rfl (by decide +kernel) rfl rfl dX16_next_118 ⟨by decide, by decide⟩ (Nat.le_of_ble_eq_true rfl) (⟨Nat.le_of_ble_eq_true rfl, Nat.le_of_ble_eq_true rfl⟩) (fun v13 S1 H locs hp w => ?_)
                    obtain ⟨rfl, rfl⟩ := hp
                    refine lv_icmp_ne (tgt := 151) hx hb dX16_next_121 (by decide) (fun hc14 => ?_) (fun hc14 => ?_)
                    · refine lv_iinc (v := nI (k + 1)) (lv' := [(4, .int (nI (k + 1))), (5, .ref (gG S 15 k)), (0, .ref (gG S 16 0)), (1, .int a), (2, .ref (gG S 40 0)), (3, .int (nI b))]) hx hb dX16_next_151 hl (k := 5) rfl (nI_1 _) (by decide) rfl (fun ls hl => ?_)
                      refine lv_goto (tgt := 5) hx hb dX16_next_154 (by decide) ?_
                      exact ih5 (k + 1) (nI b) _ _ _ (by omega) (by omega) (by first | exact hB | exact Or.inr ⟨_, hlb, hsb, hpb, rfl⟩ | exact Or.inr ⟨_, hlt, hs0, hp0, rfl⟩) w (lv_sub hl [2, 3, 4, 5, 0] rfl)
                    · refine lv_aload hx hb dX16_next_124 (lv_at hl 0 rfl) ?_
                      refine g_15_4 (S := S) (x := (mI S 244 k)) X w (h.e_ta k hlt).2 wF_X16_154 (rfl) dX16_next_126 ?_
                      refine lv_aload_n hx hb dX16_next_129 rfl (lv_at hl 1 rfl) ?_
                      refine g_16_9 (S := S) (x := (some (gG S 17 9))) X w h.v wF_X16_26 (h.f_ta) dX16_next_130 ?_
                      refine lv_iload_n hx hb dX16_next_133 rfl (lv_at hl 4 rfl) ?_
                      refine cF (S := S) (t := 17) (nA := 1) (As := [.int (nI b)]) (rest := [.int (mI S 244 k)]) X w hl h.l_ta.1 (m_get G S ea 9 b nt (some (gG S 15 b)) h.l_ta hlb (h.e_ta b hlb).1) wY_Jx4a65c_get_915e3 wM_X16_46 wIn_Jx4a65c_get_915e3 wSe_Jx4a65c_Jx4a65c_get_915e3_of_java_util_List_get__I_Ljava_lang_Object_ wI_Jx4a65c fw_get (by decide) rfl (by decide +kernel) rfl rfl dX16_next_134 ⟨by decide, by decide⟩ (Nat.le_of_ble_eq_true rfl) (⟨Nat.le_of_ble_eq_true rfl, Nat.le_of_ble_eq_true rfl⟩) (fun v15 S1 H locs hp w => ?_)
                      obtain ⟨rfl, rfl⟩ := hp
                      refine ckC (S := S) (t := 15) X w (h.e_ta b hlb).2 (by decide) rfl wC_X16_105 dX16_next_139 ?_
                      refine g_15_4 (S := S) (x := (mI S 244 b)) X w (h.e_ta b hlb).2 wF_X16_154 (rfl) dX16_next_142 ?_
                      refine lv_icmp_le (tgt := 151) hx hb dX16_next_145 (by decide) (fun hc16 => ?_) (fun hc16 => ?_)
                      · refine lv_iinc (v := nI (k + 1)) (lv' := [(4, .int (nI (k + 1))), (5, .ref (gG S 15 k)), (0, .ref (gG S 16 0)), (1, .int a), (2, .ref (gG S 40 0)), (3, .int (nI b))]) hx hb dX16_next_151 hl (k := 5) rfl (nI_1 _) (by decide) rfl (fun ls hl => ?_)
                        refine lv_goto (tgt := 5) hx hb dX16_next_154 (by decide) ?_
                        exact ih5 (k + 1) (nI b) _ _ _ (by omega) (by omega) (by first | exact hB | exact Or.inr ⟨_, hlb, hsb, hpb, rfl⟩ | exact Or.inr ⟨_, hlt, hs0, hp0, rfl⟩) w (lv_sub hl [2, 3, 4, 5, 0] rfl)
                      · refine lv_iload hx hb dX16_next_148 (lv_at hl 5 rfl) ?_
                        refine lv_istore_n (lv' := [(3, .int (nI k)), (5, .ref (gG S 15 k)), (0, .ref (gG S 16 0)), (1, .int a), (2, .ref (gG S 40 0)), (4, .int (nI k))]) hx hb dX16_next_150 rfl hl (by decide) rfl (fun ls hl => ?_)
                        refine lv_iinc (v := nI (k + 1)) (lv' := [(4, .int (nI (k + 1))), (3, .int (nI k)), (5, .ref (gG S 15 k)), (0, .ref (gG S 16 0)), (1, .int a), (2, .ref (gG S 40 0))]) hx hb dX16_next_151 hl (k := 5) rfl (nI_1 _) (by decide) rfl (fun ls hl => ?_)
                        refine lv_goto (tgt := 5) hx hb dX16_next_154 (by decide) ?_
                        exact ih5 (k + 1) (nI k) _ _ _ (by omega) (by omega) (by first | exact hB | exact Or.inr ⟨_, hlb, hsb, hpb, rfl⟩ | exact Or.inr ⟨_, hlt, hs0, hp0, rfl⟩) w (lv_sub hl [3, 4, 5, 1, 0] rfl)
              · refine lv_goto (tgt := 151) hx hb dX16_next_68 (by decide) ?_
                refine lv_iinc (v := nI (k + 1)) (lv' := [(4, .int (nI (k + 1))), (5, .ref (gG S 15 k)), (0, .ref (gG S 16 0)), (1, .int a), (2, .ref (gG S 40 0)), (3, .int best)]) hx hb dX16_next_151 hl (k := 5) rfl (nI_1 _) (by decide) rfl (fun ls hl => ?_)
                refine lv_goto (tgt := 5) hx hb dX16_next_154 (by decide) ?_
                exact ih5 (k + 1) best _ _ _ (by omega) (by omega) (by first | exact hB | exact Or.inr ⟨_, hlb, hsb, hpb, rfl⟩ | exact Or.inr ⟨_, hlt, hs0, hp0, rfl⟩) w (lv_sub hl [2, 3, 4, 5, 0] rfl)
  exact L5 _ 0 (-1) _ _ _ (Nat.lt_succ_self _) (by omega) (Or.inl rfl) w (lv_sub hl [2, 3, 4, 1, 0] rfl)

theorem dX16_send_0 : decode cX16_send 0 = .ok (.aload_n 0, 1) := by decide +kernel
theorem dX16_send_1 : decode cX16_send 1 = .ok (.getfield 26, 3) := by decide +kernel
theorem dX16_send_4 : decode cX16_send 4 = .ok (.iload_n 1, 1) := by decide +kernel
theorem dX16_send_5 : decode cX16_send 5 = .ok (.invokeinterface 46 2, 5) := by decide +kernel
theorem dX16_send_10 : decode cX16_send 10 = .ok (.checkcast 105, 3) := by decide +kernel
theorem dX16_send_13 : decode cX16_send 13 = .ok (.astore_n 2, 1) := by decide +kernel
theorem dX16_send_14 : decode cX16_send 14 = .ok (.aload_n 2, 1) := by decide +kernel
theorem dX16_send_15 : decode cX16_send 15 = .ok (.iconst 1, 1) := by decide +kernel
theorem dX16_send_16 : decode cX16_send 16 = .ok (.putfield 144, 3) := by decide +kernel
theorem dX16_send_19 : decode cX16_send 19 = .ok (.aload_n 2, 1) := by decide +kernel
theorem dX16_send_20 : decode cX16_send 20 = .ok (.aload_n 0, 1) := by decide +kernel
theorem dX16_send_21 : decode cX16_send 21 = .ok (.getfield 125, 3) := by decide +kernel
theorem dX16_send_24 : decode cX16_send 24 = .ok (.putfield 182, 3) := by decide +kernel
theorem dX16_send_27 : decode cX16_send 27 = .ok (.aload_n 2, 1) := by decide +kernel
theorem dX16_send_28 : decode cX16_send 28 = .ok (.aload_n 0, 1) := by decide +kernel
theorem dX16_send_29 : decode cX16_send 29 = .ok (.dup, 1) := by decide +kernel
theorem dX16_send_30 : decode cX16_send 30 = .ok (.getfield 185, 3) := by decide +kernel
theorem dX16_send_33 : decode cX16_send 33 = .ok (.dup_x1, 1) := by decide +kernel
theorem dX16_send_34 : decode cX16_send 34 = .ok (.iconst 1, 1) := by decide +kernel
theorem dX16_send_35 : decode cX16_send 35 = .ok (.iadd, 1) := by decide +kernel
theorem dX16_send_36 : decode cX16_send 36 = .ok (.putfield 185, 3) := by decide +kernel
theorem dX16_send_39 : decode cX16_send 39 = .ok (.putfield 188, 3) := by decide +kernel
theorem dX16_send_42 : decode cX16_send 42 = .ok (.aload_n 0, 1) := by decide +kernel
theorem dX16_send_43 : decode cX16_send 43 = .ok (.dup, 1) := by decide +kernel
theorem dX16_send_44 : decode cX16_send 44 = .ok (.getfield 7, 3) := by decide +kernel
theorem dX16_send_47 : decode cX16_send 47 = .ok (.aload_n 2, 1) := by decide +kernel
theorem dX16_send_48 : decode cX16_send 48 = .ok (.invokevirtual 151, 3) := by decide +kernel
theorem dX16_send_51 : decode cX16_send 51 = .ok (.isub, 1) := by decide +kernel
theorem dX16_send_52 : decode cX16_send 52 = .ok (.putfield 7, 3) := by decide +kernel
theorem dX16_send_55 : decode cX16_send 55 = .ok (.iconst 0, 1) := by decide +kernel
theorem dX16_send_56 : decode cX16_send 56 = .ok (.istore_n 3, 1) := by decide +kernel
theorem dX16_send_57 : decode cX16_send 57 = .ok (.iload_n 3, 1) := by decide +kernel
theorem dX16_send_58 : decode cX16_send 58 = .ok (.aload_n 0, 1) := by decide +kernel
theorem dX16_send_59 : decode cX16_send 59 = .ok (.getfield 29, 3) := by decide +kernel
theorem dX16_send_62 : decode cX16_send 62 = .ok (.invokeinterface 73 1, 5) := by decide +kernel
theorem dX16_send_67 : decode cX16_send 67 = .ok (.if_icmp .ge 81, 3) := by decide +kernel
theorem dX16_send_70 : decode cX16_send 70 = .ok (.aload_n 0, 1) := by decide +kernel
theorem dX16_send_71 : decode cX16_send 71 = .ok (.getfield 29, 3) := by decide +kernel
theorem dX16_send_74 : decode cX16_send 74 = .ok (.iload_n 3, 1) := by decide +kernel
theorem dX16_send_75 : decode cX16_send 75 = .ok (.invokeinterface 46 2, 5) := by decide +kernel
theorem dX16_send_80 : decode cX16_send 80 = .ok (.checkcast 177, 3) := by decide +kernel
theorem dX16_send_83 : decode cX16_send 83 = .ok (.getfield 191, 3) := by decide +kernel
theorem dX16_send_86 : decode cX16_send 86 = .ok (.aload_n 0, 1) := by decide +kernel
theorem dX16_send_87 : decode cX16_send 87 = .ok (.aload_n 2, 1) := by decide +kernel
theorem dX16_send_88 : decode cX16_send 88 = .ok (.invokevirtual 141, 3) := by decide +kernel
theorem dX16_send_91 : decode cX16_send 91 = .ok (.invokestatic 57, 3) := by decide +kernel
theorem dX16_send_94 : decode cX16_send 94 = .ok (.ifCond .eq 48, 3) := by decide +kernel
theorem dX16_send_97 : decode cX16_send 97 = .ok (.aload_n 0, 1) := by decide +kernel
theorem dX16_send_98 : decode cX16_send 98 = .ok (.getfield 29, 3) := by decide +kernel
theorem dX16_send_101 : decode cX16_send 101 = .ok (.iload_n 3, 1) := by decide +kernel
theorem dX16_send_102 : decode cX16_send 102 = .ok (.invokeinterface 46 2, 5) := by decide +kernel
theorem dX16_send_107 : decode cX16_send 107 = .ok (.checkcast 177, 3) := by decide +kernel
theorem dX16_send_110 : decode cX16_send 110 = .ok (.getfield 194, 3) := by decide +kernel
theorem dX16_send_113 : decode cX16_send 113 = .ok (.aload_n 2, 1) := by decide +kernel
theorem dX16_send_114 : decode cX16_send 114 = .ok (.getfield 197, 3) := by decide +kernel
theorem dX16_send_117 : decode cX16_send 117 = .ok (.invokestatic 57, 3) := by decide +kernel
theorem dX16_send_120 : decode cX16_send 120 = .ok (.ifCond .eq 22, 3) := by decide +kernel
theorem dX16_send_123 : decode cX16_send 123 = .ok (.aload_n 0, 1) := by decide +kernel
theorem dX16_send_124 : decode cX16_send 124 = .ok (.getfield 29, 3) := by decide +kernel
theorem dX16_send_127 : decode cX16_send 127 = .ok (.iload_n 3, 1) := by decide +kernel
theorem dX16_send_128 : decode cX16_send 128 = .ok (.invokeinterface 46 2, 5) := by decide +kernel
theorem dX16_send_133 : decode cX16_send 133 = .ok (.checkcast 177, 3) := by decide +kernel
theorem dX16_send_136 : decode cX16_send 136 = .ok (.getfield 179, 3) := by decide +kernel
theorem dX16_send_139 : decode cX16_send 139 = .ok (.iload_n 1, 1) := by decide +kernel
theorem dX16_send_140 : decode cX16_send 140 = .ok (.iconst 1, 1) := by decide +kernel
theorem dX16_send_141 : decode cX16_send 141 = .ok (.iastore, 1) := by decide +kernel
theorem dX16_send_142 : decode cX16_send 142 = .ok (.iinc 3 1, 3) := by decide +kernel
theorem dX16_send_145 : decode cX16_send 145 = .ok (.goto (-88), 3) := by decide +kernel
theorem dX16_send_148 : decode cX16_send 148 = .ok (.aload_n 0, 1) := by decide +kernel
theorem dX16_send_149 : decode cX16_send 149 = .ok (.iload_n 1, 1) := by decide +kernel
theorem dX16_send_150 : decode cX16_send 150 = .ok (.invokevirtual 200, 3) := by decide +kernel
theorem dX16_send_153 : decode cX16_send 153 = .ok (.return_, 1) := by decide +kernel
theorem dX16_record_0 : decode cX16_record 0 = .ok (.aload_n 0, 1) := by decide +kernel
theorem dX16_record_1 : decode cX16_record 1 = .ok (.aload_n 1, 1) := by decide +kernel
theorem dX16_record_2 : decode cX16_record 2 = .ok (.invokevirtual 118, 3) := by decide +kernel
theorem dX16_record_5 : decode cX16_record 5 = .ok (.istore_n 2, 1) := by decide +kernel
theorem dX16_record_6 : decode cX16_record 6 = .ok (.iload_n 2, 1) := by decide +kernel
theorem dX16_record_7 : decode cX16_record 7 = .ok (.iconst (-1), 1) := by decide +kernel
theorem dX16_record_8 : decode cX16_record 8 = .ok (.if_icmp .ne 4, 3) := by decide +kernel
theorem dX16_record_11 : decode cX16_record 11 = .ok (.return_, 1) := by decide +kernel
theorem dX16_record_12 : decode cX16_record 12 = .ok (.aload_n 1, 1) := by decide +kernel
theorem dX16_record_13 : decode cX16_record 13 = .ok (.iload_n 2, 1) := by decide +kernel
theorem dX16_record_14 : decode cX16_record 14 = .ok (.putfield 122, 3) := by decide +kernel
theorem dX16_record_17 : decode cX16_record 17 = .ok (.aload_n 1, 1) := by decide +kernel
theorem dX16_record_18 : decode cX16_record 18 = .ok (.aload_n 0, 1) := by decide +kernel
theorem dX16_record_19 : decode cX16_record 19 = .ok (.getfield 40, 3) := by decide +kernel
theorem dX16_record_22 : decode cX16_record 22 = .ok (.aload_n 0, 1) := by decide +kernel
theorem dX16_record_23 : decode cX16_record 23 = .ok (.getfield 125, 3) := by decide +kernel
theorem dX16_record_26 : decode cX16_record 26 = .ok (.bipush 24, 2) := by decide +kernel
theorem dX16_record_28 : decode cX16_record 28 = .ok (.irem, 1) := by decide +kernel
theorem dX16_record_29 : decode cX16_record 29 = .ok (.aaload, 1) := by decide +kernel
theorem dX16_record_30 : decode cX16_record 30 = .ok (.iload_n 2, 1) := by decide +kernel
theorem dX16_record_31 : decode cX16_record 31 = .ok (.iaload, 1) := by decide +kernel
theorem dX16_record_32 : decode cX16_record 32 = .ok (.putfield 126, 3) := by decide +kernel
theorem dX16_record_35 : decode cX16_record 35 = .ok (.aload_n 1, 1) := by decide +kernel
theorem dX16_record_36 : decode cX16_record 36 = .ok (.aload_n 0, 1) := by decide +kernel
theorem dX16_record_37 : decode cX16_record 37 = .ok (.aload_n 1, 1) := by decide +kernel
theorem dX16_record_38 : decode cX16_record 38 = .ok (.getfield 126, 3) := by decide +kernel
theorem dX16_record_41 : decode cX16_record 41 = .ok (.aload_n 1, 1) := by decide +kernel
theorem dX16_record_42 : decode cX16_record 42 = .ok (.getfield 104, 3) := by decide +kernel
theorem dX16_record_45 : decode cX16_record 45 = .ok (.aload_n 0, 1) := by decide +kernel
theorem dX16_record_46 : decode cX16_record 46 = .ok (.getfield 125, 3) := by decide +kernel
theorem dX16_record_49 : decode cX16_record 49 = .ok (.bipush 24, 2) := by decide +kernel
theorem dX16_record_51 : decode cX16_record 51 = .ok (.irem, 1) := by decide +kernel
theorem dX16_record_52 : decode cX16_record 52 = .ok (.invokevirtual 115, 3) := by decide +kernel
theorem dX16_record_55 : decode cX16_record 55 = .ok (.putfield 129, 3) := by decide +kernel
theorem dX16_record_58 : decode cX16_record 58 = .ok (.aload_n 0, 1) := by decide +kernel
theorem dX16_record_59 : decode cX16_record 59 = .ok (.getfield 23, 3) := by decide +kernel
theorem dX16_record_62 : decode cX16_record 62 = .ok (.aload_n 1, 1) := by decide +kernel
theorem dX16_record_63 : decode cX16_record 63 = .ok (.getfield 126, 3) := by decide +kernel
theorem dX16_record_66 : decode cX16_record 66 = .ok (.invokeinterface 46 2, 5) := by decide +kernel
theorem dX16_record_71 : decode cX16_record 71 = .ok (.checkcast 93, 3) := by decide +kernel
theorem dX16_record_74 : decode cX16_record 74 = .ok (.dup, 1) := by decide +kernel
theorem dX16_record_75 : decode cX16_record 75 = .ok (.getfield 132, 3) := by decide +kernel
theorem dX16_record_78 : decode cX16_record 78 = .ok (.iconst 1, 1) := by decide +kernel
theorem dX16_record_79 : decode cX16_record 79 = .ok (.iadd, 1) := by decide +kernel
theorem dX16_record_80 : decode cX16_record 80 = .ok (.putfield 132, 3) := by decide +kernel
theorem dX16_record_83 : decode cX16_record 83 = .ok (.aload_n 1, 1) := by decide +kernel
theorem dX16_record_84 : decode cX16_record 84 = .ok (.aload_n 1, 1) := by decide +kernel
theorem dX16_record_85 : decode cX16_record 85 = .ok (.invokevirtual 135, 3) := by decide +kernel
theorem dX16_record_88 : decode cX16_record 88 = .ok (.ifCond .ne 7, 3) := by decide +kernel
theorem dX16_record_91 : decode cX16_record 91 = .ok (.iconst 4, 1) := by decide +kernel
theorem dX16_record_92 : decode cX16_record 92 = .ok (.goto 31, 3) := by decide +kernel
theorem dX16_record_95 : decode cX16_record 95 = .ok (.aload_n 1, 1) := by decide +kernel
theorem dX16_record_96 : decode cX16_record 96 = .ok (.invokevirtual 135, 3) := by decide +kernel
theorem dX16_record_99 : decode cX16_record 99 = .ok (.iconst 3, 1) := by decide +kernel
theorem dX16_record_100 : decode cX16_record 100 = .ok (.if_icmp .ge 22, 3) := by decide +kernel
theorem dX16_record_103 : decode cX16_record 103 = .ok (.aload_n 0, 1) := by decide +kernel
theorem dX16_record_104 : decode cX16_record 104 = .ok (.getfield 138, 3) := by decide +kernel
theorem dX16_record_107 : decode cX16_record 107 = .ok (.aload_n 0, 1) := by decide +kernel
theorem dX16_record_108 : decode cX16_record 108 = .ok (.aload_n 1, 1) := by decide +kernel
theorem dX16_record_109 : decode cX16_record 109 = .ok (.invokevirtual 141, 3) := by decide +kernel
theorem dX16_record_112 : decode cX16_record 112 = .ok (.invokestatic 57, 3) := by decide +kernel
theorem dX16_record_115 : decode cX16_record 115 = .ok (.ifCond .eq 7, 3) := by decide +kernel
theorem dX16_record_118 : decode cX16_record 118 = .ok (.iconst 3, 1) := by decide +kernel
theorem dX16_record_119 : decode cX16_record 119 = .ok (.goto 4, 3) := by decide +kernel
theorem dX16_record_122 : decode cX16_record 122 = .ok (.iconst 0, 1) := by decide +kernel
theorem dX16_record_123 : decode cX16_record 123 = .ok (.putfield 144, 3) := by decide +kernel
theorem dX16_record_126 : decode cX16_record 126 = .ok (.return_, 1) := by decide +kernel
