theorem so_h {b : Int32} {g0 : Nat} (hg : g0 ≤ 720) (h : sOut b (nI g0) 719 = false) : ∃ t, t < 720 ∧ b = nI t := by
  unfold sOut at h
  rw [Bool.or_eq_false_iff] at h
  have h1 : ¬ b < nI g0 := of_decide_eq_false h.1
  have h2 : ¬ 719 < b := of_decide_eq_false h.2
  have h0 : ¬ b < 0 := fun z => nI_pos (n := g0) (by omega) (Int32.lt_of_le_of_lt (Int32.not_lt.mp h1) z)
  obtain ⟨t, ht, rfl⟩ := nI_of h0
  exact ⟨t, Nat.lt_succ_of_le (Nat.le_of_not_lt (fun z => h2 ((nI_ltI (a := 719) (b := t) (by decide) ht).mpr z))), rfl⟩
theorem so_w {b : Int32} (h : sOut b 1 300 = false) : ∃ t, t ≤ 300 ∧ b = nI t := by
  unfold sOut at h
  rw [Bool.or_eq_false_iff] at h
  have h1 : ¬ b < 1 := of_decide_eq_false h.1
  have h2 : ¬ 300 < b := of_decide_eq_false h.2
  have h0 : ¬ b < 0 := fun z => h1 (Int32.lt_trans z (by decide))
  obtain ⟨t, ht, rfl⟩ := nI_of h0
  exact ⟨t, Nat.le_of_not_lt (fun z => h2 ((nI_ltI (a := 300) (b := t) (by decide) ht).mpr z)), rfl⟩

theorem dX10_talk_0 : decode cX10_talk 0 = .ok (.aload_n 0, 1) := by decide +kernel
theorem dX10_talk_1 : decode cX10_talk 1 = .ok (.getfield 12, 3) := by decide +kernel
theorem dX10_talk_4 : decode cX10_talk 4 = .ok (.iload_n 1, 1) := by decide +kernel
theorem dX10_talk_5 : decode cX10_talk 5 = .ok (.invokevirtual 86, 3) := by decide +kernel
theorem dX10_talk_8 : decode cX10_talk 8 = .ok (.astore 7, 2) := by decide +kernel
theorem dX10_talk_10 : decode cX10_talk 10 = .ok (.aload 7, 2) := by decide +kernel
theorem dX10_talk_12 : decode cX10_talk 12 = .ok (.ifnonnull 13, 3) := by decide +kernel
theorem dX10_talk_15 : decode cX10_talk 15 = .ok (.new 90, 3) := by decide +kernel
theorem dX10_talk_18 : decode cX10_talk 18 = .ok (.dup, 1) := by decide +kernel
theorem dX10_talk_19 : decode cX10_talk 19 = .ok (.ldc 92, 2) := by decide +kernel
theorem dX10_talk_21 : decode cX10_talk 21 = .ok (.invokespecial 94, 3) := by decide +kernel
theorem dX10_talk_24 : decode cX10_talk 24 = .ok (.athrow, 1) := by decide +kernel
theorem dX10_talk_25 : decode cX10_talk 25 = .ok (.iload_n 2, 1) := by decide +kernel
theorem dX10_talk_26 : decode cX10_talk 26 = .ok (.aload_n 0, 1) := by decide +kernel
theorem dX10_talk_27 : decode cX10_talk 27 = .ok (.getfield 41, 3) := by decide +kernel
theorem dX10_talk_30 : decode cX10_talk 30 = .ok (.sipush 719, 3) := by decide +kernel
theorem dX10_talk_33 : decode cX10_talk 33 = .ok (.invokestatic 48, 3) := by decide +kernel
theorem dX10_talk_36 : decode cX10_talk 36 = .ok (.ifCond .ne 13, 3) := by decide +kernel
theorem dX10_talk_39 : decode cX10_talk 39 = .ok (.iload_n 3, 1) := by decide +kernel
theorem dX10_talk_40 : decode cX10_talk 40 = .ok (.iconst 0, 1) := by decide +kernel
theorem dX10_talk_41 : decode cX10_talk 41 = .ok (.bipush 15, 2) := by decide +kernel
theorem dX10_talk_43 : decode cX10_talk 43 = .ok (.invokestatic 48, 3) := by decide +kernel
theorem dX10_talk_46 : decode cX10_talk 46 = .ok (.ifCond .eq 13, 3) := by decide +kernel
theorem dX10_talk_49 : decode cX10_talk 49 = .ok (.new 52, 3) := by decide +kernel
theorem dX10_talk_52 : decode cX10_talk 52 = .ok (.dup, 1) := by decide +kernel
theorem dX10_talk_53 : decode cX10_talk 53 = .ok (.ldc 155, 2) := by decide +kernel
theorem dX10_talk_55 : decode cX10_talk 55 = .ok (.invokespecial 56, 3) := by decide +kernel
theorem dX10_talk_58 : decode cX10_talk 58 = .ok (.athrow, 1) := by decide +kernel
theorem dX10_talk_59 : decode cX10_talk 59 = .ok (.iload 4, 2) := by decide +kernel
theorem dX10_talk_61 : decode cX10_talk 61 = .ok (.iconst 1, 1) := by decide +kernel
theorem dX10_talk_62 : decode cX10_talk 62 = .ok (.sipush 300, 3) := by decide +kernel
theorem dX10_talk_65 : decode cX10_talk 65 = .ok (.invokestatic 48, 3) := by decide +kernel
theorem dX10_talk_68 : decode cX10_talk 68 = .ok (.ifCond .ne 14, 3) := by decide +kernel
theorem dX10_talk_71 : decode cX10_talk 71 = .ok (.iload 5, 2) := by decide +kernel
theorem dX10_talk_73 : decode cX10_talk 73 = .ok (.iconst 0, 1) := by decide +kernel
theorem dX10_talk_74 : decode cX10_talk 74 = .ok (.bipush 9, 2) := by decide +kernel
theorem dX10_talk_76 : decode cX10_talk 76 = .ok (.invokestatic 48, 3) := by decide +kernel
theorem dX10_talk_79 : decode cX10_talk 79 = .ok (.ifCond .eq 13, 3) := by decide +kernel
theorem dX10_talk_82 : decode cX10_talk 82 = .ok (.new 52, 3) := by decide +kernel
theorem dX10_talk_85 : decode cX10_talk 85 = .ok (.dup, 1) := by decide +kernel
theorem dX10_talk_86 : decode cX10_talk 86 = .ok (.ldc 157, 2) := by decide +kernel
theorem dX10_talk_88 : decode cX10_talk 88 = .ok (.invokespecial 56, 3) := by decide +kernel
theorem dX10_talk_91 : decode cX10_talk 91 = .ok (.athrow, 1) := by decide +kernel
theorem dX10_talk_92 : decode cX10_talk 92 = .ok (.iload 6, 2) := by decide +kernel
theorem dX10_talk_94 : decode cX10_talk 94 = .ok (.iconst 0, 1) := by decide +kernel
theorem dX10_talk_95 : decode cX10_talk 95 = .ok (.ldc 159, 2) := by decide +kernel
theorem dX10_talk_97 : decode cX10_talk 97 = .ok (.invokestatic 48, 3) := by decide +kernel
theorem dX10_talk_100 : decode cX10_talk 100 = .ok (.ifCond .eq 13, 3) := by decide +kernel
theorem dX10_talk_103 : decode cX10_talk 103 = .ok (.new 52, 3) := by decide +kernel
theorem dX10_talk_106 : decode cX10_talk 106 = .ok (.dup, 1) := by decide +kernel
theorem dX10_talk_107 : decode cX10_talk 107 = .ok (.ldc 160, 2) := by decide +kernel
theorem dX10_talk_109 : decode cX10_talk 109 = .ok (.invokespecial 56, 3) := by decide +kernel
theorem dX10_talk_112 : decode cX10_talk 112 = .ok (.athrow, 1) := by decide +kernel
theorem dX10_talk_113 : decode cX10_talk 113 = .ok (.aload_n 0, 1) := by decide +kernel
theorem dX10_talk_114 : decode cX10_talk 114 = .ok (.getfield 28, 3) := by decide +kernel
theorem dX10_talk_117 : decode cX10_talk 117 = .ok (.getfield 162, 3) := by decide +kernel
theorem dX10_talk_120 : decode cX10_talk 120 = .ok (.invokevirtual 66, 3) := by decide +kernel
theorem dX10_talk_123 : decode cX10_talk 123 = .ok (.bipush 40, 2) := by decide +kernel
theorem dX10_talk_125 : decode cX10_talk 125 = .ok (.if_icmp .lt 13, 3) := by decide +kernel
theorem dX10_talk_128 : decode cX10_talk 128 = .ok (.new 72, 3) := by decide +kernel
theorem dX10_talk_131 : decode cX10_talk 131 = .ok (.dup, 1) := by decide +kernel
theorem dX10_talk_132 : decode cX10_talk 132 = .ok (.ldc 165, 2) := by decide +kernel
theorem dX10_talk_134 : decode cX10_talk 134 = .ok (.invokespecial 76, 3) := by decide +kernel
theorem dX10_talk_137 : decode cX10_talk 137 = .ok (.athrow, 1) := by decide +kernel
theorem dX10_talk_138 : decode cX10_talk 138 = .ok (.aload 7, 2) := by decide +kernel
theorem dX10_talk_140 : decode cX10_talk 140 = .ok (.iload_n 2, 1) := by decide +kernel
theorem dX10_talk_141 : decode cX10_talk 141 = .ok (.bipush 24, 2) := by decide +kernel
theorem dX10_talk_143 : decode cX10_talk 143 = .ok (.irem, 1) := by decide +kernel
theorem dX10_talk_144 : decode cX10_talk 144 = .ok (.invokevirtual 167, 3) := by decide +kernel
theorem dX10_talk_147 : decode cX10_talk 147 = .ok (.ifCond .eq 16, 3) := by decide +kernel
theorem dX10_talk_150 : decode cX10_talk 150 = .ok (.aload_n 0, 1) := by decide +kernel
theorem dX10_talk_151 : decode cX10_talk 151 = .ok (.getfield 28, 3) := by decide +kernel
theorem dX10_talk_154 : decode cX10_talk 154 = .ok (.aload 7, 2) := by decide +kernel
theorem dX10_talk_156 : decode cX10_talk 156 = .ok (.iload_n 2, 1) := by decide +kernel
theorem dX10_talk_157 : decode cX10_talk 157 = .ok (.invokevirtual 171, 3) := by decide +kernel
theorem dX10_talk_160 : decode cX10_talk 160 = .ok (.ifCond .eq 13, 3) := by decide +kernel
theorem dX10_talk_163 : decode cX10_talk 163 = .ok (.new 72, 3) := by decide +kernel
theorem dX10_talk_166 : decode cX10_talk 166 = .ok (.dup, 1) := by decide +kernel
theorem dX10_talk_167 : decode cX10_talk 167 = .ok (.ldc 175, 2) := by decide +kernel
theorem dX10_talk_169 : decode cX10_talk 169 = .ok (.invokespecial 76, 3) := by decide +kernel
theorem dX10_talk_172 : decode cX10_talk 172 = .ok (.athrow, 1) := by decide +kernel
theorem dX10_talk_173 : decode cX10_talk 173 = .ok (.aload_n 0, 1) := by decide +kernel
theorem dX10_talk_174 : decode cX10_talk 174 = .ok (.getfield 28, 3) := by decide +kernel
theorem dX10_talk_177 : decode cX10_talk 177 = .ok (.getfield 162, 3) := by decide +kernel
theorem dX10_talk_180 : decode cX10_talk 180 = .ok (.invokevirtual 66, 3) := by decide +kernel
theorem dX10_talk_183 : decode cX10_talk 183 = .ok (.istore 8, 2) := by decide +kernel
theorem dX10_talk_185 : decode cX10_talk 185 = .ok (.aload_n 0, 1) := by decide +kernel
theorem dX10_talk_186 : decode cX10_talk 186 = .ok (.getfield 28, 3) := by decide +kernel
theorem dX10_talk_189 : decode cX10_talk 189 = .ok (.getfield 162, 3) := by decide +kernel
theorem dX10_talk_192 : decode cX10_talk 192 = .ok (.new 177, 3) := by decide +kernel
theorem dX10_talk_195 : decode cX10_talk 195 = .ok (.dup, 1) := by decide +kernel
theorem dX10_talk_196 : decode cX10_talk 196 = .ok (.iload 8, 2) := by decide +kernel
theorem dX10_talk_198 : decode cX10_talk 198 = .ok (.aload 7, 2) := by decide +kernel
theorem dX10_talk_200 : decode cX10_talk 200 = .ok (.iload_n 2, 1) := by decide +kernel
theorem dX10_talk_201 : decode cX10_talk 201 = .ok (.iload_n 3, 1) := by decide +kernel
theorem dX10_talk_202 : decode cX10_talk 202 = .ok (.iload 4, 2) := by decide +kernel
theorem dX10_talk_204 : decode cX10_talk 204 = .ok (.iload 5, 2) := by decide +kernel
theorem dX10_talk_206 : decode cX10_talk 206 = .ok (.iload 6, 2) := by decide +kernel
theorem dX10_talk_208 : decode cX10_talk 208 = .ok (.invokespecial 179, 3) := by decide +kernel
theorem dX10_talk_211 : decode cX10_talk 211 = .ok (.invokevirtual 82, 3) := by decide +kernel
theorem dX10_talk_214 : decode cX10_talk 214 = .ok (.pop, 1) := by decide +kernel
theorem dX10_talk_215 : decode cX10_talk 215 = .ok (.iload 8, 2) := by decide +kernel
theorem dX10_talk_217 : decode cX10_talk 217 = .ok (.ireturn, 1) := by decide +kernel
abbrev rm_m_X10_talk : Room := { frames := 7, cells := 2, slots := 58, locals := 191 }
set_option maxHeartbeats 4000000 in
set_option maxRecDepth 100000 in
theorem m_X10_talk {s0 : State} {l : Launch} {D : va_G} {cy : Nat → ClassId} (G : Gl s0 l D cy) (S : HS) (ea ns nj nm nt nr nc : Nat) (h : CI ea S ns nj nm nt nr nc) (hea : ea = eaOf s0) (a b d g e_ f : Int32) : CtX s0 l D cy yX10_talk cX10_talk 9 (some .int) rm_m_X10_talk S [.ref (gG S 10 0), .int a, .int b, .int d, .int g, .int e_, .int f] (fun v S' => ∃ i8, i8 < ns ∧ (∃ t, t < 720 ∧ b = nI t) ∧ (∃ t, t ≤ 300 ∧ g = nI t) ∧ nt < 40 ∧ some (.int (nI nt)) = v ∧ ∃ q1 q2 m2 b2, S' = addS (sI (sI (sI (sI (sI (sR (sI (sI (sNew S 9 nt q1) 151 nt (-1)) 144 nt (nI nt)) 145 nt (some (gG (sNew S 9 nt q1) 8 i8))) 146 nt b) 147 nt d) 148 nt g) 149 nt e_) 150 nt f) 3 q2 (capOf (nt + 1)) m2 (nI (nt + 1)) b2 ∧ b2 nt = some (gG (sNew S 9 nt q1) 9 nt) ∧ ∀ j, j < nt → b2 j = mB S 30 3 j) (PT S ["java/lang/IndexOutOfBoundsException", "java/lang/IllegalArgumentException", "java/lang/IllegalStateException"]) := by
  refine proX "CavershamShift" G rfl rfl (Nat.le_of_ble_eq_true rfl) (fun p e s m below meth c ls X w hno hl => ?_)
  have hx := X.1
  have hb := X.2.1
  have hown := X.2.2.2.1
  have hts := X.2.2.2.2.1
  have hl : lv_has ls 9 [(0, .ref (gG S 10 0)), (1, .int a), (2, .int b), (3, .int d), (4, .int g), (5, .int e_), (6, .int f)] := hl
  obtain ⟨g0, hg0, eh⟩ := h.x_ho
  have hb9 := h.b_ta
  refine lv_aload_n hx hb dX10_talk_0 rfl (lv_at hl 0 rfl) ?_
  refine g_10_0 (S := S) (x := (some (gG S 0 0))) X w h.v10 wF_X10_12 (h.f160) dX10_talk_1 ?_
  refine lv_iload_n hx hb dX10_talk_4 rfl (lv_at hl 1 rfl) ?_
  refine cV (S := S) (nA := 1) (As := [.int a]) (rest := []) X w hl h.v0 (m_X0_stationAt G S ea ns nj nm nt nr nc h a) wY_X0_stationAt wM_X10_86 wIn_X0_stationAt wSe_X0_X0_stationAt wI_X0 (by decide) rfl (by decide +kernel) rfl rfl dX10_talk_5 ⟨by decide, by decide⟩ (Nat.le_of_ble_eq_true rfl) (⟨Nat.le_of_ble_eq_true rfl, Nat.le_of_ble_eq_true rfl⟩) (fun v2 S1 H locs hp w => ?_)
  obtain ⟨hp, rfl⟩ := hp
  rcases hp with ⟨rfl, hoj1⟩ | ⟨j1, hlj1, hkj1, rfl⟩
  · skip
    refine lv_astoreN (lv' := [(7, .null), (0, .ref (gG S 10 0)), (1, .int a), (2, .int b), (3, .int d), (4, .int g), (5, .int e_), (6, .int f)]) hx hb dX10_talk_8 hl (by decide) rfl (fun ls hl => ?_)
    refine lv_aloadN hx hb dX10_talk_10 (lv_at hl 0 rfl) ?_
    refine lv_ifnonnullN hx hb dX10_talk_12 ?_
    exact rT (S := S) (names := ["java/lang/RuntimeException", "java/lang/Exception"]) X w hl hno (by decide) (by decide) wC_X10_90 wI_java_lang_IndexOutOfBoundsException wS9_X10_92 at_IOB go_IOB ⟨by decide, by decide⟩ dX10_talk_15 dX10_talk_18 dX10_talk_19 dX10_talk_21 dX10_talk_24 (by decide) (by decide) (Nat.le_of_ble_eq_true rfl) (Nat.le_of_ble_eq_true rfl) (Nat.le_of_ble_eq_true rfl) (Nat.le_of_ble_eq_true rfl) (⟨rfl, by decide⟩)
  · skip
    refine lv_astore (lv' := [(7, .ref (gG S 8 j1)), (0, .ref (gG S 10 0)), (1, .int a), (2, .int b), (3, .int d), (4, .int g), (5, .int e_), (6, .int f)]) hx hb dX10_talk_8 hl (by decide) rfl (fun ls hl => ?_)
    refine lv_aload hx hb dX10_talk_10 (lv_at hl 0 rfl) ?_
    refine lv_ifnonnull (tgt := 25) hx hb dX10_talk_12 (by decide) ?_
    refine lv_iload_n hx hb dX10_talk_25 rfl (lv_at hl 3 rfl) ?_
    refine lv_aload_n hx hb dX10_talk_26 rfl (lv_at hl 1 rfl) ?_
    refine g_10_4 (S := S) (x := (nI g0)) X w h.v10 wF_X10_41 (eh) dX10_talk_27 ?_
    refine lv_sipush (v := 719) hx hb dX10_talk_30 (by decide) ?_
    refine cS (S := S) (nA := 3) (As := [.int b, .int (nI g0), .int 719]) (rest := []) X w hl (m_X10_isOutside G S b (nI g0) 719) wY_X10_isOutside wM_X10_48 wSt_X10_isOutside wI_X10 (by decide +kernel) rfl rfl dX10_talk_33 ⟨by decide, by decide⟩ (Nat.le_of_ble_eq_true rfl) (⟨Nat.le_of_ble_eq_true rfl, Nat.le_of_ble_eq_true rfl⟩) (fun v3 S1 H locs hp w => ?_)
    obtain ⟨rfl, rfl⟩ := hp
    refine lv_if_ne (tgt := 49) hx hb dX10_talk_36 (by decide) (fun hc36 => ?_) (fun hc36 => ?_)
    · exact rT (S := S) (names := ["java/lang/RuntimeException", "java/lang/Exception"]) X w hl hno (by decide) (by decide) wC_X10_52 wI_java_lang_IllegalArgumentException wS9_X10_155 at_IAE go_IAE ⟨by decide, by decide⟩ dX10_talk_49 dX10_talk_52 dX10_talk_53 dX10_talk_55 dX10_talk_58 (by decide) (by decide) (Nat.le_of_ble_eq_true rfl) (Nat.le_of_ble_eq_true rfl) (Nat.le_of_ble_eq_true rfl) (Nat.le_of_ble_eq_true rfl) (⟨rfl, by decide⟩)
    · refine lv_iload_n hx hb dX10_talk_39 rfl (lv_at hl 4 rfl) ?_
      refine lv_iconst (v := 0) hx hb dX10_talk_40 (by decide) ?_
      refine lv_bipush (v := 15) hx hb dX10_talk_41 (by decide) ?_
      refine cS (S := S) (nA := 3) (As := [.int d, .int 0, .int 15]) (rest := []) X w hl (m_X10_isOutside G S d 0 15) wY_X10_isOutside wM_X10_48 wSt_X10_isOutside wI_X10 (by decide +kernel) rfl rfl dX10_talk_43 ⟨by decide, by decide⟩ (Nat.le_of_ble_eq_true rfl) (⟨Nat.le_of_ble_eq_true rfl, Nat.le_of_ble_eq_true rfl⟩) (fun v4 S1 H locs hp w => ?_)
      obtain ⟨rfl, rfl⟩ := hp
      refine lv_if_eq (tgt := 59) hx hb dX10_talk_46 (by decide) (fun hc5 => ?_) (fun hc5 => ?_)
      · refine lv_iload hx hb dX10_talk_59 (lv_at hl 5 rfl) ?_
        refine lv_iconst (v := 1) hx hb dX10_talk_61 (by decide) ?_
        refine lv_sipush (v := 300) hx hb dX10_talk_62 (by decide) ?_
        refine cS (S := S) (nA := 3) (As := [.int g, .int 1, .int 300]) (rest := []) X w hl (m_X10_isOutside G S g 1 300) wY_X10_isOutside wM_X10_48 wSt_X10_isOutside wI_X10 (by decide +kernel) rfl rfl dX10_talk_65 ⟨by decide, by decide⟩ (Nat.le_of_ble_eq_true rfl) (⟨Nat.le_of_ble_eq_true rfl, Nat.le_of_ble_eq_true rfl⟩) (fun v6 S1 H locs hp w => ?_)
        obtain ⟨rfl, rfl⟩ := hp
        refine lv_if_ne (tgt := 82) hx hb dX10_talk_68 (by decide) (fun hc68 => ?_) (fun hc68 => ?_)
        · exact rT (S := S) (names := ["java/lang/RuntimeException", "java/lang/Exception"]) X w hl hno (by decide) (by decide) wC_X10_52 wI_java_lang_IllegalArgumentException wS9_X10_157 at_IAE go_IAE ⟨by decide, by decide⟩ dX10_talk_82 dX10_talk_85 dX10_talk_86 dX10_talk_88 dX10_talk_91 (by decide) (by decide) (Nat.le_of_ble_eq_true rfl) (Nat.le_of_ble_eq_true rfl) (Nat.le_of_ble_eq_true rfl) (Nat.le_of_ble_eq_true rfl) (⟨rfl, by decide⟩)
        · refine lv_iload hx hb dX10_talk_71 (lv_at hl 6 rfl) ?_
          refine lv_iconst (v := 0) hx hb dX10_talk_73 (by decide) ?_
          refine lv_bipush (v := 9) hx hb dX10_talk_74 (by decide) ?_
          refine cS (S := S) (nA := 3) (As := [.int e_, .int 0, .int 9]) (rest := []) X w hl (m_X10_isOutside G S e_ 0 9) wY_X10_isOutside wM_X10_48 wSt_X10_isOutside wI_X10 (by decide +kernel) rfl rfl dX10_talk_76 ⟨by decide, by decide⟩ (Nat.le_of_ble_eq_true rfl) (⟨Nat.le_of_ble_eq_true rfl, Nat.le_of_ble_eq_true rfl⟩) (fun v7 S1 H locs hp w => ?_)
          obtain ⟨rfl, rfl⟩ := hp
          refine lv_if_eq (tgt := 92) hx hb dX10_talk_79 (by decide) (fun hc8 => ?_) (fun hc8 => ?_)
          · refine lv_iload hx hb dX10_talk_92 (lv_at hl 7 rfl) ?_
            refine lv_iconst (v := 0) hx hb dX10_talk_94 (by decide) ?_
            refine lv_ldc hx hb hown (hts _ wK_X10_159) dX10_talk_95 ?_
            refine cS (S := S) (nA := 3) (As := [.int f, .int 0, .int 65535]) (rest := []) X w hl (m_X10_isOutside G S f 0 65535) wY_X10_isOutside wM_X10_48 wSt_X10_isOutside wI_X10 (by decide +kernel) rfl rfl dX10_talk_97 ⟨by decide, by decide⟩ (Nat.le_of_ble_eq_true rfl) (⟨Nat.le_of_ble_eq_true rfl, Nat.le_of_ble_eq_true rfl⟩) (fun v9 S1 H locs hp w => ?_)
            obtain ⟨rfl, rfl⟩ := hp
            refine lv_if_eq (tgt := 113) hx hb dX10_talk_100 (by decide) (fun hc10 => ?_) (fun hc10 => ?_)
            · refine lv_aload_n hx hb dX10_talk_113 rfl (lv_at hl 1 rfl) ?_
              refine g_10_2 (S := S) (x := (some (gG S 4 0))) X w h.v10 wF_X10_28 (h.f162) dX10_talk_114 ?_
              refine g_4_0 (S := S) (x := (some (gG S 17 3))) X w h.v4 wF_X10_162 (h.f64) dX10_talk_117 ?_
              refine cV (S := S) (nA := 0) (As := []) (rest := []) X w hl h.l_ta.1 (m_size G S ea 3 nt h.l_ta) wY_Jx4a65c_size_8abf5 wM_X10_66 wIn_Jx4a65c_size_8abf5 wSe_Jx4a65c_Jx4a65c_size_8abf5 wI_Jx4a65c (by decide) rfl (by decide +kernel) rfl rfl dX10_talk_120 ⟨by decide, by decide⟩ (Nat.le_of_ble_eq_true rfl) (⟨Nat.le_of_ble_eq_true rfl, Nat.le_of_ble_eq_true rfl⟩) (fun v11 S1 H locs hp w => ?_)
              obtain ⟨rfl, rfl⟩ := hp
              refine lv_bipush (v := 40) hx hb dX10_talk_123 (by decide) ?_
              refine lv_icmp_lt (tgt := 138) hx hb dX10_talk_125 (by decide) (fun hc_n => ?_) (fun hc_n => ?_)
              · have hn9 : nt < 40 := (nI_ltI (a := nt) (b := 40) (by omega) (by decide)).mp hc_n
                refine lv_aload hx hb dX10_talk_138 (lv_at hl 0 rfl) ?_
                refine lv_iload_n hx hb dX10_talk_140 rfl (lv_at hl 3 rfl) ?_
                refine lv_bipush (v := 24) hx hb dX10_talk_141 (by decide) ?_
                refine lv_irem hx hb dX10_talk_143 (by decide) ?_
                refine cV (S := S) (nA := 1) (As := [.int (b - b / 24 * 24)]) (rest := []) X w hl (h.e_st j1 hlj1).2 (m_X8_isOnAir G S ea ns nj nm nt nr nc h j1 hlj1 (b - b / 24 * 24)) wY_X8_isOnAir wM_X10_167 wIn_X8_isOnAir wSe_X8_X8_isOnAir wI_X8 (by decide) rfl (by decide +kernel) rfl rfl dX10_talk_144 ⟨by decide, by decide⟩ (Nat.le_of_ble_eq_true rfl) (⟨Nat.le_of_ble_eq_true rfl, Nat.le_of_ble_eq_true rfl⟩) (fun v12 S1 H locs hp w => ?_)
                obtain ⟨rfl, rfl⟩ := hp
                refine lv_if_eq (tgt := 163) hx hb dX10_talk_147 (by decide) (fun hc13 => ?_) (fun hc13 => ?_)
                · exact rT (S := S) (names := ["java/lang/RuntimeException", "java/lang/Exception"]) X w hl hno (by decide) (by decide) wC_X10_72 wI_java_lang_IllegalStateException wS9_X10_175 at_ISE go_ISE ⟨by decide, by decide⟩ dX10_talk_163 dX10_talk_166 dX10_talk_167 dX10_talk_169 dX10_talk_172 (by decide) (by decide) (Nat.le_of_ble_eq_true rfl) (Nat.le_of_ble_eq_true rfl) (Nat.le_of_ble_eq_true rfl) (Nat.le_of_ble_eq_true rfl) (⟨rfl, by decide⟩)
                · refine lv_aload_n hx hb dX10_talk_150 rfl (lv_at hl 1 rfl) ?_
                  refine g_10_2 (S := S) (x := (some (gG S 4 0))) X w h.v10 wF_X10_28 (h.f162) dX10_talk_151 ?_
                  refine lv_aload hx hb dX10_talk_154 (lv_at hl 0 rfl) ?_
                  refine lv_iload_n hx hb dX10_talk_156 rfl (lv_at hl 3 rfl) ?_
                  refine cV (S := S) (nA := 2) (As := [.ref (gG S 8 j1), .int b]) (rest := []) X w hl h.v4 (m_X4_hasTalk G S ea ns nj nm nt nr nc h j1 hlj1 b) wY_X4_hasTalk wM_X10_171 wIn_X4_hasTalk wSe_X4_X4_hasTalk wI_X4 (by decide) rfl (by decide +kernel) rfl rfl dX10_talk_157 ⟨by decide, by decide⟩ (Nat.le_of_ble_eq_true rfl) (⟨Nat.le_of_ble_eq_true rfl, Nat.le_of_ble_eq_true rfl⟩) (fun v15 S1 H locs hp w => ?_)
                  obtain ⟨⟨x14, rfl⟩, rfl⟩ := hp
                  refine lv_if_eq (tgt := 173) hx hb dX10_talk_160 (by decide) (fun hc16 => ?_) (fun hc16 => ?_)
                  · refine lv_aload_n hx hb dX10_talk_173 rfl (lv_at hl 1 rfl) ?_
                    refine g_10_2 (S := S) (x := (some (gG S 4 0))) X w h.v10 wF_X10_28 (h.f162) dX10_talk_174 ?_
                    refine g_4_0 (S := S) (x := (some (gG S 17 3))) X w h.v4 wF_X10_162 (h.f64) dX10_talk_177 ?_
                    refine cV (S := S) (nA := 0) (As := []) (rest := []) X w hl h.l_ta.1 (m_size G S ea 3 nt h.l_ta) wY_Jx4a65c_size_8abf5 wM_X10_66 wIn_Jx4a65c_size_8abf5 wSe_Jx4a65c_Jx4a65c_size_8abf5 wI_Jx4a65c (by decide) rfl (by decide +kernel) rfl rfl dX10_talk_180 ⟨by decide, by decide⟩ (Nat.le_of_ble_eq_true rfl) (⟨Nat.le_of_ble_eq_true rfl, Nat.le_of_ble_eq_true rfl⟩) (fun v17 S1 H locs hp w => ?_)
                    obtain ⟨rfl, rfl⟩ := hp
                    refine lv_istore (lv' := [(8, .int (nI nt)), (7, .ref (gG S 8 j1)), (0, .ref (gG S 10 0)), (1, .int a), (2, .int b), (3, .int d), (4, .int g), (5, .int e_), (6, .int f)]) hx hb dX10_talk_183 hl (by decide) rfl (fun ls hl => ?_)
                    refine lv_aload_n hx hb dX10_talk_185 rfl (lv_at hl 2 rfl) ?_
                    refine g_10_2 (S := S) (x := (some (gG S 4 0))) X w h.v10 wF_X10_28 (h.f162) dX10_talk_186 ?_
                    refine g_4_0 (S := S) (x := (some (gG S 17 3))) X w h.v4 wF_X10_162 (h.f64) dX10_talk_189 ?_
                    refine nwO (S := S) (t := 9) (n := 9) X w nt (h.z_ta nt (Nat.le_refl _)) (Or.inl (by decide)) (by decide) rfl in_9 tyX9 tyX9_ok (by decide +kernel) wC_X10_177 wNew_X9 wI_X9 dX10_talk_192 rfl (Nat.le_of_ble_eq_true rfl) (Nat.le_of_ble_eq_true rfl) (fun q1 S2 H hS2 w => ?_)
                    subst hS2
                    refine lv_dup hx hb dX10_talk_195 rfl ?_
                    refine lv_iload hx hb dX10_talk_196 (lv_at hl 0 rfl) ?_
                    refine lv_aload hx hb dX10_talk_198 (lv_at hl 1 rfl) ?_
                    refine lv_iload_n hx hb dX10_talk_200 rfl (lv_at hl 4 rfl) ?_
                    refine lv_iload_n hx hb dX10_talk_201 rfl (lv_at hl 5 rfl) ?_
                    refine lv_iload hx hb dX10_talk_202 (lv_at hl 6 rfl) ?_
                    refine lv_iload hx hb dX10_talk_204 (lv_at hl 7 rfl) ?_
                    refine lv_iload hx hb dX10_talk_206 (lv_at hl 8 rfl) ?_
                    refine cI (S := (sNew S 9 nt q1)) (nA := 7) (As := [.int (nI nt), .ref (gG S 8 j1), .int b, .int d, .int g, .int e_, .int f]) (rest := [.ref (gG (sNew S 9 nt q1) 9 nt), .ref (gG S 17 3)]) X w hl (m_X9_init G (sNew S 9 nt q1) nt (Or.inr ⟨rfl, rfl⟩) (nI nt) j1 b d g e_ f) wY_X9_init wM_X10_179 wIn_X9_init wI_X9 rfl (by decide +kernel) rfl rfl dX10_talk_208 ⟨by decide, by decide⟩ (Nat.le_of_ble_eq_true rfl) (⟨Nat.le_of_ble_eq_true rfl, Nat.le_of_ble_eq_true rfl⟩) (fun v19 S1 H locs hp w => ?_)
                    obtain ⟨rfl, rfl⟩ := hp
                    refine cV (S := (sI (sI (sI (sI (sI (sR (sI (sI (sNew S 9 nt q1) 151 nt (-1)) 144 nt (nI nt)) 145 nt (some (gG (sNew S 9 nt q1) 8 j1))) 146 nt b) 147 nt d) 148 nt g) 149 nt e_) 150 nt f)) (nA := 1) (As := [.ref (gG (sNew S 9 nt q1) 9 nt)]) (rest := []) X w hl (Or.inl h.l_ta.1) (add_new G S (sI (sI (sI (sI (sI (sR (sI (sI (sNew S 9 nt q1) 151 nt (-1)) 144 nt (nI nt)) 145 nt (some (gG (sNew S 9 nt q1) 8 j1))) 146 nt b) 147 nt d) 148 nt g) 149 nt e_) 150 nt f) 3 nt 9 q1 (hea ▸ h.l_ta) (by decide) (h.z_ta nt (Nat.le_refl _)) rfl rfl (by simp [mI, sI, sR, sNew, up2]) (by simp [mR, sI, sR, sNew, up2]) rfl rfl (by omega) h.z30.2.2.2.1 (h.z31 3) h.el_ta) wY_Jx4a65c_add_9ea2d wM_X10_82 wIn_Jx4a65c_add_9ea2d wSe_Jx4a65c_Jx4a65c_add_9ea2d wI_Jx4a65c (by decide) rfl (by decide +kernel) rfl rfl dX10_talk_211 ⟨by decide, by decide⟩ (Nat.le_of_ble_eq_true rfl) (⟨Nat.le_of_ble_eq_true rfl, Nat.le_of_ble_eq_true rfl⟩) (fun v20 S1 H locs hp w => ?_)
                    obtain ⟨rfl, q2, m2, b2, rfl, hb0, hb1⟩ := hp
                    refine lv_pop hx hb dX10_talk_214 rfl ?_
                    refine lv_iload hx hb dX10_talk_215 (lv_at hl 0 rfl) ?_
                    exact rXr (rI X w rfl dX10_talk_217 (by decide) (by decide) (⟨_, by assumption, so_h hg0 (b2i_f hc36), so_w (b2i_f hc68), hn9, rfl, q1, _, _, _, rfl, hb0, hb1⟩))
                  · exact rT (S := S) (names := ["java/lang/RuntimeException", "java/lang/Exception"]) X w hl hno (by decide) (by decide) wC_X10_72 wI_java_lang_IllegalStateException wS9_X10_175 at_ISE go_ISE ⟨by decide, by decide⟩ dX10_talk_163 dX10_talk_166 dX10_talk_167 dX10_talk_169 dX10_talk_172 (by decide) (by decide) (Nat.le_of_ble_eq_true rfl) (Nat.le_of_ble_eq_true rfl) (Nat.le_of_ble_eq_true rfl) (Nat.le_of_ble_eq_true rfl) (⟨rfl, by decide⟩)
              · exact rT (S := S) (names := ["java/lang/RuntimeException", "java/lang/Exception"]) X w hl hno (by decide) (by decide) wC_X10_72 wI_java_lang_IllegalStateException wS9_X10_165 at_ISE go_ISE ⟨by decide, by decide⟩ dX10_talk_128 dX10_talk_131 dX10_talk_132 dX10_talk_134 dX10_talk_137 (by decide) (by decide) (Nat.le_of_ble_eq_true rfl) (Nat.le_of_ble_eq_true rfl) (Nat.le_of_ble_eq_true rfl) (Nat.le_of_ble_eq_true rfl) (⟨rfl, by decide⟩)
            · exact rT (S := S) (names := ["java/lang/RuntimeException", "java/lang/Exception"]) X w hl hno (by decide) (by decide) wC_X10_52 wI_java_lang_IllegalArgumentException wS9_X10_160 at_IAE go_IAE ⟨by decide, by decide⟩ dX10_talk_103 dX10_talk_106 dX10_talk_107 dX10_talk_109 dX10_talk_112 (by decide) (by decide) (Nat.le_of_ble_eq_true rfl) (Nat.le_of_ble_eq_true rfl) (Nat.le_of_ble_eq_true rfl) (Nat.le_of_ble_eq_true rfl) (⟨rfl, by decide⟩)
          · exact rT (S := S) (names := ["java/lang/RuntimeException", "java/lang/Exception"]) X w hl hno (by decide) (by decide) wC_X10_52 wI_java_lang_IllegalArgumentException wS9_X10_157 at_IAE go_IAE ⟨by decide, by decide⟩ dX10_talk_82 dX10_talk_85 dX10_talk_86 dX10_talk_88 dX10_talk_91 (by decide) (by decide) (Nat.le_of_ble_eq_true rfl) (Nat.le_of_ble_eq_true rfl) (Nat.le_of_ble_eq_true rfl) (Nat.le_of_ble_eq_true rfl) (⟨rfl, by decide⟩)
      · exact rT (S := S) (names := ["java/lang/RuntimeException", "java/lang/Exception"]) X w hl hno (by decide) (by decide) wC_X10_52 wI_java_lang_IllegalArgumentException wS9_X10_155 at_IAE go_IAE ⟨by decide, by decide⟩ dX10_talk_49 dX10_talk_52 dX10_talk_53 dX10_talk_55 dX10_talk_58 (by decide) (by decide) (Nat.le_of_ble_eq_true rfl) (Nat.le_of_ble_eq_true rfl) (Nat.le_of_ble_eq_true rfl) (Nat.le_of_ble_eq_true rfl) (⟨rfl, by decide⟩)

/-- how many stations, jammers, monitors, readers -/
abbrev Cn : Type := Nat × Nat × Nat × Nat
/-- the class is in order -/
def CX (ea : Nat) (S : HS) (cn : Cn) : Prop := ∃ nt nc, CI ea S cn.1 cn.2.1 cn.2.2.1 nt cn.2.2.2 nc ∧ RH S nt
def PKi (ea : Nat) (S : HS) (cn : Cn) : Option Value → HS → Prop := fun v S' => (∃ x : Int32, some (.int x) = v) ∧ CX ea S' cn ∧ Keep S S'
def PKz (ea : Nat) (S : HS) (cn : Cn) : Option Value → HS → Prop := fun v S' => (∃ b : Bool, some (.int (b2i b)) = v) ∧ CX ea S' cn ∧ Keep S S'
def PKl (ea : Nat) (S : HS) (cn : Cn) : Option Value → HS → Prop := fun v S' => (∃ x : Int64, some (.long x) = v) ∧ CX ea S' cn ∧ Keep S S'
def PKd (ea : Nat) (S : HS) (cn : Cn) : Option Value → HS → Prop := fun v S' => (∃ x : UInt64, some (.double x) = v) ∧ CX ea S' cn ∧ Keep S S'
def XK (ea : Nat) (S : HS) (cn : Cn) (L : List String) : String → HS → Prop := fun E S' => E ∈ L ∧ CX ea S' cn ∧ Keep S S'
theorem CtX.post {s0 : State} {l : Launch} {D : va_G} {cy : Nat → ClassId} {y : MethodName} {cc : ByteArray} {n : Nat} {ret : Option FieldType} {rm : Room} {S : HS} {As : List Value} {post post' : Option Value → HS → Prop} {px px' : String → HS → Prop} (h : CtX s0 l D cy y cc n ret rm S As post px) (hp : ∀ v S', post v S' → post' v S') (hx : ∀ E S', px E S' → px' E S') : CtX s0 l D cy y cc n ret rm S As post' px' := by
  unfold CtX vx_Met at h ⊢
  exact MetFree.mono h (fun _ _ x => x) (fun _ _ _ _ _ x => x) (fun a s o t _ q => q.elim (fun ⟨⟨⟨v, S', h1, h2, h3⟩, h4⟩, h5⟩ => Or.inl ⟨⟨⟨v, S', h1, hp v S' h2, h3⟩, h4⟩, h5⟩) (fun ⟨q, e, E, ce, L, ⟨⟨S', x1, x2⟩, x3⟩, rest⟩ => Or.inr ⟨q, e, E, ce, L, ⟨⟨S', hx E S' x1, x2⟩, x3⟩, rest⟩))
theorem RH.of {S T : HS} {nt : Nat} (h : RH S nt) (eR : ∀ j, mR T 152 j = mR S 152 j) (eV : ∀ j, vV T 6 j → vV S 6 j) (e1 : ∀ j, mI T 146 j = mI S 146 j) (e2 : mI T 164 0 = mI S 164 0) : RH T nt := fun j hj => by
  rw [eR, e1, e2]
  exact ⟨fun z v => (h j hj).1 z (eV j v), (h j hj).2⟩
theorem stK_0 {ns : Nat} {a b d g e_ f : Int32} (k : stK ns a b d g e_ f = 0) : ns < 8 ∧ ∃ g, g < 5 ∧ e_ = nI g := by
  unfold stK at k
  by_cases c : (sOut a 0 99 || (sOut b 1 9 || (sOut d 0 9 || (sOut g 0 5 || (sOut e_ 0 4 || sOut f 0 16777215))))) = true
  · rw [if_pos c] at k; exact absurd k (by decide)
  · rw [if_neg c] at k
    have c1 := Bool.eq_false_iff.mpr c
    rw [Bool.or_eq_false_iff, Bool.or_eq_false_iff, Bool.or_eq_false_iff, Bool.or_eq_false_iff, Bool.or_eq_false_iff] at c1
    by_cases c2 : 8 ≤ ns
    · rw [if_pos c2] at k; exact absurd k (by decide)
    · exact ⟨Nat.lt_of_not_le c2, out_in (n := 5) (by decide) (by rw [show (nI 5 - 1 : Int32) = 4 by decide]; exact c1.2.2.2.2.1)⟩
theorem jmK_0 {n : Nat} {a b : Int32} (k : jmK n a b = 0) : n < 6 := by
  unfold jmK at k
  by_cases c2 : 6 ≤ n
  · rw [if_pos c2] at k
    split at k <;> exact absurd k (by decide)
  · exact Nat.lt_of_not_le c2
theorem moK_0 {n : Nat} {a : Int32} (k : moK n a = 0) : n < 5 := by
  unfold moK at k
  by_cases c2 : 5 ≤ n
  · rw [if_pos c2] at k
    split at k <;> exact absurd k (by decide)
  · exact Nat.lt_of_not_le c2
theorem reK_0 {n : Nat} {a b : Int32} (k : reK n a b = 0) : n < 4 := by
  unfold reK at k
  by_cases c2 : 4 ≤ n
  · rw [if_pos c2] at k
    split at k <;> exact absurd k (by decide)
  · exact Nat.lt_of_not_le c2

theorem k_X10_ofStation {s0 : State} {l : Launch} {D : va_G} {cy : Nat → ClassId} (G : Gl s0 l D cy) (S : HS) {cn : Cn} (hC : CX (eaOf s0) S cn) (a b : Int32) : CtX s0 l D cy yX10_ofStation cX10_ofStation 4 (some .int) rm_m_X10_ofStation S [.ref (gG S 10 0), .int a, .int b] (PKi (eaOf s0) S cn) (XK (eaOf s0) S cn ["java/lang/IndexOutOfBoundsException", "java/lang/IllegalArgumentException"]) := by
  obtain ⟨ns, nj, nm, nr⟩ := cn
  obtain ⟨nt, nc, h, hr⟩ := hC
  have h : CI (eaOf s0) S ns nj nm nt nr nc := h
  exact (m_X10_ofStation G S (eaOf s0) ns nj nm nt nr nc h a b).post (fun v S' ⟨⟨x, e⟩, e2⟩ => by subst e2; exact ⟨⟨x, e⟩, ⟨nt, nc, h, hr⟩, Kq.rf⟩) (fun E S' ⟨e, k⟩ => by subst e; exact ⟨k, ⟨nt, nc, h, hr⟩, Kq.rf⟩)
theorem k_X10_comes {s0 : State} {l : Launch} {D : va_G} {cy : Nat → ClassId} (G : Gl s0 l D cy) (S : HS) {cn : Cn} (hC : CX (eaOf s0) S cn) (a b : Int32) : CtX s0 l D cy yX10_comes cX10_comes 4 (some .int) rm_m_X10_comes S [.ref (gG S 10 0), .int a, .int b] (PKi (eaOf s0) S cn) (XK (eaOf s0) S cn ["java/lang/IndexOutOfBoundsException"]) := by
  obtain ⟨ns, nj, nm, nr⟩ := cn
  obtain ⟨nt, nc, h, hr⟩ := hC
  have h : CI (eaOf s0) S ns nj nm nt nr nc := h
  exact (m_X10_comes G S (eaOf s0) ns nj nm nt nr nc h a b).post (fun v S' ⟨⟨x, e⟩, e2⟩ => by subst e2; exact ⟨⟨x, e⟩, ⟨nt, nc, h, hr⟩, Kq.rf⟩) (fun E S' ⟨e, k⟩ => by subst e; exact ⟨k, ⟨nt, nc, h, hr⟩, Kq.rf⟩)
theorem k_X10_ofMonitor {s0 : State} {l : Launch} {D : va_G} {cy : Nat → ClassId} (G : Gl s0 l D cy) (S : HS) {cn : Cn} (hC : CX (eaOf s0) S cn) (a b : Int32) : CtX s0 l D cy yX10_ofMonitor cX10_ofMonitor 4 (some .int) rm_m_X10_ofMonitor S [.ref (gG S 10 0), .int a, .int b] (PKi (eaOf s0) S cn) (XK (eaOf s0) S cn ["java/lang/IndexOutOfBoundsException", "java/lang/IllegalArgumentException"]) := by
  obtain ⟨ns, nj, nm, nr⟩ := cn
  obtain ⟨nt, nc, h, hr⟩ := hC
  have h : CI (eaOf s0) S ns nj nm nt nr nc := h
  exact (m_X10_ofMonitor G S (eaOf s0) ns nj nm nt nr nc h a b).post (fun v S' ⟨⟨x, e⟩, e2⟩ => by subst e2; exact ⟨⟨x, e⟩, ⟨nt, nc, h, hr⟩, Kq.rf⟩) (fun E S' ⟨e, k⟩ => by subst e; exact ⟨k, ⟨nt, nc, h, hr⟩, Kq.rf⟩)
theorem k_X10_sits {s0 : State} {l : Launch} {D : va_G} {cy : Nat → ClassId} (G : Gl s0 l D cy) (S : HS) {cn : Cn} (hC : CX (eaOf s0) S cn) (a b z : Int32) : CtX s0 l D cy yX10_sits cX10_sits 4 (some .int) rm_m_X10_sits S [.ref (gG S 10 0), .int a, .int b, .int z] (PKi (eaOf s0) S cn) (XK (eaOf s0) S cn ["java/lang/IndexOutOfBoundsException"]) := by
  obtain ⟨ns, nj, nm, nr⟩ := cn
  obtain ⟨nt, nc, h, hr⟩ := hC
  have h : CI (eaOf s0) S ns nj nm nt nr nc := h
  exact (m_X10_sits G S (eaOf s0) ns nj nm nt nr nc h a b z).post (fun v S' ⟨⟨x, e⟩, e2⟩ => by subst e2; exact ⟨⟨x, e⟩, ⟨nt, nc, h, hr⟩, Kq.rf⟩) (fun E S' ⟨e, k⟩ => by subst e; exact ⟨k, ⟨nt, nc, h, hr⟩, Kq.rf⟩)
theorem k_X10_quality {s0 : State} {l : Launch} {D : va_G} {cy : Nat → ClassId} (G : Gl s0 l D cy) (S : HS) {cn : Cn} (hC : CX (eaOf s0) S cn) (a b d : Int32) : CtX s0 l D cy yX10_quality cX10_quality 6 (some .int) rm_m_X10_quality S [.ref (gG S 10 0), .int a, .int b, .int d] (PKi (eaOf s0) S cn) (XK (eaOf s0) S cn ["java/lang/IndexOutOfBoundsException"]) := by
  obtain ⟨ns, nj, nm, nr⟩ := cn
  obtain ⟨nt, nc, h, hr⟩ := hC
  have h : CI (eaOf s0) S ns nj nm nt nr nc := h
  exact (m_X10_quality G S (eaOf s0) ns nj nm nt nr nc h a b d).post (fun v S' ⟨⟨x, e⟩, e2⟩ => by subst e2; exact ⟨⟨x, e⟩, ⟨nt, nc, h, hr⟩, Kq.rf⟩) (fun E S' ⟨e, k⟩ => by subst e; exact ⟨k, ⟨nt, nc, h, hr⟩, Kq.rf⟩)
theorem k_X10_ofTalk {s0 : State} {l : Launch} {D : va_G} {cy : Nat → ClassId} (G : Gl s0 l D cy) (S : HS) {cn : Cn} (hC : CX (eaOf s0) S cn) (a b : Int32) : CtX s0 l D cy yX10_ofTalk cX10_ofTalk 4 (some .int) rm_m_X10_ofTalk S [.ref (gG S 10 0), .int a, .int b] (PKi (eaOf s0) S cn) (XK (eaOf s0) S cn ["java/lang/IndexOutOfBoundsException", "java/lang/IllegalArgumentException"]) := by
  obtain ⟨ns, nj, nm, nr⟩ := cn
  obtain ⟨nt, nc, h, hr⟩ := hC
  have h : CI (eaOf s0) S ns nj nm nt nr nc := h
  exact (m_X10_ofTalk G S (eaOf s0) ns nj nm nt nr nc h a b).post (fun v S' ⟨⟨x, e⟩, e2⟩ => by subst e2; exact ⟨⟨x, e⟩, ⟨nt, nc, h, hr⟩, Kq.rf⟩) (fun E S' ⟨e, k⟩ => by subst e; exact ⟨k, ⟨nt, nc, h, hr⟩, Kq.rf⟩)
theorem k_X10_ofReport {s0 : State} {l : Launch} {D : va_G} {cy : Nat → ClassId} (G : Gl s0 l D cy) (S : HS) {cn : Cn} (hC : CX (eaOf s0) S cn) (a b : Int32) : CtX s0 l D cy yX10_ofReport cX10_ofReport 4 (some .int) rm_m_X10_ofReport S [.ref (gG S 10 0), .int a, .int b] (PKi (eaOf s0) S cn) (XK (eaOf s0) S cn ["java/lang/IndexOutOfBoundsException", "java/lang/IllegalArgumentException"]) := by
  obtain ⟨ns, nj, nm, nr⟩ := cn
  obtain ⟨nt, nc, h, hr⟩ := hC
  have h : CI (eaOf s0) S ns nj nm nt nr nc := h
  exact (m_X10_ofReport G S (eaOf s0) ns nj nm nt nr nc h a b).post (fun v S' ⟨⟨x, e⟩, e2⟩ => by subst e2; exact ⟨⟨x, e⟩, ⟨nt, nc, h, hr⟩, Kq.rf⟩) (fun E S' ⟨e, k⟩ => by subst e; exact ⟨k, ⟨nt, nc, h, hr⟩, Kq.rf⟩)
theorem k_X10_got {s0 : State} {l : Launch} {D : va_G} {cy : Nat → ClassId} (G : Gl s0 l D cy) (S : HS) {cn : Cn} (hC : CX (eaOf s0) S cn) (a b : Int32) : CtX s0 l D cy yX10_got cX10_got 5 (some .int) rm_m_X10_got S [.ref (gG S 10 0), .int a, .int b] (PKi (eaOf s0) S cn) (XK (eaOf s0) S cn ["java/lang/IndexOutOfBoundsException"]) := by
  obtain ⟨ns, nj, nm, nr⟩ := cn
  obtain ⟨nt, nc, h, hr⟩ := hC
  have h : CI (eaOf s0) S ns nj nm nt nr nc := h
  exact (m_X10_got G S (eaOf s0) ns nj nm nt nr nc h a b).post (fun v S' ⟨⟨x, e⟩, e2⟩ => by subst e2; exact ⟨⟨x, e⟩, ⟨nt, nc, h, hr⟩, Kq.rf⟩) (fun E S' ⟨e, k⟩ => by subst e; exact ⟨k, ⟨nt, nc, h, hr⟩, Kq.rf⟩)
theorem k_X10_ofReader {s0 : State} {l : Launch} {D : va_G} {cy : Nat → ClassId} (G : Gl s0 l D cy) (S : HS) {cn : Cn} (hC : CX (eaOf s0) S cn) (a b : Int32) : CtX s0 l D cy yX10_ofReader cX10_ofReader 4 (some .int) rm_m_X10_ofReader S [.ref (gG S 10 0), .int a, .int b] (PKi (eaOf s0) S cn) (XK (eaOf s0) S cn ["java/lang/IndexOutOfBoundsException", "java/lang/IllegalArgumentException"]) := by
  obtain ⟨ns, nj, nm, nr⟩ := cn
  obtain ⟨nt, nc, h, hr⟩ := hC
  have h : CI (eaOf s0) S ns nj nm nt nr nc := h
  exact (m_X10_ofReader G S (eaOf s0) ns nj nm nt nr nc h a b).post (fun v S' ⟨⟨x, e⟩, e2⟩ => by subst e2; exact ⟨⟨x, e⟩, ⟨nt, nc, h, hr⟩, Kq.rf⟩) (fun E S' ⟨e, k⟩ => by subst e; exact ⟨k, ⟨nt, nc, h, hr⟩, Kq.rf⟩)
theorem k_X10_used {s0 : State} {l : Launch} {D : va_G} {cy : Nat → ClassId} (G : Gl s0 l D cy) (S : HS) {cn : Cn} (hC : CX (eaOf s0) S cn) (a b d g : Int32) : CtX s0 l D cy yX10_used cX10_used 5 (some .int) rm_m_X10_used S [.ref (gG S 10 0), .int a, .int b, .int d, .int g] (PKi (eaOf s0) S cn) (XK (eaOf s0) S cn ["java/lang/IndexOutOfBoundsException"]) := by
  obtain ⟨ns, nj, nm, nr⟩ := cn
  obtain ⟨nt, nc, h, hr⟩ := hC
  have h : CI (eaOf s0) S ns nj nm nt nr nc := h
  exact (m_X10_used G S (eaOf s0) ns nj nm nt nr nc h a b d g).post (fun v S' ⟨⟨x, e⟩, e2⟩ => by subst e2; exact ⟨⟨x, e⟩, ⟨nt, nc, h, hr⟩, Kq.rf⟩) (fun E S' ⟨e, k⟩ => by subst e; exact ⟨k, ⟨nt, nc, h, hr⟩, Kq.rf⟩)
theorem k_X10_gone {s0 : State} {l : Launch} {D : va_G} {cy : Nat → ClassId} (G : Gl s0 l D cy) (S : HS) {cn : Cn} (hC : CX (eaOf s0) S cn) (a : Int32) : CtX s0 l D cy yX10_gone cX10_gone 2 (some .int) rm_m_X10_gone S [.ref (gG S 10 0), .int a] (PKi (eaOf s0) S cn) (XK (eaOf s0) S cn ["java/lang/IndexOutOfBoundsException"]) := by
  obtain ⟨ns, nj, nm, nr⟩ := cn
  obtain ⟨nt, nc, h, hr⟩ := hC
  have h : CI (eaOf s0) S ns nj nm nt nr nc := h
  exact (m_X10_gone G S (eaOf s0) ns nj nm nt nr nc h a).post (fun v S' ⟨⟨x, e⟩, e2⟩ => by subst e2; exact ⟨⟨x, e⟩, ⟨nt, nc, h, hr⟩, Kq.rf⟩) (fun E S' ⟨e, k⟩ => by subst e; exact ⟨k, ⟨nt, nc, h, hr⟩, Kq.rf⟩)
theorem k_X10_first {s0 : State} {l : Launch} {D : va_G} {cy : Nat → ClassId} (G : Gl s0 l D cy) (S : HS) {cn : Cn} (hC : CX (eaOf s0) S cn) (a : Int32) : CtX s0 l D cy yX10_first cX10_first 2 (some .int) rm_m_X10_first S [.ref (gG S 10 0), .int a] (PKi (eaOf s0) S cn) (XK (eaOf s0) S cn ["java/lang/IndexOutOfBoundsException"]) := by
  obtain ⟨ns, nj, nm, nr⟩ := cn
  obtain ⟨nt, nc, h, hr⟩ := hC
  have h : CI (eaOf s0) S ns nj nm nt nr nc := h
  exact (m_X10_first G S (eaOf s0) ns nj nm nt nr nc h a).post (fun v S' ⟨⟨x, e⟩, e2⟩ => by subst e2; exact ⟨⟨x, e⟩, ⟨nt, nc, h, hr⟩, Kq.rf⟩) (fun E S' ⟨e, k⟩ => by subst e; exact ⟨k, ⟨nt, nc, h, hr⟩, Kq.rf⟩)
theorem k_X10_clarity {s0 : State} {l : Launch} {D : va_G} {cy : Nat → ClassId} (G : Gl s0 l D cy) (S : HS) {cn : Cn} (hC : CX (eaOf s0) S cn) (a : Int32) : CtX s0 l D cy yX10_clarity cX10_clarity 2 (some .double) rm_m_X10_clarity S [.ref (gG S 10 0), .int a] (PKd (eaOf s0) S cn) (XK (eaOf s0) S cn ["java/lang/IndexOutOfBoundsException"]) := by
  obtain ⟨ns, nj, nm, nr⟩ := cn
  obtain ⟨nt, nc, h, hr⟩ := hC
  have h : CI (eaOf s0) S ns nj nm nt nr nc := h
  exact (m_X10_clarity G S (eaOf s0) ns nj nm nt nr nc h a).post (fun v S' ⟨⟨x, e⟩, e2⟩ => by subst e2; exact ⟨⟨x, e⟩, ⟨nt, nc, h, hr⟩, Kq.rf⟩) (fun E S' ⟨e, k⟩ => by subst e; exact ⟨k, ⟨nt, nc, h, hr⟩, Kq.rf⟩)
theorem k_X10_desk {s0 : State} {l : Launch} {D : va_G} {cy : Nat → ClassId} (G : Gl s0 l D cy) (S : HS) {cn : Cn} (hC : CX (eaOf s0) S cn) (a : Int32) : CtX s0 l D cy yX10_desk cX10_desk 2 (some .int) rm_m_X10_desk S [.ref (gG S 10 0), .int a] (PKi (eaOf s0) S cn) (XK (eaOf s0) S cn ["java/lang/IllegalArgumentException"]) := by
  obtain ⟨ns, nj, nm, nr⟩ := cn
  obtain ⟨nt, nc, h, hr⟩ := hC
  have h : CI (eaOf s0) S ns nj nm nt nr nc := h
  exact (m_X10_desk G S (eaOf s0) ns nj nm nt nr nc h a).post (fun v S' ⟨⟨x, e⟩, e2⟩ => by subst e2; exact ⟨⟨x, e⟩, ⟨nt, nc, h, hr⟩, Kq.rf⟩) (fun E S' ⟨e, k⟩ => by subst e; exact ⟨k, ⟨nt, nc, h, hr⟩, Kq.rf⟩)
theorem k_X10_wouldHear {s0 : State} {l : Launch} {D : va_G} {cy : Nat → ClassId} (G : Gl s0 l D cy) (S : HS) {cn : Cn} (hC : CX (eaOf s0) S cn) (a : Int32) : CtX s0 l D cy yX10_wouldHear cX10_wouldHear 4 (some .int) rm_m_X10_wouldHear S [.ref (gG S 10 0), .int a] (PKi (eaOf s0) S cn) (XK (eaOf s0) S cn ["java/lang/IndexOutOfBoundsException", "java/lang/IllegalStateException"]) := by
  obtain ⟨ns, nj, nm, nr⟩ := cn
  obtain ⟨nt, nc, h, hr⟩ := hC
  have h : CI (eaOf s0) S ns nj nm nt nr nc := h
  exact (m_X10_wouldHear G S (eaOf s0) ns nj nm nt nr nc h a).post (fun v S' ⟨⟨x, e⟩, e2⟩ => by subst e2; exact ⟨⟨x, e⟩, ⟨nt, nc, h, hr⟩, Kq.rf⟩) (fun E S' ⟨e, k⟩ => by subst e; exact ⟨k, ⟨nt, nc, h, hr⟩, Kq.rf⟩)
theorem k_X10_wouldSend {s0 : State} {l : Launch} {D : va_G} {cy : Nat → ClassId} (G : Gl s0 l D cy) (S : HS) {cn : Cn} (hC : CX (eaOf s0) S cn) : Ctr s0 l D cy yX10_wouldSend cX10_wouldSend 1 (some .int) rm_m_X10_wouldSend S [.ref (gG S 10 0)] (PKi (eaOf s0) S cn) := by
  obtain ⟨ns, nj, nm, nr⟩ := cn
  obtain ⟨nt, nc, h, hr⟩ := hC
  have h : CI (eaOf s0) S ns nj nm nt nr nc := h
  exact (m_X10_wouldSend G S (eaOf s0) ns nj nm nt nr nc h ).post (fun v S' ⟨⟨x, e⟩, e2⟩ => by subst e2; exact ⟨⟨x, e⟩, ⟨nt, nc, h, hr⟩, Kq.rf⟩)
theorem k_X10_isSound {s0 : State} {l : Launch} {D : va_G} {cy : Nat → ClassId} (G : Gl s0 l D cy) (S : HS) {cn : Cn} (hC : CX (eaOf s0) S cn) : Ctr s0 l D cy yX10_isSound cX10_isSound 1 (some .boolean) rm_m_X10_isSound S [.ref (gG S 10 0)] (PKz (eaOf s0) S cn) := by
  obtain ⟨ns, nj, nm, nr⟩ := cn
  obtain ⟨nt, nc, h, hr⟩ := hC
  have h : CI (eaOf s0) S ns nj nm nt nr nc := h
  exact (m_X10_isSound G S (eaOf s0) ns nj nm nt nr nc h ).post (fun v S' ⟨⟨x, e⟩, e2⟩ => by subst e2; exact ⟨⟨x, e⟩, ⟨nt, nc, h, hr⟩, Kq.rf⟩)
theorem k_X10_best {s0 : State} {l : Launch} {D : va_G} {cy : Nat → ClassId} (G : Gl s0 l D cy) (S : HS) {cn : Cn} (hC : CX (eaOf s0) S cn) (a : Int32) : CtX s0 l D cy yX10_best cX10_best 2 (some .int) rm_m_X10_best S [.ref (gG S 10 0), .int a] (PKi (eaOf s0) S cn) (XK (eaOf s0) S cn ["java/lang/IndexOutOfBoundsException"]) := by
  obtain ⟨ns, nj, nm, nr⟩ := cn
  obtain ⟨nt, nc, h, hr⟩ := hC
  have h : CI (eaOf s0) S ns nj nm nt nr nc := h
  exact (n_X10_best G S (eaOf s0) ns nj nm nt nr nc h a).post (fun v S' ⟨⟨x, e⟩, a, b, c, e2⟩ => by subst e2; exact ⟨⟨x, e⟩, ⟨nt, nc, h.scr a b c, hr⟩, ((Kq.rf.sA rfl).sA rfl).sA rfl⟩) (fun E S' ⟨⟨a, b, c, e⟩, k⟩ => by subst e; exact ⟨k, ⟨nt, nc, h.scr a b c, hr⟩, ((Kq.rf.sA rfl).sA rfl).sA rfl⟩)
theorem k_X10_bestAt {s0 : State} {l : Launch} {D : va_G} {cy : Nat → ClassId} (G : Gl s0 l D cy) (S : HS) {cn : Cn} (hC : CX (eaOf s0) S cn) (a b z : Int32) : CtX s0 l D cy yX10_bestAt cX10_bestAt 4 (some .int) rm_m_X10_bestAt S [.ref (gG S 10 0), .int a, .int b, .int z] (PKi (eaOf s0) S cn) (XK (eaOf s0) S cn ["java/lang/IndexOutOfBoundsException"]) := by
  obtain ⟨ns, nj, nm, nr⟩ := cn
  obtain ⟨nt, nc, h, hr⟩ := hC
  have h : CI (eaOf s0) S ns nj nm nt nr nc := h
  exact (n_X10_bestAt G S (eaOf s0) ns nj nm nt nr nc h a b z).post (fun v S' ⟨⟨x, e⟩, a, b, c, e2⟩ => by subst e2; exact ⟨⟨x, e⟩, ⟨nt, nc, h.scr a b c, hr⟩, ((Kq.rf.sA rfl).sA rfl).sA rfl⟩) (fun E S' ⟨⟨a, b, c, e⟩, k⟩ => by subst e; exact ⟨k, ⟨nt, nc, h.scr a b c, hr⟩, ((Kq.rf.sA rfl).sA rfl).sA rfl⟩)
theorem k_X10_digest {s0 : State} {l : Launch} {D : va_G} {cy : Nat → ClassId} (G : Gl s0 l D cy) (S : HS) {cn : Cn} (hC : CX (eaOf s0) S cn) : Ctr s0 l D cy yX10_digest cX10_digest 4 (some .long) rm_m_X10_digest S [.ref (gG S 10 0)] (PKl (eaOf s0) S cn) := by
  obtain ⟨ns, nj, nm, nr⟩ := cn
  obtain ⟨nt, nc, h, hr⟩ := hC
  have h : CI (eaOf s0) S ns nj nm nt nr nc := h
  exact (n_X10_digest G S (eaOf s0) ns nj nm nt nr nc h ).post (fun v S' ⟨⟨x, e⟩, a, b, c, e2⟩ => by subst e2; exact ⟨⟨x, e⟩, ⟨nt, nc, h.scr a b c, hr⟩, ((Kq.rf.sA rfl).sA rfl).sA rfl⟩)
theorem k_X10_station {s0 : State} {l : Launch} {D : va_G} {cy : Nat → ClassId} (G : Gl s0 l D cy) (S : HS) {cn : Cn} (hC : CX (eaOf s0) S cn) (a b d g e_ f : Int32) : CtX s0 l D cy yX10_station cX10_station 8 (some .int) rm_m_X10_station S [.ref (gG S 10 0), .int a, .int b, .int d, .int g, .int e_, .int f] (fun v S' => stK cn.1 a b d g e_ f = 0 ∧ ∃ x : Int32, some (.int x) = v ∧ x = nI cn.1 ∧ CX (eaOf s0) S' (cn.1 + 1, cn.2) ∧ KeepB S S' ∧ (∀ j, ¬ j = cn.1 → mI S' 129 j = mI S 129 j) ∧ mI S' 129 cn.1 = a ∧ (∀ j, mI S' 17 j = mI S 17 j)) (fun E S' => S = S' ∧ ((E = "java/lang/IllegalArgumentException" ∧ stK cn.1 a b d g e_ f = 1) ∨ (E = "java/lang/IllegalStateException" ∧ stK cn.1 a b d g e_ f = 2))) := by
  obtain ⟨ns, nj, nm, nr⟩ := cn
  obtain ⟨nt, nc, h, hr⟩ := hC
  have h : CI (eaOf s0) S ns nj nm nt nr nc := h
  exact (m_X10_station G S (eaOf s0) ns nj nm nt nr nc h rfl a b d g e_ f).post (fun v S' ⟨e1, k0, q1, q2, m2, b2, e, hb0, hb1⟩ => by subst e; exact ⟨k0, _, e1, rfl, ⟨_, _, h.add_st (stK_0 k0).1 (stK_0 k0).2 hb0 hb1, hr.of (fun _ => rfl) (fun j v => v.elim (fun v => v.elim id (fun e => by omega)) (fun e => by omega)) (fun _ => rfl) rfl⟩, kp_add_st, (fun j d => by simp [mI, sI, sR, sNew, addS, up2, show ¬ j = ns from d]), by simp [mI, sI, sR, sNew, addS, up2], (fun j => by simp [mI, sI, sR, sNew, addS, up2])⟩) (fun E S' z => z)
theorem k_X10_jammer {s0 : State} {l : Launch} {D : va_G} {cy : Nat → ClassId} (G : Gl s0 l D cy) (S : HS) {cn : Cn} (hC : CX (eaOf s0) S cn) (a b : Int32) : CtX s0 l D cy yX10_jammer cX10_jammer 4 (some .int) rm_m_X10_jammer S [.ref (gG S 10 0), .int a, .int b] (fun v S' => jmK cn.2.1 a b = 0 ∧ ∃ x : Int32, some (.int x) = v ∧ x = nI cn.2.1 ∧ CX (eaOf s0) S' (cn.1, cn.2.1 + 1, cn.2.2) ∧ KeepB S S' ∧ (∀ j, mI S' 129 j = mI S 129 j) ∧ (∀ j, ¬ j = cn.2.1 → mI S' 17 j = mI S 17 j) ∧ mI S' 17 cn.2.1 = b) (fun E S' => S = S' ∧ ((E = "java/lang/IllegalArgumentException" ∧ jmK cn.2.1 a b = 1) ∨ (E = "java/lang/IllegalStateException" ∧ jmK cn.2.1 a b = 2))) := by
  obtain ⟨ns, nj, nm, nr⟩ := cn
  obtain ⟨nt, nc, h, hr⟩ := hC
  have h : CI (eaOf s0) S ns nj nm nt nr nc := h
  exact (m_X10_jammer G S (eaOf s0) ns nj nm nt nr nc h rfl a b).post (fun v S' ⟨e1, k0, q1, q2, m2, b2, e, hb0, hb1⟩ => by subst e; exact ⟨k0, _, e1, rfl, ⟨_, _, h.add_jm (jmK_0 k0) hb0 hb1, hr.of (fun _ => rfl) (fun j v => v.elim (fun v => v.elim id (fun e => by omega)) (fun e => by omega)) (fun _ => rfl) rfl⟩, kp_add_jm, (fun j => by simp [mI, sI, sR, sNew, addS, up2]), (fun j d => by simp [mI, sI, sR, sNew, addS, up2, show ¬ j = nj from d]), by simp [mI, sI, sR, sNew, addS, up2]⟩) (fun E S' z => z)
theorem k_X10_monitor {s0 : State} {l : Launch} {D : va_G} {cy : Nat → ClassId} (G : Gl s0 l D cy) (S : HS) {cn : Cn} (hC : CX (eaOf s0) S cn) (a : Int32) : CtX s0 l D cy yX10_monitor cX10_monitor 3 (some .int) rm_m_X10_monitor S [.ref (gG S 10 0), .int a] (fun v S' => moK cn.2.2.1 a = 0 ∧ ∃ x : Int32, some (.int x) = v ∧ x = nI cn.2.2.1 ∧ CX (eaOf s0) S' (cn.1, cn.2.1, cn.2.2.1 + 1, cn.2.2.2) ∧ Keep S S') (fun E S' => S = S' ∧ ((E = "java/lang/IllegalArgumentException" ∧ moK cn.2.2.1 a = 1) ∨ (E = "java/lang/IllegalStateException" ∧ moK cn.2.2.1 a = 2))) := by
  obtain ⟨ns, nj, nm, nr⟩ := cn
  obtain ⟨nt, nc, h, hr⟩ := hC
  have h : CI (eaOf s0) S ns nj nm nt nr nc := h
  exact (m_X10_monitor G S (eaOf s0) ns nj nm nt nr nc h rfl a).post (fun v S' ⟨e1, k0, q1, q2, m2, b2, e, hb0, hb1⟩ => by subst e; exact ⟨k0, _, e1, rfl, ⟨_, _, h.add_mo (moK_0 k0) hb0 hb1, hr.of (fun _ => rfl) (fun j v => v.elim (fun v => v.elim id (fun e => by omega)) (fun e => by omega)) (fun _ => rfl) rfl⟩, kp_add_mo⟩) (fun E S' z => z)
theorem k_X10_reader {s0 : State} {l : Launch} {D : va_G} {cy : Nat → ClassId} (G : Gl s0 l D cy) (S : HS) {cn : Cn} (hC : CX (eaOf s0) S cn) (a b : Int32) : CtX s0 l D cy yX10_reader cX10_reader 4 (some .int) rm_m_X10_reader S [.ref (gG S 10 0), .int a, .int b] (fun v S' => reK cn.2.2.2 a b = 0 ∧ ∃ x : Int32, some (.int x) = v ∧ x = nI cn.2.2.2 ∧ CX (eaOf s0) S' (cn.1, cn.2.1, cn.2.2.1, cn.2.2.2 + 1) ∧ Keep S S') (fun E S' => S = S' ∧ ((E = "java/lang/IllegalArgumentException" ∧ reK cn.2.2.2 a b = 1) ∨ (E = "java/lang/IllegalStateException" ∧ reK cn.2.2.2 a b = 2))) := by
  obtain ⟨ns, nj, nm, nr⟩ := cn
  obtain ⟨nt, nc, h, hr⟩ := hC
  have h : CI (eaOf s0) S ns nj nm nt nr nc := h
  exact (m_X10_reader G S (eaOf s0) ns nj nm nt nr nc h rfl a b).post (fun v S' ⟨e1, k0, q1, q2, m2, b2, e, hb0, hb1⟩ => by subst e; exact ⟨k0, _, e1, rfl, ⟨_, _, h.add_re (reK_0 k0) hb0 hb1, hr.of (fun _ => rfl) (fun j v => v.elim (fun v => v.elim id (fun e => by omega)) (fun e => by omega)) (fun _ => rfl) rfl⟩, kp_add_re⟩) (fun E S' z => z)
theorem rh_ta {ea : Nat} {S : HS} {ns nj nm nt nr nc q1 q2 i8 : Nat} {b d g e_ f m2 : Int32} {b2 : Nat → Option Nat} (h : CI ea S ns nj nm nt nr nc) (hr : RH S nt) : RH (addS (sI (sI (sI (sI (sI (sR (sI (sI (sNew S 9 nt q1) 151 nt (-1)) 144 nt (nI nt)) 145 nt (some (gG (sNew S 9 nt q1) 8 i8))) 146 nt b) 147 nt d) 148 nt g) 149 nt e_) 150 nt f) 3 q2 (capOf (nt + 1)) m2 (nI (nt + 1)) b2) (nt + 1) := fun j hj => by
  have dn : vV (addS (sI (sI (sI (sI (sI (sR (sI (sI (sNew S 9 nt q1) 151 nt (-1)) 144 nt (nI nt)) 145 nt (some (gG (sNew S 9 nt q1) 8 i8))) 146 nt b) 147 nt d) 148 nt g) 149 nt e_) 150 nt f) 3 q2 (capOf (nt + 1)) m2 (nI (nt + 1)) b2) 6 j → vV S 6 j := fun v => v.elim (fun v => v.elim id (fun e => by omega)) (fun e => by omega)
  rcases Nat.lt_succ_iff_lt_or_eq.mp hj with z | z
  · have dj : ¬ j = nt := by omega
    rw [show mR (addS (sI (sI (sI (sI (sI (sR (sI (sI (sNew S 9 nt q1) 151 nt (-1)) 144 nt (nI nt)) 145 nt (some (gG (sNew S 9 nt q1) 8 i8))) 146 nt b) 147 nt d) 148 nt g) 149 nt e_) 150 nt f) 3 q2 (capOf (nt + 1)) m2 (nI (nt + 1)) b2) 152 j = mR S 152 j by simp [mR, sI, sR, sNew, addS, up2, dj], show mI (addS (sI (sI (sI (sI (sI (sR (sI (sI (sNew S 9 nt q1) 151 nt (-1)) 144 nt (nI nt)) 145 nt (some (gG (sNew S 9 nt q1) 8 i8))) 146 nt b) 147 nt d) 148 nt g) 149 nt e_) 150 nt f) 3 q2 (capOf (nt + 1)) m2 (nI (nt + 1)) b2) 146 j = mI S 146 j by simp [mI, sI, sR, sNew, addS, up2, dj], show mI (addS (sI (sI (sI (sI (sI (sR (sI (sI (sNew S 9 nt q1) 151 nt (-1)) 144 nt (nI nt)) 145 nt (some (gG (sNew S 9 nt q1) 8 i8))) 146 nt b) 147 nt d) 148 nt g) 149 nt e_) 150 nt f) 3 q2 (capOf (nt + 1)) m2 (nI (nt + 1)) b2) 164 0 = mI S 164 0 from rfl]
    exact ⟨fun y v => (hr j z).1 y (dn v), (hr j z).2⟩
  · rw [show mR (addS (sI (sI (sI (sI (sI (sR (sI (sI (sNew S 9 nt q1) 151 nt (-1)) 144 nt (nI nt)) 145 nt (some (gG (sNew S 9 nt q1) 8 i8))) 146 nt b) 147 nt d) 148 nt g) 149 nt e_) 150 nt f) 3 q2 (capOf (nt + 1)) m2 (nI (nt + 1)) b2) 152 j = none by rw [z]; simp [mR, sI, sR, sNew, addS, up2]]
    exact ⟨fun _ v => h.z_rp j (by omega) (dn v), fun y => absurd rfl y⟩
theorem k_X10_talk {s0 : State} {l : Launch} {D : va_G} {cy : Nat → ClassId} (G : Gl s0 l D cy) (S : HS) {cn : Cn} (hC : CX (eaOf s0) S cn) (a b d g e_ f : Int32) : CtX s0 l D cy yX10_talk cX10_talk 9 (some .int) rm_m_X10_talk S [.ref (gG S 10 0), .int a, .int b, .int d, .int g, .int e_, .int f] (PKi (eaOf s0) S cn) (XK (eaOf s0) S cn ["java/lang/IndexOutOfBoundsException", "java/lang/IllegalArgumentException", "java/lang/IllegalStateException"]) := by
  obtain ⟨ns, nj, nm, nr⟩ := cn
  obtain ⟨nt, nc, h, hr⟩ := hC
  have h : CI (eaOf s0) S ns nj nm nt nr nc := h
  exact (m_X10_talk G S (eaOf s0) ns nj nm nt nr nc h rfl a b d g e_ f).post (fun v S' ⟨i8, h8, hh, hw, hn, e1, q1, q2, m2, b2, e, hb0, hb1⟩ => by subst e; exact ⟨⟨_, e1⟩, ⟨(nt + 1), nc, h.add_ta (a := 0) hn h8 hh hw hb0 hb1, rh_ta h hr⟩, kp_add_ta (a := 0)⟩) (fun E S' ⟨e, k⟩ => by subst e; exact ⟨k, ⟨nt, nc, h, hr⟩, Kq.rf⟩)
theorem k_X10_print {s0 : State} {l : Launch} {D : va_G} {cy : Nat → ClassId} (G : Gl s0 l D cy) (S : HS) {cn : Cn} (hC : CX (eaOf s0) S cn) (a b : Int32) : CtX s0 l D cy yX10_print cX10_print 5 (some .int) rm_m_X10_print S [.ref (gG S 10 0), .int a, .int b] (PKi (eaOf s0) S cn) (XK (eaOf s0) S cn ["java/lang/IndexOutOfBoundsException", "java/lang/IllegalArgumentException", "java/lang/IllegalStateException"]) := by
  obtain ⟨ns, nj, nm, nr⟩ := cn
  obtain ⟨nt, nc, h, hr⟩ := hC
  have h : CI (eaOf s0) S ns nj nm nt nr nc := h
  exact (m_X10_print G S (eaOf s0) ns nj nm nt nr nc h rfl a b hr).post (fun v S' ⟨e, n', h', k', r'⟩ => ⟨e, ⟨nt, n', h', r'⟩, k'⟩) (fun E S' ⟨e, k⟩ => by subst e; exact ⟨k, ⟨nt, nc, h, hr⟩, Kq.rf⟩)
theorem k_X10_ask {s0 : State} {l : Launch} {D : va_G} {cy : Nat → ClassId} (G : Gl s0 l D cy) (S : HS) {cn : Cn} (hC : CX (eaOf s0) S cn) (a b d : Int32) : CtX s0 l D cy yX10_ask cX10_ask 5 (some .int) rm_m_X10_ask S [.ref (gG S 10 0), .int a, .int b, .int d] (PKi (eaOf s0) S cn) (XK (eaOf s0) S cn ["java/lang/IndexOutOfBoundsException", "java/lang/IllegalArgumentException"]) := by
  obtain ⟨ns, nj, nm, nr⟩ := cn
  obtain ⟨nt, nc, h, hr⟩ := hC
  have h : CI (eaOf s0) S ns nj nm nt nr nc := h
  exact (m_X10_ask G S (eaOf s0) ns nj nm nt nr nc h a b d hr).post (fun v S' ⟨e, n', h', k', r'⟩ => ⟨e, ⟨nt, n', h', r'⟩, k'⟩) (fun E S' ⟨e, k⟩ => by subst e; exact ⟨k, ⟨nt, nc, h, hr⟩, Kq.rf⟩)
theorem k_X10_shift {s0 : State} {l : Launch} {D : va_G} {cy : Nat → ClassId} (G : Gl s0 l D cy) (S : HS) {cn : Cn} (hC : CX (eaOf s0) S cn) (a b d e_ : Int32) : CtX s0 l D cy yX10_shift cX10_shift 6 (some .int) rm_m_X10_shift S [.ref (gG S 10 0), .int a, .int b, .int d, .int e_] (PKi (eaOf s0) S cn) (XK (eaOf s0) S cn ["java/lang/IndexOutOfBoundsException", "java/lang/IllegalArgumentException", "java/lang/IllegalStateException"]) := by
  obtain ⟨ns, nj, nm, nr⟩ := cn
  obtain ⟨nt, nc, h, hr⟩ := hC
  have h : CI (eaOf s0) S ns nj nm nt nr nc := h
  exact (m_X10_shift G S (eaOf s0) ns nj nm nt nr nc h a b d e_ hr).post (fun v S' ⟨e, n', h', k', r'⟩ => ⟨e, ⟨nt, n', h', r'⟩, k'⟩) (fun E S' ⟨e, k⟩ => by subst e; exact ⟨k, ⟨nt, nc, h, hr⟩, Kq.rf⟩)
def dK (n : Nat) (m : Int32) (a b : Int32) : Nat := if sOut a 0 (nI n - 1) = true then 1 else if sOut b 0 m = true then 2 else 0
theorem dK_1 {n : Nat} {m a b : Int32} (z : sOut a 0 (nI n - 1) = true) : dK n m a b = 1 := if_pos z
theorem dK_2 {n : Nat} {m a b : Int32} (z : sOut a 0 (nI n - 1) = false) (y : sOut b 0 m = true) : dK n m a b = 2 := (if_neg (by rw [z]; decide)).trans (if_pos y)
theorem dK_0 {n : Nat} {m a b : Int32} (z : sOut a 0 (nI n - 1) = false) (y : sOut b 0 m = false) : dK n m a b = 0 := (if_neg (by rw [z]; decide)).trans (if_neg (by rw [y]; decide))
theorem nI_p1 (n : Nat) : nI (n + 1) - 1 = nI n := pk_sub (a := n + 1) (b := 1) (by omega)
theorem so_j {n j : Nat} (hj : j < n) (hn : n ≤ 40) : sOut (nI j) 0 (nI n - 1) = false := by
  obtain ⟨m, rfl⟩ : ∃ m, n = m + 1 := ⟨n - 1, by omega⟩
  unfold sOut
  rw [Bool.or_eq_false_iff, show nI (m + 1) - 1 = nI m from nI_p1 m]
  exact ⟨decide_eq_false (nI_pos (by omega)), decide_eq_false (fun z => absurd ((nI_ltI (a := m) (b := j) (by omega) (by omega)).mp z) (by omega))⟩
def paK (a : Int32) : Nat := if sOut a 0 63 = true then 1 else 0
theorem paK_1 {a : Int32} (z : sOut a 0 63 = true) : paK a = 1 := if_pos z
theorem paK_0 {a : Int32} (z : sOut a 0 63 = false) : paK a = 0 := if_neg (by rw [z]; decide)

theorem k_X10_drift {s0 : State} {l : Launch} {D : va_G} {cy : Nat → ClassId} (G : Gl s0 l D cy) (S : HS) {cn : Cn} (hC : CX (eaOf s0) S cn) (a b : Int32) : CtX s0 l D cy yX10_drift cX10_drift 5 (some .int) rm_m_X10_drift S [.ref (gG S 10 0), .int a, .int b] (fun v S' => dK cn.1 99 a b = 0 ∧ ∃ x : Int32, some (.int x) = v ∧ ∃ j, j < cn.1 ∧ a = nI j ∧ x = mI S 129 j ∧ S' = sI S 129 j b) (fun E S' => S = S' ∧ ((E = "java/lang/IndexOutOfBoundsException" ∧ dK cn.1 99 a b = 1) ∨ (E = "java/lang/IllegalArgumentException" ∧ dK cn.1 99 a b = 2))) := by
  obtain ⟨ns, nj, nm, nr⟩ := cn
  obtain ⟨nt, nc, h, hr⟩ := hC
  have h : CI (eaOf s0) S ns nj nm nt nr nc := h
  exact (m_X10_drift G S (eaOf s0) ns nj nm nt nr nc h a b).post (fun v S' ⟨j, hj, e1, e2, e3, e4⟩ => ⟨dK_0 (by rw [e1]; exact (so_j hj (Nat.le_trans h.b_st (by decide)))) e2, _, e3, j, hj, e1, rfl, e4⟩) (fun E S' ⟨e, k⟩ => ⟨e, k.imp (fun z => ⟨z.1, dK_1 z.2⟩) (fun z => ⟨z.1, dK_2 (by obtain ⟨j, hj, e1⟩ := z.2.1; rw [e1]; exact (so_j hj (Nat.le_trans h.b_st (by decide)))) z.2.2⟩)⟩)
theorem k_X10_jam {s0 : State} {l : Launch} {D : va_G} {cy : Nat → ClassId} (G : Gl s0 l D cy) (S : HS) {cn : Cn} (hC : CX (eaOf s0) S cn) (a b : Int32) : CtX s0 l D cy yX10_jam cX10_jam 5 (some .int) rm_m_X10_jam S [.ref (gG S 10 0), .int a, .int b] (fun v S' => dK cn.2.1 9 a b = 0 ∧ ∃ x : Int32, some (.int x) = v ∧ ∃ j, j < cn.2.1 ∧ a = nI j ∧ x = mI S 17 j ∧ S' = sI S 17 j b) (fun E S' => S = S' ∧ ((E = "java/lang/IndexOutOfBoundsException" ∧ dK cn.2.1 9 a b = 1) ∨ (E = "java/lang/IllegalArgumentException" ∧ dK cn.2.1 9 a b = 2))) := by
  obtain ⟨ns, nj, nm, nr⟩ := cn
  obtain ⟨nt, nc, h, hr⟩ := hC
  have h : CI (eaOf s0) S ns nj nm nt nr nc := h
  exact (m_X10_jam G S (eaOf s0) ns nj nm nt nr nc h a b).post (fun v S' ⟨j, hj, e1, e2, e3, e4⟩ => ⟨dK_0 (by rw [e1]; exact (so_j hj (Nat.le_trans h.b_jm (by decide)))) e2, _, e3, j, hj, e1, rfl, e4⟩) (fun E S' ⟨e, k⟩ => ⟨e, k.imp (fun z => ⟨z.1, dK_1 z.2⟩) (fun z => ⟨z.1, dK_2 (by obtain ⟨j, hj, e1⟩ := z.2.1; rw [e1]; exact (so_j hj (Nat.le_trans h.b_jm (by decide)))) z.2.2⟩)⟩)
theorem k_X10_partner {s0 : State} {l : Launch} {D : va_G} {cy : Nat → ClassId} (G : Gl s0 l D cy) (S : HS) {cn : Cn} (hC : CX (eaOf s0) S cn) (a : Int32) : CtX s0 l D cy yX10_partner cX10_partner 3 (some .int) rm_m_X10_partner S [.ref (gG S 10 0), .int a] (fun v S' => paK a = 0 ∧ ∃ x : Int32, some (.int x) = v ∧ x = mI S 70 0 ∧ S' = sI S 70 0 a) (fun E S' => S = S' ∧ ((E = "java/lang/IllegalArgumentException" ∧ paK a = 1))) := by
  obtain ⟨ns, nj, nm, nr⟩ := cn
  obtain ⟨nt, nc, h, hr⟩ := hC
  have h : CI (eaOf s0) S ns nj nm nt nr nc := h
  exact (m_X10_partner G S (eaOf s0) ns nj nm nt nr nc h a).post (fun v S' ⟨z, e, e2⟩ => ⟨paK_0 z, _, e, rfl, e2⟩) (fun E S' ⟨e, k, z⟩ => ⟨e, k, paK_1 z⟩)
theorem k_X10_pass_x {s0 : State} {l : Launch} {D : va_G} {cy : Nat → ClassId} (G : Gl s0 l D cy) (S : HS) {cn : Cn} (hC : CX (eaOf s0) S cn) (a : Int32) (hbad : ¬ psK (mI S 164 0) a = 0) : CtX s0 l D cy yX10_pass cX10_pass 3 (some .int) rm_m_X10_pass_x S [.ref (gG S 10 0), .int a] (fun v S' => psK (mI S 164 0) a = 0 ∧ ∃ x : Int32, some (.int x) = v ∧ False) (fun E S' => S = S' ∧ ((E = "java/lang/IllegalArgumentException" ∧ psK (mI S 164 0) a = 1) ∨ (E = "java/lang/IllegalStateException" ∧ psK (mI S 164 0) a = 2))) := by
  obtain ⟨ns, nj, nm, nr⟩ := cn
  obtain ⟨nt, nc, h, hr⟩ := hC
  have h : CI (eaOf s0) S ns nj nm nt nr nc := h
  exact (m_X10_pass_x G S (eaOf s0) ns nj nm nt nr nc h a (psK_b hbad)).post (fun v S' z => z.elim) (fun E S' z => z)
theorem k_X10_call {s0 : State} {l : Launch} {D : va_G} {cy : Nat → ClassId} (G : Gl s0 l D cy) (S : HS) {cn : Cn} (hC : CX (eaOf s0) S cn) : Ctr s0 l D cy yX10_call cX10_call 1 (some .int) rm_m_X10_call S [.ref (gG S 10 0)] (fun v S' => some (.int (mI S 165 0 + 1)) = v ∧ S' = sI S 165 0 (mI S 165 0 + 1)) := by
  obtain ⟨ns, nj, nm, nr⟩ := cn
  obtain ⟨nt, nc, h, hr⟩ := hC
  exact m_X10_call G S (eaOf s0) ns nj nm nt nr nc h
theorem CX.call {ea : Nat} {S : HS} {cn : Cn} {x : Int32} (hC : CX ea S cn) : CX ea (sI S 165 0 x) cn := by
  obtain ⟨nt, nc, h, hr⟩ := hC
  exact ⟨nt, nc, h.stI (by decide), hr⟩
theorem k_X10_pass_n {s0 : State} {l : Launch} {D : va_G} {cy : Nat → ClassId} (G : Gl s0 l D cy) (S : HS) {cn : Cn} (hC : CX (eaOf s0) S cn) (n g : Nat) (hn1 : 1 ≤ n) (hn : n ≤ 48) (hg : mI S 164 0 = nI g) (hgn : g + n ≤ 720) : Ctr s0 l D cy yX10_pass cX10_pass 3 (some .int) (rm_m_X10_pass_n n) S [.ref (gG S 10 0), .int (nI n)] (fun v S' => some (.int (nI (g + n))) = v ∧ CX (eaOf s0) S' cn ∧ KeepP S S' ∧ mI S' 164 0 = nI (g + n)) := by
  obtain ⟨ns, nj, nm, nr⟩ := cn
  obtain ⟨nt, nc, h, hr⟩ := hC
  exact (m_X10_pass_n G S (eaOf s0) ns nj nm nt nr nc h rfl n g hn1 hn hg hgn hr).post (fun v S' ⟨e, n', h', k', e', r'⟩ => ⟨e, ⟨nt, n', h', r'⟩, m2k k', e'⟩)
