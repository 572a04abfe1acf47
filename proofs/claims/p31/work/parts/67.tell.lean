theorem nwI_0 {S : HS} {t j q f : Nat} (h : f / 16 = t) : mI (sNew S t j q) f j = 0 := (show (if f / 16 = t ∧ j = j then 0 else mI S f j) = 0 from if_pos ⟨h, rfl⟩)
theorem SA.new18 {s0 : State} {S : HS} {i q k a w0 : Nat} (h : SA s0 S k a w0) : SA s0 (sNew S 18 i q) k a w0 := by
  rcases h with h | ⟨j, hV, rfl, hc, b, hr, x, hx, rfl, hv, hN, hf⟩
  · exact Or.inl h
  · refine Or.inr ⟨j, Or.inl hV, (gNew_n (by omega)).symm, by rw [nwI_n (by omega)]; exact hc, _, by rw [nwR_n (by omega)]; exact hr, x, hx, (gNew_n (by omega)).symm, Or.inl hv, hN, hf⟩

theorem dX10_tell_0 : decode cX10_tell 0 = .ok (.aload_n 0, 1) := by decide +kernel
theorem dX10_tell_1 : decode cX10_tell 1 = .ok (.getfield 28, 3) := by decide +kernel
theorem dX10_tell_4 : decode cX10_tell 4 = .ok (.iload_n 1, 1) := by decide +kernel
theorem dX10_tell_5 : decode cX10_tell 5 = .ok (.invokevirtual 182, 3) := by decide +kernel
theorem dX10_tell_8 : decode cX10_tell 8 = .ok (.astore_n 2, 1) := by decide +kernel
theorem dX10_tell_9 : decode cX10_tell 9 = .ok (.aload_n 2, 1) := by decide +kernel
theorem dX10_tell_10 : decode cX10_tell 10 = .ok (.ifnonnull 13, 3) := by decide +kernel
theorem dX10_tell_13 : decode cX10_tell 13 = .ok (.new 90, 3) := by decide +kernel
theorem dX10_tell_16 : decode cX10_tell 16 = .ok (.dup, 1) := by decide +kernel
theorem dX10_tell_17 : decode cX10_tell 17 = .ok (.ldc 186, 2) := by decide +kernel
theorem dX10_tell_19 : decode cX10_tell 19 = .ok (.invokespecial 94, 3) := by decide +kernel
theorem dX10_tell_22 : decode cX10_tell 22 = .ok (.athrow, 1) := by decide +kernel
theorem dX10_tell_23 : decode cX10_tell 23 = .ok (.new 311, 3) := by decide +kernel
theorem dX10_tell_26 : decode cX10_tell 26 = .ok (.dup, 1) := by decide +kernel
theorem dX10_tell_27 : decode cX10_tell 27 = .ok (.invokespecial 313, 3) := by decide +kernel
theorem dX10_tell_30 : decode cX10_tell 30 = .ok (.astore_n 3, 1) := by decide +kernel
theorem dX10_tell_31 : decode cX10_tell 31 = .ok (.aload_n 3, 1) := by decide +kernel
theorem dX10_tell_32 : decode cX10_tell 32 = .ok (.aload_n 2, 1) := by decide +kernel
theorem dX10_tell_33 : decode cX10_tell 33 = .ok (.getfield 314, 3) := by decide +kernel
theorem dX10_tell_36 : decode cX10_tell 36 = .ok (.invokevirtual 317, 3) := by decide +kernel
theorem dX10_tell_39 : decode cX10_tell 39 = .ok (.pop, 1) := by decide +kernel
theorem dX10_tell_40 : decode cX10_tell 40 = .ok (.aload_n 3, 1) := by decide +kernel
theorem dX10_tell_41 : decode cX10_tell 41 = .ok (.ldc_w 321, 3) := by decide +kernel
theorem dX10_tell_44 : decode cX10_tell 44 = .ok (.invokevirtual 323, 3) := by decide +kernel
theorem dX10_tell_47 : decode cX10_tell 47 = .ok (.pop, 1) := by decide +kernel
theorem dX10_tell_48 : decode cX10_tell 48 = .ok (.aload_n 3, 1) := by decide +kernel
theorem dX10_tell_49 : decode cX10_tell 49 = .ok (.aload_n 2, 1) := by decide +kernel
theorem dX10_tell_50 : decode cX10_tell 50 = .ok (.getfield 326, 3) := by decide +kernel
theorem dX10_tell_53 : decode cX10_tell 53 = .ok (.getfield 330, 3) := by decide +kernel
theorem dX10_tell_56 : decode cX10_tell 56 = .ok (.invokevirtual 317, 3) := by decide +kernel
theorem dX10_tell_59 : decode cX10_tell 59 = .ok (.pop, 1) := by decide +kernel
theorem dX10_tell_60 : decode cX10_tell 60 = .ok (.aload_n 3, 1) := by decide +kernel
theorem dX10_tell_61 : decode cX10_tell 61 = .ok (.ldc_w 331, 3) := by decide +kernel
theorem dX10_tell_64 : decode cX10_tell 64 = .ok (.invokevirtual 323, 3) := by decide +kernel
theorem dX10_tell_67 : decode cX10_tell 67 = .ok (.pop, 1) := by decide +kernel
theorem dX10_tell_68 : decode cX10_tell 68 = .ok (.aload_n 3, 1) := by decide +kernel
theorem dX10_tell_69 : decode cX10_tell 69 = .ok (.aload_n 2, 1) := by decide +kernel
theorem dX10_tell_70 : decode cX10_tell 70 = .ok (.getfield 333, 3) := by decide +kernel
theorem dX10_tell_73 : decode cX10_tell 73 = .ok (.invokevirtual 317, 3) := by decide +kernel
theorem dX10_tell_76 : decode cX10_tell 76 = .ok (.pop, 1) := by decide +kernel
theorem dX10_tell_77 : decode cX10_tell 77 = .ok (.aload_n 3, 1) := by decide +kernel
theorem dX10_tell_78 : decode cX10_tell 78 = .ok (.ldc_w 334, 3) := by decide +kernel
theorem dX10_tell_81 : decode cX10_tell 81 = .ok (.invokevirtual 323, 3) := by decide +kernel
theorem dX10_tell_84 : decode cX10_tell 84 = .ok (.pop, 1) := by decide +kernel
theorem dX10_tell_85 : decode cX10_tell 85 = .ok (.aload_n 2, 1) := by decide +kernel
theorem dX10_tell_86 : decode cX10_tell 86 = .ok (.getfield 197, 3) := by decide +kernel
theorem dX10_tell_89 : decode cX10_tell 89 = .ok (.astore 4, 2) := by decide +kernel
theorem dX10_tell_91 : decode cX10_tell 91 = .ok (.aload 4, 2) := by decide +kernel
theorem dX10_tell_93 : decode cX10_tell 93 = .ok (.ifnonnull 31, 3) := by decide +kernel
theorem dX10_tell_96 : decode cX10_tell 96 = .ok (.aload_n 3, 1) := by decide +kernel
theorem dX10_tell_97 : decode cX10_tell 97 = .ok (.aload_n 2, 1) := by decide +kernel
theorem dX10_tell_98 : decode cX10_tell 98 = .ok (.getfield 333, 3) := by decide +kernel
theorem dX10_tell_101 : decode cX10_tell 101 = .ok (.aload_n 0, 1) := by decide +kernel
theorem dX10_tell_102 : decode cX10_tell 102 = .ok (.getfield 41, 3) := by decide +kernel
theorem dX10_tell_105 : decode cX10_tell 105 = .ok (.if_icmp .lt 9, 3) := by decide +kernel
theorem dX10_tell_108 : decode cX10_tell 108 = .ok (.ldc_w 336, 3) := by decide +kernel
theorem dX10_tell_111 : decode cX10_tell 111 = .ok (.goto 6, 3) := by decide +kernel
theorem dX10_tell_114 : decode cX10_tell 114 = .ok (.ldc_w 338, 3) := by decide +kernel
theorem dX10_tell_117 : decode cX10_tell 117 = .ok (.invokevirtual 323, 3) := by decide +kernel
theorem dX10_tell_120 : decode cX10_tell 120 = .ok (.pop, 1) := by decide +kernel
theorem dX10_tell_121 : decode cX10_tell 121 = .ok (.goto 29, 3) := by decide +kernel
theorem dX10_tell_124 : decode cX10_tell 124 = .ok (.aload_n 3, 1) := by decide +kernel
theorem dX10_tell_125 : decode cX10_tell 125 = .ok (.aload 4, 2) := by decide +kernel
theorem dX10_tell_127 : decode cX10_tell 127 = .ok (.getfield 340, 3) := by decide +kernel
theorem dX10_tell_130 : decode cX10_tell 130 = .ok (.invokestatic 343, 3) := by decide +kernel
theorem dX10_tell_133 : decode cX10_tell 133 = .ok (.invokevirtual 323, 3) := by decide +kernel
theorem dX10_tell_136 : decode cX10_tell 136 = .ok (.pop, 1) := by decide +kernel
theorem dX10_tell_137 : decode cX10_tell 137 = .ok (.aload_n 3, 1) := by decide +kernel
theorem dX10_tell_138 : decode cX10_tell 138 = .ok (.aload 4, 2) := by decide +kernel
theorem dX10_tell_140 : decode cX10_tell 140 = .ok (.getfield 347, 3) := by decide +kernel
theorem dX10_tell_143 : decode cX10_tell 143 = .ok (.invokestatic 350, 3) := by decide +kernel
theorem dX10_tell_146 : decode cX10_tell 146 = .ok (.invokevirtual 323, 3) := by decide +kernel
theorem dX10_tell_149 : decode cX10_tell 149 = .ok (.pop, 1) := by decide +kernel
theorem dX10_tell_150 : decode cX10_tell 150 = .ok (.aload_n 3, 1) := by decide +kernel
theorem dX10_tell_151 : decode cX10_tell 151 = .ok (.invokevirtual 353, 3) := by decide +kernel
theorem dX10_tell_154 : decode cX10_tell 154 = .ok (.areturn, 1) := by decide +kernel
abbrev rm_m_X10_tell : Room := { frames := 6, cells := 12, slots := 1900, locals := 154 }
set_option maxHeartbeats 4000000 in
set_option maxRecDepth 100000 in
theorem m_X10_tell {s0 : State} {l : Launch} {D : va_G} {cy : Nat → ClassId} (G : Gl s0 l D cy) (S : HS) (ea ns nj nm nt nr nc : Nat) (h : CI ea S ns nj nm nt nr nc) (a : Int32) (hZs : Zs S) : CtX s0 l D cy yX10_tell cX10_tell 5 (some (.object "java/lang/String")) rm_m_X10_tell S [.ref (gG S 10 0), .int a] (fun v S' => (∃ b, some (.ref b) = v) ∧ S = S') (PT S ["java/lang/IndexOutOfBoundsException"]) := by
  refine proX "CavershamShift" G rfl rfl (Nat.le_of_ble_eq_true rfl) (fun p e s m below meth c ls X w hno hl => ?_)
  have hx := X.1
  have hb := X.2.1
  have hown := X.2.2.2.1
  have hts := X.2.2.2.2.1
  have hl : lv_has ls 5 [(0, .ref (gG S 10 0)), (1, .int a)] := hl
  have h0 := h
  have hK_S : KZ S S := Kq.rf
  have hb9 := h.b_ta
  have hb1 := h.b_st
  have hn19 : ∀ x, 0 ≤ x → ¬ vV S 19 x := fun x _ => hZs 19 x rfl
  have hn18 : ∀ x, 0 ≤ x → ¬ vV S 18 x := fun x _ => hZs 18 x rfl
  refine lv_aload_n hx hb dX10_tell_0 rfl (lv_at hl 0 rfl) ?_
  refine g_10_2 (S := S) (x := (some (gG S 4 0))) X w h.v10 wF_X10_28 (h.f162) dX10_tell_1 ?_
  refine lv_iload_n hx hb dX10_tell_4 rfl (lv_at hl 1 rfl) ?_
  refine cV (S := S) (nA := 1) (As := [.int a]) (rest := []) X w hl h.v4 (m_X4_talkAt G S ea ns nj nm nt nr nc h a) wY_X4_talkAt wM_X10_182 wIn_X4_talkAt wSe_X4_X4_talkAt wI_X4 (by decide) rfl (by decide +kernel) rfl rfl dX10_tell_5 ⟨by decide, by decide⟩ (Nat.le_of_ble_eq_true rfl) (⟨Nat.le_of_ble_eq_true rfl, Nat.le_of_ble_eq_true rfl⟩) (fun v2 S1 H locs hp w => ?_)
  obtain ⟨hp, rfl⟩ := hp
  rcases hp with ⟨rfl, hoj1⟩ | ⟨j1, hlj1, hkj1, rfl⟩
  · skip
    refine lv_astore_nN (lv' := [(2, .null), (0, .ref (gG S 10 0)), (1, .int a)]) hx hb dX10_tell_8 rfl hl (by decide) rfl (fun ls hl => ?_)
    refine lv_aload_nN hx hb dX10_tell_9 rfl (lv_at hl 0 rfl) ?_
    refine lv_ifnonnullN hx hb dX10_tell_10 ?_
    exact rT (S := S) (names := ["java/lang/RuntimeException", "java/lang/Exception"]) X w hl hno (by decide) (by decide) wC_X10_90 wI_java_lang_IndexOutOfBoundsException wS9_X10_186 at_IOB go_IOB ⟨by decide, by decide⟩ dX10_tell_13 dX10_tell_16 dX10_tell_17 dX10_tell_19 dX10_tell_22 (by decide) (by decide) (Nat.le_of_ble_eq_true rfl) (Nat.le_of_ble_eq_true rfl) (Nat.le_of_ble_eq_true rfl) (Nat.le_of_ble_eq_true rfl) (⟨rfl, by decide⟩)
  · skip
    refine lv_astore_n (lv' := [(2, .ref (gG S 9 j1)), (0, .ref (gG S 10 0)), (1, .int a)]) hx hb dX10_tell_8 rfl hl (by decide) rfl (fun ls hl => ?_)
    refine lv_aload_n hx hb dX10_tell_9 rfl (lv_at hl 0 rfl) ?_
    refine lv_ifnonnull (tgt := 23) hx hb dX10_tell_10 (by decide) ?_
    refine nwO (S := S) (t := 18) (n := 4) X w 0 (hn18 0 (Nat.le_refl _)) (Or.inl (by decide)) (by decide) rfl in_18 tyJ4 tyJ4_ok (by decide +kernel) wC_X10_311 wNew_J4 wI_J4 dX10_tell_23 rfl (Nat.le_of_ble_eq_true rfl) (Nat.le_of_ble_eq_true rfl) (fun q3 S2 H hS2 w => ?_)
    subst hS2
    have hK_N4 : KZ S (sNew S 18 0 q3) := hK_S.new rfl (by decide) (fun f z => hz18 f z) (fun f z => hz18 f z)
    have h : CI ea (sNew S 18 0 q3) ns nj nm nt nr nc := h0.keepZ hK_N4
    have hn19 : ∀ x, 0 ≤ x → ¬ vV (sNew S 18 0 q3) 19 x := fun x hx9 v => v.elim (hn19 x hx9) (fun z => absurd z.1 (by decide))
    have hn18 : ∀ x, 1 ≤ x → ¬ vV (sNew S 18 0 q3) 18 x := fun x hx9 v => v.elim (hn18 x (by omega)) (fun z => by omega)
    refine lv_dup hx hb dX10_tell_26 rfl ?_
    refine cI (S := (sNew S 18 0 q3)) (nA := 0) (As := []) (rest := [.ref (gG (sNew S 18 0 q3) 18 0)]) X w hl (m_J4_init_da8c8 G (sNew S 18 0 q3) 0 0 (Or.inr ⟨rfl, rfl⟩) (nwI_0 rfl) (fun j hj9 v => v.elim (hZs 42 j rfl) (fun z => absurd z.1 (by decide)))) wY_J4_init_da8c8 wM_X10_313 wIn_J4_init_da8c8 wI_J4 rfl (by decide +kernel) rfl rfl dX10_tell_27 ⟨by decide, by decide⟩ (Nat.le_of_ble_eq_true rfl) (⟨Nat.le_of_ble_eq_true rfl, Nat.le_of_ble_eq_true rfl⟩) (fun v6 U5 H locs hp w => ?_)
    obtain ⟨rfl, hB, hKU5⟩ := hp
    have hK_U5 : KZ S U5 := hK_N4.tr (kbZ hKU5)
    have h : CI ea U5 ns nj nm nt nr nc := h0.keepZ hK_U5
    have hn19 : ∀ x, 0 ≤ x → ¬ vV U5 19 x := fun x hx9 => by rw [hKU5.V (t := 19) (i := x) rfl]; exact hn19 x hx9
    have hn18 : ∀ x, 1 ≤ x → ¬ vV U5 18 x := fun x hx9 => by rw [hKU5.V (t := 18) (i := x) rfl]; exact hn18 x hx9
    refine lv_astore_n (lv' := [(3, .ref (gG (sNew S 18 0 q3) 18 0)), (2, .ref (gG S 9 j1)), (0, .ref (gG S 10 0)), (1, .int a)]) hx hb dX10_tell_30 rfl hl (by decide) rfl (fun ls hl => ?_)
    refine lv_aload_n hx hb dX10_tell_31 rfl (lv_at hl 0 rfl) ?_
    refine lv_aload_n hx hb dX10_tell_32 rfl (lv_at hl 1 rfl) ?_
    refine rE0 ((rfl).trans ((hK_U5.G (t := 9) (i := j1) rfl)).symm) ?_
    refine g_9_0 (S := U5) (x := (nI j1)) X w (h.e_ta j1 hlj1).2 wF_X10_314 (h.n_ta j1 hlj1) dX10_tell_33 ?_
    refine rE1 ((rfl).trans ((hKU5.G (t := 18) (i := 0) rfl).trans (rfl)).symm) ?_
    refine cV (S := U5) (nA := 1) (As := [.int (nI j1)]) (rest := []) X w hl hB.hv (m_J4_append_bf812 G U5 0 0 0 16 j1 hB (by omega) (by omega)) wY_J4_append_bf812 wM_X10_317 wIn_J4_append_bf812 wSe_J4_J4_append_bf812 wI_J4 (by decide) rfl (by decide +kernel) rfl rfl dX10_tell_36 ⟨Nat.le_of_ble_eq_true rfl, Nat.le_of_ble_eq_true rfl⟩ (Nat.le_of_ble_eq_true rfl) (⟨Nat.le_of_ble_eq_true rfl, Nat.le_of_ble_eq_true rfl⟩) (fun v8 U7 H locs hp w => ?_)
    obtain ⟨rfl, kU7, mU7, dU7, hdU7, hBU7, hkU7, hKU7⟩ := hp
    have hK_U7 : KZ S U7 := hK_U5.tr (kbZ hKU7)
    have h : CI ea U7 ns nj nm nt nr nc := h0.keepZ hK_U7
    have hn19 : ∀ x, 0 ≤ x → ¬ vV U7 19 x := fun x hx9 => by rw [hKU7.V (t := 19) (i := x) rfl]; exact hn19 x hx9
    have hn18 : ∀ x, 1 ≤ x → ¬ vV U7 18 x := fun x hx9 => by rw [hKU7.V (t := 18) (i := x) rfl]; exact hn18 x hx9
    refine lv_pop hx hb dX10_tell_39 rfl ?_
    refine lv_aload_n hx hb dX10_tell_40 rfl (lv_at hl 0 rfl) ?_
    refine ldS X wS9_X10_321 dX10_tell_41 ?_
    refine rE1 ((rfl).trans ((hKU7.G (t := 18) (i := 0) rfl).trans ((hKU5.G (t := 18) (i := 0) rfl).trans (rfl))).symm) ?_
    refine cV (S := U7) (nA := 1) (As := [.ref (saOf s0 "CavershamShift" 321)]) (rest := []) X w hl hBU7.hv (m_J4_append_15ec4 G U7 0 kU7 (0 + dU7) mU7 (saOf s0 "CavershamShift" 321) 2 hBU7 (Or.inl (cs_X10_321 G)) (by omega)) wY_J4_append_15ec4 wM_X10_323 wIn_J4_append_15ec4 wSe_J4_J4_append_15ec4 wI_J4 (by decide) rfl (by decide +kernel) rfl rfl dX10_tell_44 ⟨Nat.le_of_ble_eq_true rfl, Nat.le_of_ble_eq_true rfl⟩ (Nat.le_of_ble_eq_true rfl) (⟨Nat.le_of_ble_eq_true rfl, Nat.le_of_ble_eq_true rfl⟩) (fun v10 U9 H locs hp w => ?_)
    obtain ⟨rfl, kU9, mU9, hBU9, hkU9, hKU9⟩ := hp
    have hK_U9 : KZ S U9 := hK_U7.tr (kbZ hKU9)
    have h : CI ea U9 ns nj nm nt nr nc := h0.keepZ hK_U9
    have hn19 : ∀ x, 0 ≤ x → ¬ vV U9 19 x := fun x hx9 => by rw [hKU9.V (t := 19) (i := x) rfl]; exact hn19 x hx9
    have hn18 : ∀ x, 1 ≤ x → ¬ vV U9 18 x := fun x hx9 => by rw [hKU9.V (t := 18) (i := x) rfl]; exact hn18 x hx9
    refine lv_pop hx hb dX10_tell_47 rfl ?_
    refine lv_aload_n hx hb dX10_tell_48 rfl (lv_at hl 0 rfl) ?_
    refine lv_aload_n hx hb dX10_tell_49 rfl (lv_at hl 1 rfl) ?_
    refine rE0 ((rfl).trans ((hK_U9.G (t := 9) (i := j1) rfl)).symm) ?_
    obtain ⟨i11, hli11, hei11⟩ := h.t_st j1 hlj1
    refine g_9_1 (S := U9) (x := (some (gG U9 8 i11))) X w (h.e_ta j1 hlj1).2 wF_X10_326 (hei11) dX10_tell_50 ?_
    refine g_8_0 (S := U9) (x := (nI i11)) X w (h.e_st i11 hli11).2 wF_X10_330 (h.n_st i11 hli11) dX10_tell_53 ?_
    refine rE1 ((rfl).trans ((hKU9.G (t := 18) (i := 0) rfl).trans ((hKU7.G (t := 18) (i := 0) rfl).trans ((hKU5.G (t := 18) (i := 0) rfl).trans (rfl)))).symm) ?_
    refine cV (S := U9) (nA := 1) (As := [.int (nI i11)]) (rest := []) X w hl hBU9.hv (m_J4_append_bf812 G U9 0 kU9 ((0 + dU7) + 2) mU9 i11 hBU9 (by omega) (by omega)) wY_J4_append_bf812 wM_X10_317 wIn_J4_append_bf812 wSe_J4_J4_append_bf812 wI_J4 (by decide) rfl (by decide +kernel) rfl rfl dX10_tell_56 ⟨Nat.le_of_ble_eq_true rfl, Nat.le_of_ble_eq_true rfl⟩ (Nat.le_of_ble_eq_true rfl) (⟨Nat.le_of_ble_eq_true rfl, Nat.le_of_ble_eq_true rfl⟩) (fun v13 U12 H locs hp w => ?_)
    obtain ⟨rfl, kU12, mU12, dU12, hdU12, hBU12, hkU12, hKU12⟩ := hp
    have hK_U12 : KZ S U12 := hK_U9.tr (kbZ hKU12)
    have h : CI ea U12 ns nj nm nt nr nc := h0.keepZ hK_U12
    have hn19 : ∀ x, 0 ≤ x → ¬ vV U12 19 x := fun x hx9 => by rw [hKU12.V (t := 19) (i := x) rfl]; exact hn19 x hx9
    have hn18 : ∀ x, 1 ≤ x → ¬ vV U12 18 x := fun x hx9 => by rw [hKU12.V (t := 18) (i := x) rfl]; exact hn18 x hx9
    refine lv_pop hx hb dX10_tell_59 rfl ?_
    refine lv_aload_n hx hb dX10_tell_60 rfl (lv_at hl 0 rfl) ?_
    refine ldS X wS9_X10_331 dX10_tell_61 ?_
    refine rE1 ((rfl).trans ((hKU12.G (t := 18) (i := 0) rfl).trans ((hKU9.G (t := 18) (i := 0) rfl).trans ((hKU7.G (t := 18) (i := 0) rfl).trans ((hKU5.G (t := 18) (i := 0) rfl).trans (rfl))))).symm) ?_
    refine cV (S := U12) (nA := 1) (As := [.ref (saOf s0 "CavershamShift" 331)]) (rest := []) X w hl hBU12.hv (m_J4_append_15ec4 G U12 0 kU12 (((0 + dU7) + 2) + dU12) mU12 (saOf s0 "CavershamShift" 331) 4 hBU12 (Or.inl (cs_X10_331 G)) (by omega)) wY_J4_append_15ec4 wM_X10_323 wIn_J4_append_15ec4 wSe_J4_J4_append_15ec4 wI_J4 (by decide) rfl (by decide +kernel) rfl rfl dX10_tell_64 ⟨Nat.le_of_ble_eq_true rfl, Nat.le_of_ble_eq_true rfl⟩ (Nat.le_of_ble_eq_true rfl) (⟨Nat.le_of_ble_eq_true rfl, Nat.le_of_ble_eq_true rfl⟩) (fun v15 U14 H locs hp w => ?_)
    obtain ⟨rfl, kU14, mU14, hBU14, hkU14, hKU14⟩ := hp
    have hK_U14 : KZ S U14 := hK_U12.tr (kbZ hKU14)
    have h : CI ea U14 ns nj nm nt nr nc := h0.keepZ hK_U14
    have hn19 : ∀ x, 0 ≤ x → ¬ vV U14 19 x := fun x hx9 => by rw [hKU14.V (t := 19) (i := x) rfl]; exact hn19 x hx9
    have hn18 : ∀ x, 1 ≤ x → ¬ vV U14 18 x := fun x hx9 => by rw [hKU14.V (t := 18) (i := x) rfl]; exact hn18 x hx9
    refine lv_pop hx hb dX10_tell_67 rfl ?_
    refine lv_aload_n hx hb dX10_tell_68 rfl (lv_at hl 0 rfl) ?_
    refine lv_aload_n hx hb dX10_tell_69 rfl (lv_at hl 1 rfl) ?_
    refine rE0 ((rfl).trans ((hK_U14.G (t := 9) (i := j1) rfl)).symm) ?_
    obtain ⟨g16, hlg16, heg16⟩ := h.x_th j1 hlj1
    refine g_9_2 (S := U14) (x := (nI g16)) X w (h.e_ta j1 hlj1).2 wF_X10_333 (heg16) dX10_tell_70 ?_
    refine rE1 ((rfl).trans ((hKU14.G (t := 18) (i := 0) rfl).trans ((hKU12.G (t := 18) (i := 0) rfl).trans ((hKU9.G (t := 18) (i := 0) rfl).trans ((hKU7.G (t := 18) (i := 0) rfl).trans ((hKU5.G (t := 18) (i := 0) rfl).trans (rfl)))))).symm) ?_
    refine cV (S := U14) (nA := 1) (As := [.int (nI g16)]) (rest := []) X w hl hBU14.hv (m_J4_append_bf812 G U14 0 kU14 ((((0 + dU7) + 2) + dU12) + 4) mU14 g16 hBU14 (by omega) (by omega)) wY_J4_append_bf812 wM_X10_317 wIn_J4_append_bf812 wSe_J4_J4_append_bf812 wI_J4 (by decide) rfl (by decide +kernel) rfl rfl dX10_tell_73 ⟨Nat.le_of_ble_eq_true rfl, Nat.le_of_ble_eq_true rfl⟩ (Nat.le_of_ble_eq_true rfl) (⟨Nat.le_of_ble_eq_true rfl, Nat.le_of_ble_eq_true rfl⟩) (fun v18 U17 H locs hp w => ?_)
    obtain ⟨rfl, kU17, mU17, dU17, hdU17, hBU17, hkU17, hKU17⟩ := hp
    have hK_U17 : KZ S U17 := hK_U14.tr (kbZ hKU17)
    have h : CI ea U17 ns nj nm nt nr nc := h0.keepZ hK_U17
    have hn19 : ∀ x, 0 ≤ x → ¬ vV U17 19 x := fun x hx9 => by rw [hKU17.V (t := 19) (i := x) rfl]; exact hn19 x hx9
    have hn18 : ∀ x, 1 ≤ x → ¬ vV U17 18 x := fun x hx9 => by rw [hKU17.V (t := 18) (i := x) rfl]; exact hn18 x hx9
    refine lv_pop hx hb dX10_tell_76 rfl ?_
    refine lv_aload_n hx hb dX10_tell_77 rfl (lv_at hl 0 rfl) ?_
    refine ldS X wS9_X10_334 dX10_tell_78 ?_
    refine rE1 ((rfl).trans ((hKU17.G (t := 18) (i := 0) rfl).trans ((hKU14.G (t := 18) (i := 0) rfl).trans ((hKU12.G (t := 18) (i := 0) rfl).trans ((hKU9.G (t := 18) (i := 0) rfl).trans ((hKU7.G (t := 18) (i := 0) rfl).trans ((hKU5.G (t := 18) (i := 0) rfl).trans (rfl))))))).symm) ?_
    refine cV (S := U17) (nA := 1) (As := [.ref (saOf s0 "CavershamShift" 334)]) (rest := []) X w hl hBU17.hv (m_J4_append_15ec4 G U17 0 kU17 (((((0 + dU7) + 2) + dU12) + 4) + dU17) mU17 (saOf s0 "CavershamShift" 334) 2 hBU17 (Or.inl (cs_X10_334 G)) (by omega)) wY_J4_append_15ec4 wM_X10_323 wIn_J4_append_15ec4 wSe_J4_J4_append_15ec4 wI_J4 (by decide) rfl (by decide +kernel) rfl rfl dX10_tell_81 ⟨Nat.le_of_ble_eq_true rfl, Nat.le_of_ble_eq_true rfl⟩ (Nat.le_of_ble_eq_true rfl) (⟨Nat.le_of_ble_eq_true rfl, Nat.le_of_ble_eq_true rfl⟩) (fun v20 U19 H locs hp w => ?_)
    obtain ⟨rfl, kU19, mU19, hBU19, hkU19, hKU19⟩ := hp
    have hK_U19 : KZ S U19 := hK_U17.tr (kbZ hKU19)
    have h : CI ea U19 ns nj nm nt nr nc := h0.keepZ hK_U19
    have hn19 : ∀ x, 0 ≤ x → ¬ vV U19 19 x := fun x hx9 => by rw [hKU19.V (t := 19) (i := x) rfl]; exact hn19 x hx9
    have hn18 : ∀ x, 1 ≤ x → ¬ vV U19 18 x := fun x hx9 => by rw [hKU19.V (t := 18) (i := x) rfl]; exact hn18 x hx9
    refine lv_pop hx hb dX10_tell_84 rfl ?_
    refine lv_aload_n hx hb dX10_tell_85 rfl (lv_at hl 1 rfl) ?_
    refine rE0 ((rfl).trans ((hK_U19.G (t := 9) (i := j1) rfl)).symm) ?_
    rcases h.t_rp j1 hlj1 with her21 | ⟨her21, hvr21⟩
    · refine g_9_8 (S := U19) (x := none) X w (h.e_ta j1 hlj1).2 wF_X10_197 (her21) dX10_tell_86 ?_
      refine lv_astoreN (lv' := [(4, .null), (3, .ref (gG (sNew S 18 0 q3) 18 0)), (2, .ref (gG S 9 j1)), (0, .ref (gG S 10 0)), (1, .int a)]) hx hb dX10_tell_89 hl (by decide) rfl (fun ls hl => ?_)
      refine lv_aloadN hx hb dX10_tell_91 (lv_at hl 0 rfl) ?_
      refine lv_ifnonnullN hx hb dX10_tell_93 ?_
      refine lv_aload_n hx hb dX10_tell_96 rfl (lv_at hl 1 rfl) ?_
      refine lv_aload_n hx hb dX10_tell_97 rfl (lv_at hl 2 rfl) ?_
      refine rE0 ((rfl).trans ((hK_U19.G (t := 9) (i := j1) rfl)).symm) ?_
      obtain ⟨g22, hlg22, heg22⟩ := h.x_th j1 hlj1
      refine g_9_2 (S := U19) (x := (nI g22)) X w (h.e_ta j1 hlj1).2 wF_X10_333 (heg22) dX10_tell_98 ?_
      refine lv_aload_n hx hb dX10_tell_101 rfl (lv_at hl 3 rfl) ?_
      refine rE0 ((rfl).trans ((hK_U19.G (t := 10) (i := 0) rfl)).symm) ?_
      refine g_10_4 (S := U19) (x := (mI U19 164 0)) X w h.v10 wF_X10_41 (rfl) dX10_tell_102 ?_
      refine lv_icmp_lt (tgt := 114) hx hb dX10_tell_105 (by decide) (fun hc23 => ?_) (fun hc23 => ?_)
      · refine ldS X wS9_X10_338 dX10_tell_114 ?_
        refine rE1 ((rfl).trans ((hKU19.G (t := 18) (i := 0) rfl).trans ((hKU17.G (t := 18) (i := 0) rfl).trans ((hKU14.G (t := 18) (i := 0) rfl).trans ((hKU12.G (t := 18) (i := 0) rfl).trans ((hKU9.G (t := 18) (i := 0) rfl).trans ((hKU7.G (t := 18) (i := 0) rfl).trans ((hKU5.G (t := 18) (i := 0) rfl).trans (rfl)))))))).symm) ?_
        refine cV (S := U19) (nA := 1) (As := [.ref (saOf s0 "CavershamShift" 338)]) (rest := []) X w hl hBU19.hv (m_J4_append_15ec4 G U19 0 kU19 ((((((0 + dU7) + 2) + dU12) + 4) + dU17) + 2) mU19 (saOf s0 "CavershamShift" 338) 6 hBU19 (Or.inl (cs_X10_338 G)) (by omega)) wY_J4_append_15ec4 wM_X10_323 wIn_J4_append_15ec4 wSe_J4_J4_append_15ec4 wI_J4 (by decide) rfl (by decide +kernel) rfl rfl dX10_tell_117 ⟨Nat.le_of_ble_eq_true rfl, Nat.le_of_ble_eq_true rfl⟩ (Nat.le_of_ble_eq_true rfl) (⟨Nat.le_of_ble_eq_true rfl, Nat.le_of_ble_eq_true rfl⟩) (fun v25 U24 H locs hp w => ?_)
        obtain ⟨rfl, kU24, mU24, hBU24, hkU24, hKU24⟩ := hp
        have hK_U24 : KZ S U24 := hK_U19.tr (kbZ hKU24)
        have h : CI ea U24 ns nj nm nt nr nc := h0.keepZ hK_U24
        have hn19 : ∀ x, 0 ≤ x → ¬ vV U24 19 x := fun x hx9 => by rw [hKU24.V (t := 19) (i := x) rfl]; exact hn19 x hx9
        have hn18 : ∀ x, 1 ≤ x → ¬ vV U24 18 x := fun x hx9 => by rw [hKU24.V (t := 18) (i := x) rfl]; exact hn18 x hx9
        refine lv_pop hx hb dX10_tell_120 rfl ?_
        refine lv_goto (tgt := 150) hx hb dX10_tell_121 (by decide) ?_
        refine lv_aload_n hx hb dX10_tell_150 rfl (lv_at hl 1 rfl) ?_
        refine rE0 ((rfl).trans ((hKU24.G (t := 18) (i := 0) rfl).trans ((hKU19.G (t := 18) (i := 0) rfl).trans ((hKU17.G (t := 18) (i := 0) rfl).trans ((hKU14.G (t := 18) (i := 0) rfl).trans ((hKU12.G (t := 18) (i := 0) rfl).trans ((hKU9.G (t := 18) (i := 0) rfl).trans ((hKU7.G (t := 18) (i := 0) rfl).trans ((hKU5.G (t := 18) (i := 0) rfl).trans (rfl))))))))).symm) ?_
        refine cV (S := U24) (nA := 0) (As := []) (rest := []) X w hl hBU24.hv (m_J4_toString_0e30d G U24 0 0 kU24 (((((((0 + dU7) + 2) + dU12) + 4) + dU17) + 2) + 6) mU24 hBU24 (hn19 0 (Nat.le_refl _))) wY_J4_toString_0e30d wM_X10_353 wIn_J4_toString_0e30d wSe_J4_J4_toString_0e30d wI_J4 (by decide) rfl (by decide +kernel) rfl rfl dX10_tell_151 ⟨Nat.le_of_ble_eq_true rfl, Nat.le_of_ble_eq_true rfl⟩ (Nat.le_of_ble_eq_true rfl) (⟨Nat.le_of_ble_eq_true rfl, Nat.le_of_ble_eq_true rfl⟩) (fun v28 U26 H locs hp w => ?_)
        obtain ⟨eaa27, hSa27, h42U26, h19U26, hTU26⟩ := hp
        obtain ⟨a27, ea27⟩ : ∃ z, z = gG U26 19 0 := ⟨_, rfl⟩
        rw [← ea27] at eaa27 hSa27
        subst eaa27
        have hK_U26 : KZ S U26 := hK_U24.tr (ktZ hTU26)
        have h : CI ea U26 ns nj nm nt nr nc := h0.keepZ hK_U26
        have hn19 : ∀ x, 1 ≤ x → ¬ vV U26 19 x := fun x hx9 => by rw [h19U26 x (by omega)]; exact hn19 x (by omega)
        have hn18 : ∀ x, 1 ≤ x → ¬ vV U26 18 x := fun x hx9 => by rw [hTU26.V (t := 18) (i := x) rfl]; exact hn18 x hx9
        exact rXr (rA (v := some a27) X (w.offZ hK_U26 hZs) rfl (Or.inl ⟨_, rfl⟩) dX10_tell_154 (Nat.le_of_ble_eq_true rfl) (Nat.le_of_ble_eq_true rfl) ⟨⟨_, rfl⟩, rfl⟩)
      · refine ldS X wS9_X10_336 dX10_tell_108 ?_
        refine lv_goto (tgt := 117) hx hb dX10_tell_111 (by decide) ?_
        refine rE1 ((rfl).trans ((hKU19.G (t := 18) (i := 0) rfl).trans ((hKU17.G (t := 18) (i := 0) rfl).trans ((hKU14.G (t := 18) (i := 0) rfl).trans ((hKU12.G (t := 18) (i := 0) rfl).trans ((hKU9.G (t := 18) (i := 0) rfl).trans ((hKU7.G (t := 18) (i := 0) rfl).trans ((hKU5.G (t := 18) (i := 0) rfl).trans (rfl)))))))).symm) ?_
        refine cV (S := U19) (nA := 1) (As := [.ref (saOf s0 "CavershamShift" 336)]) (rest := []) X w hl hBU19.hv (m_J4_append_15ec4 G U19 0 kU19 ((((((0 + dU7) + 2) + dU12) + 4) + dU17) + 2) mU19 (saOf s0 "CavershamShift" 336) 7 hBU19 (Or.inl (cs_X10_336 G)) (by omega)) wY_J4_append_15ec4 wM_X10_323 wIn_J4_append_15ec4 wSe_J4_J4_append_15ec4 wI_J4 (by decide) rfl (by decide +kernel) rfl rfl dX10_tell_117 ⟨Nat.le_of_ble_eq_true rfl, Nat.le_of_ble_eq_true rfl⟩ (Nat.le_of_ble_eq_true rfl) (⟨Nat.le_of_ble_eq_true rfl, Nat.le_of_ble_eq_true rfl⟩) (fun v30 U29 H locs hp w => ?_)
        obtain ⟨rfl, kU29, mU29, hBU29, hkU29, hKU29⟩ := hp
        have hK_U29 : KZ S U29 := hK_U19.tr (kbZ hKU29)
        have h : CI ea U29 ns nj nm nt nr nc := h0.keepZ hK_U29
        have hn19 : ∀ x, 0 ≤ x → ¬ vV U29 19 x := fun x hx9 => by rw [hKU29.V (t := 19) (i := x) rfl]; exact hn19 x hx9
        have hn18 : ∀ x, 1 ≤ x → ¬ vV U29 18 x := fun x hx9 => by rw [hKU29.V (t := 18) (i := x) rfl]; exact hn18 x hx9
        refine lv_pop hx hb dX10_tell_120 rfl ?_
        refine lv_goto (tgt := 150) hx hb dX10_tell_121 (by decide) ?_
        refine lv_aload_n hx hb dX10_tell_150 rfl (lv_at hl 1 rfl) ?_
        refine rE0 ((rfl).trans ((hKU29.G (t := 18) (i := 0) rfl).trans ((hKU19.G (t := 18) (i := 0) rfl).trans ((hKU17.G (t := 18) (i := 0) rfl).trans ((hKU14.G (t := 18) (i := 0) rfl).trans ((hKU12.G (t := 18) (i := 0) rfl).trans ((hKU9.G (t := 18) (i := 0) rfl).trans ((hKU7.G (t := 18) (i := 0) rfl).trans ((hKU5.G (t := 18) (i := 0) rfl).trans (rfl))))))))).symm) ?_
        refine cV (S := U29) (nA := 0) (As := []) (rest := []) X w hl hBU29.hv (m_J4_toString_0e30d G U29 0 0 kU29 (((((((0 + dU7) + 2) + dU12) + 4) + dU17) + 2) + 7) mU29 hBU29 (hn19 0 (Nat.le_refl _))) wY_J4_toString_0e30d wM_X10_353 wIn_J4_toString_0e30d wSe_J4_J4_toString_0e30d wI_J4 (by decide) rfl (by decide +kernel) rfl rfl dX10_tell_151 ⟨Nat.le_of_ble_eq_true rfl, Nat.le_of_ble_eq_true rfl⟩ (Nat.le_of_ble_eq_true rfl) (⟨Nat.le_of_ble_eq_true rfl, Nat.le_of_ble_eq_true rfl⟩) (fun v33 U31 H locs hp w => ?_)
        obtain ⟨eaa32, hSa32, h42U31, h19U31, hTU31⟩ := hp
        obtain ⟨a32, ea32⟩ : ∃ z, z = gG U31 19 0 := ⟨_, rfl⟩
        rw [← ea32] at eaa32 hSa32
        subst eaa32
        have hK_U31 : KZ S U31 := hK_U29.tr (ktZ hTU31)
        have h : CI ea U31 ns nj nm nt nr nc := h0.keepZ hK_U31
        have hn19 : ∀ x, 1 ≤ x → ¬ vV U31 19 x := fun x hx9 => by rw [h19U31 x (by omega)]; exact hn19 x (by omega)
        have hn18 : ∀ x, 1 ≤ x → ¬ vV U31 18 x := fun x hx9 => by rw [hTU31.V (t := 18) (i := x) rfl]; exact hn18 x hx9
        exact rXr (rA (v := some a32) X (w.offZ hK_U31 hZs) rfl (Or.inl ⟨_, rfl⟩) dX10_tell_154 (Nat.le_of_ble_eq_true rfl) (Nat.le_of_ble_eq_true rfl) ⟨⟨_, rfl⟩, rfl⟩)
    · refine g_9_8 (S := U19) (x := (some (gG U19 6 j1))) X w (h.e_ta j1 hlj1).2 wF_X10_197 (her21) dX10_tell_86 ?_
      refine lv_astore (lv' := [(4, .ref (gG U19 6 j1)), (3, .ref (gG (sNew S 18 0 q3) 18 0)), (2, .ref (gG S 9 j1)), (0, .ref (gG S 10 0)), (1, .int a)]) hx hb dX10_tell_89 hl (by decide) rfl (fun ls hl => ?_)
      refine lv_aload hx hb dX10_tell_91 (lv_at hl 0 rfl) ?_
      refine lv_ifnonnull (tgt := 124) hx hb dX10_tell_93 (by decide) ?_
      refine lv_aload_n hx hb dX10_tell_124 rfl (lv_at hl 1 rfl) ?_
      refine lv_aload hx hb dX10_tell_125 (lv_at hl 0 rfl) ?_
      refine g_6_0 (S := U19) (x := (mI U19 96 j1)) X w hvr21 wF_X10_340 (rfl) dX10_tell_127 ?_
      refine cS (S := U19) (nA := 1) (As := [.int (mI U19 96 j1)]) (rest := [.ref (gG (sNew S 18 0 q3) 18 0)]) X w hl (m_X10_sortWord G U19 (mI U19 96 j1)) wY_X10_sortWord wM_X10_343 wSt_X10_sortWord wI_X10 (by decide +kernel) rfl rfl dX10_tell_130 ⟨by decide, by decide⟩ (Nat.le_of_ble_eq_true rfl) (⟨Nat.le_of_ble_eq_true rfl, Nat.le_of_ble_eq_true rfl⟩) (fun v35 S1 H locs hp w => ?_)
      obtain ⟨⟨a34, wa34, hwa34, hSa34, rfl⟩, rfl⟩ := hp
      refine rE1 ((rfl).trans ((hKU19.G (t := 18) (i := 0) rfl).trans ((hKU17.G (t := 18) (i := 0) rfl).trans ((hKU14.G (t := 18) (i := 0) rfl).trans ((hKU12.G (t := 18) (i := 0) rfl).trans ((hKU9.G (t := 18) (i := 0) rfl).trans ((hKU7.G (t := 18) (i := 0) rfl).trans ((hKU5.G (t := 18) (i := 0) rfl).trans (rfl)))))))).symm) ?_
      refine cV (S := U19) (nA := 1) (As := [.ref a34]) (rest := []) X w hl hBU19.hv (m_J4_append_15ec4 G U19 0 kU19 ((((((0 + dU7) + 2) + dU12) + 4) + dU17) + 2) mU19 a34 wa34 hBU19 (Or.inl hSa34) (by omega)) wY_J4_append_15ec4 wM_X10_323 wIn_J4_append_15ec4 wSe_J4_J4_append_15ec4 wI_J4 (by decide) rfl (by decide +kernel) rfl rfl dX10_tell_133 ⟨Nat.le_of_ble_eq_true rfl, Nat.le_of_ble_eq_true rfl⟩ (Nat.le_of_ble_eq_true rfl) (⟨Nat.le_of_ble_eq_true rfl, Nat.le_of_ble_eq_true rfl⟩) (fun v37 U36 H locs hp w => ?_)
      obtain ⟨rfl, kU36, mU36, hBU36, hkU36, hKU36⟩ := hp
      have hK_U36 : KZ S U36 := hK_U19.tr (kbZ hKU36)
      have h : CI ea U36 ns nj nm nt nr nc := h0.keepZ hK_U36
      have hn19 : ∀ x, 0 ≤ x → ¬ vV U36 19 x := fun x hx9 => by rw [hKU36.V (t := 19) (i := x) rfl]; exact hn19 x hx9
      have hn18 : ∀ x, 1 ≤ x → ¬ vV U36 18 x := fun x hx9 => by rw [hKU36.V (t := 18) (i := x) rfl]; exact hn18 x hx9
      have hvr21 : vV U36 6 j1 := by rw [hKU36.V (t := 6) (i := j1) rfl]; exact hvr21
      refine lv_pop hx hb dX10_tell_136 rfl ?_
      refine lv_aload_n hx hb dX10_tell_137 rfl (lv_at hl 1 rfl) ?_
      refine lv_aload hx hb dX10_tell_138 (lv_at hl 0 rfl) ?_
      refine rE0 (((hK_U19.G (t := 6) (i := j1) rfl)).trans ((hK_U36.G (t := 6) (i := j1) rfl)).symm) ?_
      refine g_6_8 (S := U36) (x := (mI U36 104 j1)) X w hvr21 wF_X10_347 (rfl) dX10_tell_140 ?_
      refine cS (S := U36) (nA := 1) (As := [.int (mI U36 104 j1)]) (rest := [.ref (gG (sNew S 18 0 q3) 18 0)]) X w hl (m_X10_stateWord G U36 (mI U36 104 j1)) wY_X10_stateWord wM_X10_350 wSt_X10_stateWord wI_X10 (by decide +kernel) rfl rfl dX10_tell_143 ⟨by decide, by decide⟩ (Nat.le_of_ble_eq_true rfl) (⟨Nat.le_of_ble_eq_true rfl, Nat.le_of_ble_eq_true rfl⟩) (fun v39 S1 H locs hp w => ?_)
      obtain ⟨⟨a38, wa38, hwa38, hSa38, rfl⟩, rfl⟩ := hp
      refine rE1 ((rfl).trans ((hKU36.G (t := 18) (i := 0) rfl).trans ((hKU19.G (t := 18) (i := 0) rfl).trans ((hKU17.G (t := 18) (i := 0) rfl).trans ((hKU14.G (t := 18) (i := 0) rfl).trans ((hKU12.G (t := 18) (i := 0) rfl).trans ((hKU9.G (t := 18) (i := 0) rfl).trans ((hKU7.G (t := 18) (i := 0) rfl).trans ((hKU5.G (t := 18) (i := 0) rfl).trans (rfl))))))))).symm) ?_
      refine cV (S := U36) (nA := 1) (As := [.ref a38]) (rest := []) X w hl hBU36.hv (m_J4_append_15ec4 G U36 0 kU36 (((((((0 + dU7) + 2) + dU12) + 4) + dU17) + 2) + wa34) mU36 a38 wa38 hBU36 (Or.inl hSa38) (by omega)) wY_J4_append_15ec4 wM_X10_323 wIn_J4_append_15ec4 wSe_J4_J4_append_15ec4 wI_J4 (by decide) rfl (by decide +kernel) rfl rfl dX10_tell_146 ⟨Nat.le_of_ble_eq_true rfl, Nat.le_of_ble_eq_true rfl⟩ (Nat.le_of_ble_eq_true rfl) (⟨Nat.le_of_ble_eq_true rfl, Nat.le_of_ble_eq_true rfl⟩) (fun v41 U40 H locs hp w => ?_)
      obtain ⟨rfl, kU40, mU40, hBU40, hkU40, hKU40⟩ := hp
      have hK_U40 : KZ S U40 := hK_U36.tr (kbZ hKU40)
      have h : CI ea U40 ns nj nm nt nr nc := h0.keepZ hK_U40
      have hn19 : ∀ x, 0 ≤ x → ¬ vV U40 19 x := fun x hx9 => by rw [hKU40.V (t := 19) (i := x) rfl]; exact hn19 x hx9
      have hn18 : ∀ x, 1 ≤ x → ¬ vV U40 18 x := fun x hx9 => by rw [hKU40.V (t := 18) (i := x) rfl]; exact hn18 x hx9
      have hvr21 : vV U40 6 j1 := by rw [hKU40.V (t := 6) (i := j1) rfl]; exact hvr21
      refine lv_pop hx hb dX10_tell_149 rfl ?_
      refine lv_aload_n hx hb dX10_tell_150 rfl (lv_at hl 1 rfl) ?_
      refine rE0 ((rfl).trans ((hKU40.G (t := 18) (i := 0) rfl).trans ((hKU36.G (t := 18) (i := 0) rfl).trans ((hKU19.G (t := 18) (i := 0) rfl).trans ((hKU17.G (t := 18) (i := 0) rfl).trans ((hKU14.G (t := 18) (i := 0) rfl).trans ((hKU12.G (t := 18) (i := 0) rfl).trans ((hKU9.G (t := 18) (i := 0) rfl).trans ((hKU7.G (t := 18) (i := 0) rfl).trans ((hKU5.G (t := 18) (i := 0) rfl).trans (rfl)))))))))).symm) ?_
      refine cV (S := U40) (nA := 0) (As := []) (rest := []) X w hl hBU40.hv (m_J4_toString_0e30d G U40 0 0 kU40 ((((((((0 + dU7) + 2) + dU12) + 4) + dU17) + 2) + wa34) + wa38) mU40 hBU40 (hn19 0 (Nat.le_refl _))) wY_J4_toString_0e30d wM_X10_353 wIn_J4_toString_0e30d wSe_J4_J4_toString_0e30d wI_J4 (by decide) rfl (by decide +kernel) rfl rfl dX10_tell_151 ⟨Nat.le_of_ble_eq_true rfl, Nat.le_of_ble_eq_true rfl⟩ (Nat.le_of_ble_eq_true rfl) (⟨Nat.le_of_ble_eq_true rfl, Nat.le_of_ble_eq_true rfl⟩) (fun v44 U42 H locs hp w => ?_)
      obtain ⟨eaa43, hSa43, h42U42, h19U42, hTU42⟩ := hp
      obtain ⟨a43, ea43⟩ : ∃ z, z = gG U42 19 0 := ⟨_, rfl⟩
      rw [← ea43] at eaa43 hSa43
      subst eaa43
      have hK_U42 : KZ S U42 := hK_U40.tr (ktZ hTU42)
      have h : CI ea U42 ns nj nm nt nr nc := h0.keepZ hK_U42
      have hn19 : ∀ x, 1 ≤ x → ¬ vV U42 19 x := fun x hx9 => by rw [h19U42 x (by omega)]; exact hn19 x (by omega)
      have hn18 : ∀ x, 1 ≤ x → ¬ vV U42 18 x := fun x hx9 => by rw [hTU42.V (t := 18) (i := x) rfl]; exact hn18 x hx9
      exact rXr (rA (v := some a43) X (w.offZ hK_U42 hZs) rfl (Or.inl ⟨_, rfl⟩) dX10_tell_154 (Nat.le_of_ble_eq_true rfl) (Nat.le_of_ble_eq_true rfl) ⟨⟨_, rfl⟩, rfl⟩)

