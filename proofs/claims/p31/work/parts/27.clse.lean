def PT (S : HS) (L : List String) : String → HS → Prop := fun E S' => S = S' ∧ E ∈ L
theorem dX10_ofStation_0 : decode cX10_ofStation 0 = .ok (.aload_n 0, 1) := by decide +kernel
theorem dX10_ofStation_1 : decode cX10_ofStation 1 = .ok (.getfield 12, 3) := by decide +kernel
theorem dX10_ofStation_4 : decode cX10_ofStation 4 = .ok (.iload_n 1, 1) := by decide +kernel
theorem dX10_ofStation_5 : decode cX10_ofStation 5 = .ok (.invokevirtual 86, 3) := by decide +kernel
theorem dX10_ofStation_8 : decode cX10_ofStation 8 = .ok (.astore_n 3, 1) := by decide +kernel
theorem dX10_ofStation_9 : decode cX10_ofStation 9 = .ok (.aload_n 3, 1) := by decide +kernel
theorem dX10_ofStation_10 : decode cX10_ofStation 10 = .ok (.ifnonnull 13, 3) := by decide +kernel
theorem dX10_ofStation_13 : decode cX10_ofStation 13 = .ok (.new 90, 3) := by decide +kernel
theorem dX10_ofStation_16 : decode cX10_ofStation 16 = .ok (.dup, 1) := by decide +kernel
theorem dX10_ofStation_17 : decode cX10_ofStation 17 = .ok (.ldc 92, 2) := by decide +kernel
theorem dX10_ofStation_19 : decode cX10_ofStation 19 = .ok (.invokespecial 94, 3) := by decide +kernel
theorem dX10_ofStation_22 : decode cX10_ofStation 22 = .ok (.athrow, 1) := by decide +kernel
theorem dX10_ofStation_23 : decode cX10_ofStation 23 = .ok (.iload_n 2, 1) := by decide +kernel
theorem dX10_ofStation_24 : decode cX10_ofStation 24 = .ok (.iconst 0, 1) := by decide +kernel
theorem dX10_ofStation_25 : decode cX10_ofStation 25 = .ok (.bipush 8, 2) := by decide +kernel
theorem dX10_ofStation_27 : decode cX10_ofStation 27 = .ok (.invokestatic 48, 3) := by decide +kernel
theorem dX10_ofStation_30 : decode cX10_ofStation 30 = .ok (.ifCond .eq 13, 3) := by decide +kernel
theorem dX10_ofStation_33 : decode cX10_ofStation 33 = .ok (.new 52, 3) := by decide +kernel
theorem dX10_ofStation_36 : decode cX10_ofStation 36 = .ok (.dup, 1) := by decide +kernel
theorem dX10_ofStation_37 : decode cX10_ofStation 37 = .ok (.ldc 244, 2) := by decide +kernel
theorem dX10_ofStation_39 : decode cX10_ofStation 39 = .ok (.invokespecial 56, 3) := by decide +kernel
theorem dX10_ofStation_42 : decode cX10_ofStation 42 = .ok (.athrow, 1) := by decide +kernel
theorem dX10_ofStation_43 : decode cX10_ofStation 43 = .ok (.aload_n 0, 1) := by decide +kernel
theorem dX10_ofStation_44 : decode cX10_ofStation 44 = .ok (.aload_n 3, 1) := by decide +kernel
theorem dX10_ofStation_45 : decode cX10_ofStation 45 = .ok (.iload_n 2, 1) := by decide +kernel
theorem dX10_ofStation_46 : decode cX10_ofStation 46 = .ok (.invokevirtual 246, 3) := by decide +kernel
theorem dX10_ofStation_49 : decode cX10_ofStation 49 = .ok (.ireturn, 1) := by decide +kernel
def coK (n : Nat) (a b : Int32) : Nat := if (sOut a 0 (nI n - 1) || sOut b 0 23) = true then 1 else 0
def siK (a b : Int32) : Nat := if (sOut a 0 23 || sOut b 0 2) = true then 1 else 0
theorem nI_p1 (n : Nat) : nI (n + 1) - 1 = nI n := pk_sub (a := n + 1) (b := 1) (by omega)
theorem so_j {n j : Nat} (hj : j < n) (hn : n ≤ 40) : sOut (nI j) 0 (nI n - 1) = false := by
  obtain ⟨m, rfl⟩ : ∃ m, n = m + 1 := ⟨n - 1, by omega⟩
  unfold sOut
  rw [Bool.or_eq_false_iff, show nI (m + 1) - 1 = nI m from nI_p1 m]
  exact ⟨decide_eq_false (nI_pos (by omega)), decide_eq_false (fun z => absurd ((nI_ltI (a := m) (b := j) (by omega) (by omega)).mp z) (by omega))⟩
theorem coK_0 {n j : Nat} {a b : Int32} (hj : j < n) (e : a = nI j) (hn : n ≤ 8) (hb : sOut b 0 23 = false) : coK n a b = 0 := by
  unfold coK
  rw [e, so_j hj (Nat.le_trans hn (by decide)), hb]; rfl
theorem coK_1a {n : Nat} {a b : Int32} (h : sOut a 0 (nI n - 1) = true) : coK n a b = 1 := by
  unfold coK
  rw [h]; rfl
theorem coK_1b {n : Nat} {a b : Int32} (h : sOut b 0 23 = true) : coK n a b = 1 := by
  unfold coK
  rw [h, Bool.or_true]; rfl
theorem siK_0 {a b : Int32} (h : sOut a 0 23 = false) (h2 : sOut b 0 2 = false) : siK a b = 0 := by
  unfold siK
  rw [h, h2]; rfl
theorem siK_1a {a b : Int32} (h : sOut a 0 23 = true) : siK a b = 1 := by
  unfold siK
  rw [h]; rfl
theorem siK_1b {a b : Int32} (h : sOut b 0 2 = true) : siK a b = 1 := by
  unfold siK
  rw [h, Bool.or_true]; rfl
theorem siK_z {a b : Int32} (h : siK a b = 0) : sOut a 0 23 = false ∧ sOut b 0 2 = false := by
  cases e : sOut a 0 23 with
  | true => rw [siK_1a e] at h; exact absurd h (by decide)
  | false =>
    cases e2 : sOut b 0 2 with
    | true => rw [siK_1b e2] at h; exact absurd h (by decide)
    | false => exact ⟨rfl, rfl⟩

theorem dX10_comes_0 : decode cX10_comes 0 = .ok (.aload_n 0, 1) := by decide +kernel
theorem dX10_comes_1 : decode cX10_comes 1 = .ok (.getfield 12, 3) := by decide +kernel
theorem dX10_comes_4 : decode cX10_comes 4 = .ok (.iload_n 1, 1) := by decide +kernel
theorem dX10_comes_5 : decode cX10_comes 5 = .ok (.invokevirtual 86, 3) := by decide +kernel
theorem dX10_comes_8 : decode cX10_comes 8 = .ok (.astore_n 3, 1) := by decide +kernel
theorem dX10_comes_9 : decode cX10_comes 9 = .ok (.aload_n 3, 1) := by decide +kernel
theorem dX10_comes_10 : decode cX10_comes 10 = .ok (.ifnull 13, 3) := by decide +kernel
theorem dX10_comes_13 : decode cX10_comes 13 = .ok (.iload_n 2, 1) := by decide +kernel
theorem dX10_comes_14 : decode cX10_comes 14 = .ok (.iconst 0, 1) := by decide +kernel
theorem dX10_comes_15 : decode cX10_comes 15 = .ok (.bipush 23, 2) := by decide +kernel
theorem dX10_comes_17 : decode cX10_comes 17 = .ok (.invokestatic 48, 3) := by decide +kernel
theorem dX10_comes_20 : decode cX10_comes 20 = .ok (.ifCond .eq 13, 3) := by decide +kernel
theorem dX10_comes_23 : decode cX10_comes 23 = .ok (.new 90, 3) := by decide +kernel
theorem dX10_comes_26 : decode cX10_comes 26 = .ok (.dup, 1) := by decide +kernel
theorem dX10_comes_27 : decode cX10_comes 27 = .ok (.ldc 250, 2) := by decide +kernel
theorem dX10_comes_29 : decode cX10_comes 29 = .ok (.invokespecial 94, 3) := by decide +kernel
theorem dX10_comes_32 : decode cX10_comes 32 = .ok (.athrow, 1) := by decide +kernel
theorem dX10_comes_33 : decode cX10_comes 33 = .ok (.aload_n 0, 1) := by decide +kernel
theorem dX10_comes_34 : decode cX10_comes 34 = .ok (.getfield 12, 3) := by decide +kernel
theorem dX10_comes_37 : decode cX10_comes 37 = .ok (.aload_n 3, 1) := by decide +kernel
theorem dX10_comes_38 : decode cX10_comes 38 = .ok (.iload_n 2, 1) := by decide +kernel
theorem dX10_comes_39 : decode cX10_comes 39 = .ok (.invokevirtual 252, 3) := by decide +kernel
theorem dX10_comes_42 : decode cX10_comes 42 = .ok (.ireturn, 1) := by decide +kernel
abbrev rm_m_X10_comes : Room := { frames := 6, cells := 1, slots := 6, locals := 90 }
set_option maxHeartbeats 4000000 in
set_option maxRecDepth 100000 in
theorem m_X10_comes {s0 : State} {l : Launch} {D : va_G} {cy : Nat → ClassId} (G : Gl s0 l D cy) (S : HS) (ea ns nj nm nt nr nc : Nat) (h : CI ea S ns nj nm nt nr nc) (a b : Int32) : CtX s0 l D cy yX10_comes cX10_comes 4 (some .int) rm_m_X10_comes S [.ref (gG S 10 0), .int a, .int b] (fun v S' => coK ns a b = 0 ∧ (∃ j, j < ns ∧ a = nI j ∧ some (.int (cComes S ns nj j b)) = v) ∧ S = S') (fun E S' => S = S' ∧ E = "java/lang/IndexOutOfBoundsException" ∧ coK ns a b = 1) := by
  refine proX "CavershamShift" G rfl rfl (Nat.le_of_ble_eq_true rfl) (fun p e s m below meth c ls X w hno hl => ?_)
  have hx := X.1
  have hb := X.2.1
  have hown := X.2.2.2.1
  have hts := X.2.2.2.2.1
  have hl : lv_has ls 4 [(0, .ref (gG S 10 0)), (1, .int a), (2, .int b)] := hl
  refine lv_aload_n hx hb dX10_comes_0 rfl (lv_at hl 0 rfl) ?_
  refine g_10_0 (S := S) (x := (some (gG S 0 0))) X w h.v10 wF_X10_12 (h.f160) dX10_comes_1 ?_
  refine lv_iload_n hx hb dX10_comes_4 rfl (lv_at hl 1 rfl) ?_
  refine cV (S := S) (nA := 1) (As := [.int a]) (rest := []) X w hl h.v0 (m_X0_stationAt G S ea ns nj nm nt nr nc h a) wY_X0_stationAt wM_X10_86 wIn_X0_stationAt wSe_X0_X0_stationAt wI_X0 (by decide) rfl (by decide +kernel) rfl rfl dX10_comes_5 ⟨by decide, by decide⟩ (Nat.le_of_ble_eq_true rfl) (⟨Nat.le_of_ble_eq_true rfl, Nat.le_of_ble_eq_true rfl⟩) (fun v2 S1 H locs hp w => ?_)
  obtain ⟨hp, rfl⟩ := hp
  rcases hp with ⟨rfl, hoj1⟩ | ⟨j1, hlj1, hkj1, rfl⟩
  · skip
    refine lv_astore_nN (lv' := [(3, .null), (0, .ref (gG S 10 0)), (1, .int a), (2, .int b)]) hx hb dX10_comes_8 rfl hl (by decide) rfl (fun ls hl => ?_)
    refine lv_aload_nN hx hb dX10_comes_9 rfl (lv_at hl 0 rfl) ?_
    refine lv_ifnullN (tgt := 23) hx hb dX10_comes_10 (by decide) ?_
    exact rT (S := S) (names := ["java/lang/RuntimeException", "java/lang/Exception"]) X w hl hno (by decide) (by decide) wC_X10_90 wI_java_lang_IndexOutOfBoundsException wS9_X10_250 at_IOB go_IOB ⟨by decide, by decide⟩ dX10_comes_23 dX10_comes_26 dX10_comes_27 dX10_comes_29 dX10_comes_32 (by decide) (by decide) (Nat.le_of_ble_eq_true rfl) (Nat.le_of_ble_eq_true rfl) (Nat.le_of_ble_eq_true rfl) (Nat.le_of_ble_eq_true rfl) (⟨rfl, rfl, by first | exact coK_1a (by assumption) | exact coK_1b (b2i_t hc20)⟩)
  · skip
    refine lv_astore_n (lv' := [(3, .ref (gG S 8 j1)), (0, .ref (gG S 10 0)), (1, .int a), (2, .int b)]) hx hb dX10_comes_8 rfl hl (by decide) rfl (fun ls hl => ?_)
    refine lv_aload_n hx hb dX10_comes_9 rfl (lv_at hl 0 rfl) ?_
    refine lv_ifnull hx hb dX10_comes_10 ?_
    refine lv_iload_n hx hb dX10_comes_13 rfl (lv_at hl 3 rfl) ?_
    refine lv_iconst (v := 0) hx hb dX10_comes_14 (by decide) ?_
    refine lv_bipush (v := 23) hx hb dX10_comes_15 (by decide) ?_
    refine cS (S := S) (nA := 3) (As := [.int b, .int 0, .int 23]) (rest := []) X w hl (m_X10_isOutside G S b 0 23) wY_X10_isOutside wM_X10_48 wSt_X10_isOutside wI_X10 (by decide +kernel) rfl rfl dX10_comes_17 ⟨by decide, by decide⟩ (Nat.le_of_ble_eq_true rfl) (⟨Nat.le_of_ble_eq_true rfl, Nat.le_of_ble_eq_true rfl⟩) (fun v3 S1 H locs hp w => ?_)
    obtain ⟨rfl, rfl⟩ := hp
    refine lv_if_eq (tgt := 33) hx hb dX10_comes_20 (by decide) (fun hc20 => ?_) (fun hc20 => ?_)
    · refine lv_aload_n hx hb dX10_comes_33 rfl (lv_at hl 1 rfl) ?_
      refine g_10_0 (S := S) (x := (some (gG S 0 0))) X w h.v10 wF_X10_12 (h.f160) dX10_comes_34 ?_
      refine lv_aload_n hx hb dX10_comes_37 rfl (lv_at hl 0 rfl) ?_
      refine lv_iload_n hx hb dX10_comes_38 rfl (lv_at hl 3 rfl) ?_
      refine cV (S := S) (nA := 2) (As := [.ref (gG S 8 j1), .int b]) (rest := []) X w hl h.v0 (m_X0_strengthOf G S ea ns nj nm nt nr nc h j1 hlj1 b) wY_X0_strengthOf wM_X10_252 wIn_X0_strengthOf wSe_X0_X0_strengthOf wI_X0 (by decide) rfl (by decide +kernel) rfl rfl dX10_comes_39 ⟨by decide, by decide⟩ (Nat.le_of_ble_eq_true rfl) (⟨Nat.le_of_ble_eq_true rfl, Nat.le_of_ble_eq_true rfl⟩) (fun v4 S1 H locs hp w => ?_)
      obtain ⟨rfl, rfl⟩ := hp
      exact rXr (rI X w rfl dX10_comes_42 (by decide) (by decide) (⟨coK_0 (by assumption) (by assumption) h.b_st (b2i_f hc20), ⟨_, by assumption, by assumption, rfl⟩, rfl⟩))
    · exact rT (S := S) (names := ["java/lang/RuntimeException", "java/lang/Exception"]) X w hl hno (by decide) (by decide) wC_X10_90 wI_java_lang_IndexOutOfBoundsException wS9_X10_250 at_IOB go_IOB ⟨by decide, by decide⟩ dX10_comes_23 dX10_comes_26 dX10_comes_27 dX10_comes_29 dX10_comes_32 (by decide) (by decide) (Nat.le_of_ble_eq_true rfl) (Nat.le_of_ble_eq_true rfl) (Nat.le_of_ble_eq_true rfl) (Nat.le_of_ble_eq_true rfl) (⟨rfl, rfl, by first | exact coK_1a (by assumption) | exact coK_1b (b2i_t hc20)⟩)

theorem dX10_ofMonitor_0 : decode cX10_ofMonitor 0 = .ok (.aload_n 0, 1) := by decide +kernel
theorem dX10_ofMonitor_1 : decode cX10_ofMonitor 1 = .ok (.getfield 21, 3) := by decide +kernel
theorem dX10_ofMonitor_4 : decode cX10_ofMonitor 4 = .ok (.iload_n 1, 1) := by decide +kernel
theorem dX10_ofMonitor_5 : decode cX10_ofMonitor 5 = .ok (.invokevirtual 134, 3) := by decide +kernel
theorem dX10_ofMonitor_8 : decode cX10_ofMonitor 8 = .ok (.astore_n 3, 1) := by decide +kernel
theorem dX10_ofMonitor_9 : decode cX10_ofMonitor 9 = .ok (.aload_n 3, 1) := by decide +kernel
theorem dX10_ofMonitor_10 : decode cX10_ofMonitor 10 = .ok (.ifnonnull 13, 3) := by decide +kernel
theorem dX10_ofMonitor_13 : decode cX10_ofMonitor 13 = .ok (.new 90, 3) := by decide +kernel
theorem dX10_ofMonitor_16 : decode cX10_ofMonitor 16 = .ok (.dup, 1) := by decide +kernel
theorem dX10_ofMonitor_17 : decode cX10_ofMonitor 17 = .ok (.ldc 138, 2) := by decide +kernel
theorem dX10_ofMonitor_19 : decode cX10_ofMonitor 19 = .ok (.invokespecial 94, 3) := by decide +kernel
theorem dX10_ofMonitor_22 : decode cX10_ofMonitor 22 = .ok (.athrow, 1) := by decide +kernel
theorem dX10_ofMonitor_23 : decode cX10_ofMonitor 23 = .ok (.iload_n 2, 1) := by decide +kernel
theorem dX10_ofMonitor_24 : decode cX10_ofMonitor 24 = .ok (.iconst 0, 1) := by decide +kernel
theorem dX10_ofMonitor_25 : decode cX10_ofMonitor 25 = .ok (.bipush 8, 2) := by decide +kernel
theorem dX10_ofMonitor_27 : decode cX10_ofMonitor 27 = .ok (.invokestatic 48, 3) := by decide +kernel
theorem dX10_ofMonitor_30 : decode cX10_ofMonitor 30 = .ok (.ifCond .eq 13, 3) := by decide +kernel
theorem dX10_ofMonitor_33 : decode cX10_ofMonitor 33 = .ok (.new 52, 3) := by decide +kernel
theorem dX10_ofMonitor_36 : decode cX10_ofMonitor 36 = .ok (.dup, 1) := by decide +kernel
theorem dX10_ofMonitor_37 : decode cX10_ofMonitor 37 = .ok (.ldc 244, 2) := by decide +kernel
theorem dX10_ofMonitor_39 : decode cX10_ofMonitor 39 = .ok (.invokespecial 56, 3) := by decide +kernel
theorem dX10_ofMonitor_42 : decode cX10_ofMonitor 42 = .ok (.athrow, 1) := by decide +kernel
theorem dX10_ofMonitor_43 : decode cX10_ofMonitor 43 = .ok (.aload_n 0, 1) := by decide +kernel
theorem dX10_ofMonitor_44 : decode cX10_ofMonitor 44 = .ok (.aload_n 3, 1) := by decide +kernel
theorem dX10_ofMonitor_45 : decode cX10_ofMonitor 45 = .ok (.iload_n 2, 1) := by decide +kernel
theorem dX10_ofMonitor_46 : decode cX10_ofMonitor 46 = .ok (.invokevirtual 255, 3) := by decide +kernel
theorem dX10_ofMonitor_49 : decode cX10_ofMonitor 49 = .ok (.ireturn, 1) := by decide +kernel
theorem dX10_sits_0 : decode cX10_sits 0 = .ok (.iload_n 1, 1) := by decide +kernel
theorem dX10_sits_1 : decode cX10_sits 1 = .ok (.iconst 0, 1) := by decide +kernel
theorem dX10_sits_2 : decode cX10_sits 2 = .ok (.bipush 23, 2) := by decide +kernel
theorem dX10_sits_4 : decode cX10_sits 4 = .ok (.invokestatic 48, 3) := by decide +kernel
theorem dX10_sits_7 : decode cX10_sits 7 = .ok (.ifCond .ne 12, 3) := by decide +kernel
theorem dX10_sits_10 : decode cX10_sits 10 = .ok (.iload_n 2, 1) := by decide +kernel
theorem dX10_sits_11 : decode cX10_sits 11 = .ok (.iconst 0, 1) := by decide +kernel
theorem dX10_sits_12 : decode cX10_sits 12 = .ok (.iconst 2, 1) := by decide +kernel
theorem dX10_sits_13 : decode cX10_sits 13 = .ok (.invokestatic 48, 3) := by decide +kernel
theorem dX10_sits_16 : decode cX10_sits 16 = .ok (.ifCond .eq 13, 3) := by decide +kernel
theorem dX10_sits_19 : decode cX10_sits 19 = .ok (.new 90, 3) := by decide +kernel
theorem dX10_sits_22 : decode cX10_sits 22 = .ok (.dup, 1) := by decide +kernel
theorem dX10_sits_23 : decode cX10_sits 23 = .ok (.ldc 132, 2) := by decide +kernel
theorem dX10_sits_25 : decode cX10_sits 25 = .ok (.invokespecial 94, 3) := by decide +kernel
theorem dX10_sits_28 : decode cX10_sits 28 = .ok (.athrow, 1) := by decide +kernel
theorem dX10_sits_29 : decode cX10_sits 29 = .ok (.iload_n 3, 1) := by decide +kernel
theorem dX10_sits_30 : decode cX10_sits 30 = .ok (.ifCond .eq 15, 3) := by decide +kernel
theorem dX10_sits_33 : decode cX10_sits 33 = .ok (.aload_n 0, 1) := by decide +kernel
theorem dX10_sits_34 : decode cX10_sits 34 = .ok (.getfield 21, 3) := by decide +kernel
theorem dX10_sits_37 : decode cX10_sits 37 = .ok (.iload_n 1, 1) := by decide +kernel
theorem dX10_sits_38 : decode cX10_sits 38 = .ok (.iload_n 2, 1) := by decide +kernel
theorem dX10_sits_39 : decode cX10_sits 39 = .ok (.invokevirtual 259, 3) := by decide +kernel
theorem dX10_sits_42 : decode cX10_sits 42 = .ok (.goto 12, 3) := by decide +kernel
theorem dX10_sits_45 : decode cX10_sits 45 = .ok (.aload_n 0, 1) := by decide +kernel
theorem dX10_sits_46 : decode cX10_sits 46 = .ok (.getfield 21, 3) := by decide +kernel
theorem dX10_sits_49 : decode cX10_sits 49 = .ok (.iload_n 1, 1) := by decide +kernel
theorem dX10_sits_50 : decode cX10_sits 50 = .ok (.iload_n 2, 1) := by decide +kernel
theorem dX10_sits_51 : decode cX10_sits 51 = .ok (.invokevirtual 147, 3) := by decide +kernel
theorem dX10_sits_54 : decode cX10_sits 54 = .ok (.ireturn, 1) := by decide +kernel
abbrev rm_m_X10_sits : Room := { frames := 6, cells := 1, slots := 6, locals := 90 }
set_option maxHeartbeats 4000000 in
set_option maxRecDepth 100000 in
theorem m_X10_sits {s0 : State} {l : Launch} {D : va_G} {cy : Nat → ClassId} (G : Gl s0 l D cy) (S : HS) (ea ns nj nm nt nr nc : Nat) (h : CI ea S ns nj nm nt nr nc) (a b z : Int32) : CtX s0 l D cy yX10_sits cX10_sits 4 (some .int) rm_m_X10_sits S [.ref (gG S 10 0), .int a, .int b, .int z] (fun v S' => siK a b = 0 ∧ some (.int (if z = 0 then cSlot S 0 a b else cSlot S 1 a b)) = v ∧ S = S') (fun E S' => S = S' ∧ E = "java/lang/IndexOutOfBoundsException" ∧ siK a b = 1) := by
  refine proX "CavershamShift" G rfl rfl (Nat.le_of_ble_eq_true rfl) (fun p e s m below meth c ls X w hno hl => ?_)
  have hx := X.1
  have hb := X.2.1
  have hown := X.2.2.2.1
  have hts := X.2.2.2.2.1
  have hl : lv_has ls 4 [(0, .ref (gG S 10 0)), (1, .int a), (2, .int b), (3, .int z)] := hl
  refine lv_iload_n hx hb dX10_sits_0 rfl (lv_at hl 1 rfl) ?_
  refine lv_iconst (v := 0) hx hb dX10_sits_1 (by decide) ?_
  refine lv_bipush (v := 23) hx hb dX10_sits_2 (by decide) ?_
  refine cS (S := S) (nA := 3) (As := [.int a, .int 0, .int 23]) (rest := []) X w hl (m_X10_isOutside G S a 0 23) wY_X10_isOutside wM_X10_48 wSt_X10_isOutside wI_X10 (by decide +kernel) rfl rfl dX10_sits_4 ⟨by decide, by decide⟩ (Nat.le_of_ble_eq_true rfl) (⟨Nat.le_of_ble_eq_true rfl, Nat.le_of_ble_eq_true rfl⟩) (fun v1 S1 H locs hp w => ?_)
  obtain ⟨rfl, rfl⟩ := hp
  refine lv_if_ne (tgt := 19) hx hb dX10_sits_7 (by decide) (fun hc7 => ?_) (fun hc7 => ?_)
  · exact rT (S := S) (names := ["java/lang/RuntimeException", "java/lang/Exception"]) X w hl hno (by decide) (by decide) wC_X10_90 wI_java_lang_IndexOutOfBoundsException wS9_X10_132 at_IOB go_IOB ⟨by decide, by decide⟩ dX10_sits_19 dX10_sits_22 dX10_sits_23 dX10_sits_25 dX10_sits_28 (by decide) (by decide) (Nat.le_of_ble_eq_true rfl) (Nat.le_of_ble_eq_true rfl) (Nat.le_of_ble_eq_true rfl) (Nat.le_of_ble_eq_true rfl) (⟨rfl, rfl, by first | exact siK_1a (b2i_t hc7) | exact siK_1b (b2i_t hc16)⟩)
  · refine lv_iload_n hx hb dX10_sits_10 rfl (lv_at hl 2 rfl) ?_
    refine lv_iconst (v := 0) hx hb dX10_sits_11 (by decide) ?_
    refine lv_iconst (v := 2) hx hb dX10_sits_12 (by decide) ?_
    refine cS (S := S) (nA := 3) (As := [.int b, .int 0, .int 2]) (rest := []) X w hl (m_X10_isOutside G S b 0 2) wY_X10_isOutside wM_X10_48 wSt_X10_isOutside wI_X10 (by decide +kernel) rfl rfl dX10_sits_13 ⟨by decide, by decide⟩ (Nat.le_of_ble_eq_true rfl) (⟨Nat.le_of_ble_eq_true rfl, Nat.le_of_ble_eq_true rfl⟩) (fun v2 S1 H locs hp w => ?_)
    obtain ⟨rfl, rfl⟩ := hp
    refine lv_if_eq (tgt := 29) hx hb dX10_sits_16 (by decide) (fun hc16 => ?_) (fun hc16 => ?_)
    · refine lv_iload_n hx hb dX10_sits_29 rfl (lv_at hl 3 rfl) ?_
      refine lv_if_eq (tgt := 45) hx hb dX10_sits_30 (by decide) (fun hz9 => ?_) (fun hz9 => ?_)
      · refine lv_aload_n hx hb dX10_sits_45 rfl (lv_at hl 0 rfl) ?_
        refine g_10_1 (S := S) (x := (some (gG S 7 0))) X w h.v10 wF_X10_21 (h.f161) dX10_sits_46 ?_
        refine lv_iload_n hx hb dX10_sits_49 rfl (lv_at hl 1 rfl) ?_
        refine lv_iload_n hx hb dX10_sits_50 rfl (lv_at hl 2 rfl) ?_
        refine cV (S := S) (nA := 2) (As := [.int a, .int b]) (rest := []) X w hl h.v7 (m_X7_stationIn G S ea ns nj nm nt nr nc h a b) wY_X7_stationIn wM_X10_147 wIn_X7_stationIn wSe_X7_X7_stationIn wI_X7 (by decide) rfl (by decide +kernel) rfl rfl dX10_sits_51 ⟨by decide, by decide⟩ (Nat.le_of_ble_eq_true rfl) (⟨Nat.le_of_ble_eq_true rfl, Nat.le_of_ble_eq_true rfl⟩) (fun v3 S1 H locs hp w => ?_)
        obtain ⟨rfl, rfl⟩ := hp
        exact rXr (rI X w rfl dX10_sits_54 (by decide) (by decide) (⟨siK_0 (b2i_f hc7) (b2i_f hc16), by simp [hz9], rfl⟩))
      · refine lv_aload_n hx hb dX10_sits_33 rfl (lv_at hl 0 rfl) ?_
        refine g_10_1 (S := S) (x := (some (gG S 7 0))) X w h.v10 wF_X10_21 (h.f161) dX10_sits_34 ?_
        refine lv_iload_n hx hb dX10_sits_37 rfl (lv_at hl 1 rfl) ?_
        refine lv_iload_n hx hb dX10_sits_38 rfl (lv_at hl 2 rfl) ?_
        refine cV (S := S) (nA := 2) (As := [.int a, .int b]) (rest := []) X w hl h.v7 (m_X7_monitorIn G S ea ns nj nm nt nr nc h a b) wY_X7_monitorIn wM_X10_259 wIn_X7_monitorIn wSe_X7_X7_monitorIn wI_X7 (by decide) rfl (by decide +kernel) rfl rfl dX10_sits_39 ⟨by decide, by decide⟩ (Nat.le_of_ble_eq_true rfl) (⟨Nat.le_of_ble_eq_true rfl, Nat.le_of_ble_eq_true rfl⟩) (fun v4 S1 H locs hp w => ?_)
        obtain ⟨rfl, rfl⟩ := hp
        refine lv_goto (tgt := 54) hx hb dX10_sits_42 (by decide) ?_
        exact rXr (rI X w rfl dX10_sits_54 (by decide) (by decide) (⟨siK_0 (b2i_f hc7) (b2i_f hc16), by simp [hz9], rfl⟩))
    · exact rT (S := S) (names := ["java/lang/RuntimeException", "java/lang/Exception"]) X w hl hno (by decide) (by decide) wC_X10_90 wI_java_lang_IndexOutOfBoundsException wS9_X10_132 at_IOB go_IOB ⟨by decide, by decide⟩ dX10_sits_19 dX10_sits_22 dX10_sits_23 dX10_sits_25 dX10_sits_28 (by decide) (by decide) (Nat.le_of_ble_eq_true rfl) (Nat.le_of_ble_eq_true rfl) (Nat.le_of_ble_eq_true rfl) (Nat.le_of_ble_eq_true rfl) (⟨rfl, rfl, by first | exact siK_1a (b2i_t hc7) | exact siK_1b (b2i_t hc16)⟩)

theorem dX10_quality_0 : decode cX10_quality 0 = .ok (.aload_n 0, 1) := by decide +kernel
theorem dX10_quality_1 : decode cX10_quality 1 = .ok (.getfield 21, 3) := by decide +kernel
theorem dX10_quality_4 : decode cX10_quality 4 = .ok (.iload_n 1, 1) := by decide +kernel
theorem dX10_quality_5 : decode cX10_quality 5 = .ok (.invokevirtual 134, 3) := by decide +kernel
theorem dX10_quality_8 : decode cX10_quality 8 = .ok (.astore 4, 2) := by decide +kernel
theorem dX10_quality_10 : decode cX10_quality 10 = .ok (.aload_n 0, 1) := by decide +kernel
theorem dX10_quality_11 : decode cX10_quality 11 = .ok (.getfield 12, 3) := by decide +kernel
theorem dX10_quality_14 : decode cX10_quality 14 = .ok (.iload_n 2, 1) := by decide +kernel
theorem dX10_quality_15 : decode cX10_quality 15 = .ok (.invokevirtual 86, 3) := by decide +kernel
theorem dX10_quality_18 : decode cX10_quality 18 = .ok (.astore 5, 2) := by decide +kernel
theorem dX10_quality_20 : decode cX10_quality 20 = .ok (.aload 4, 2) := by decide +kernel
theorem dX10_quality_22 : decode cX10_quality 22 = .ok (.ifnull 18, 3) := by decide +kernel
theorem dX10_quality_25 : decode cX10_quality 25 = .ok (.aload 5, 2) := by decide +kernel
theorem dX10_quality_27 : decode cX10_quality 27 = .ok (.ifnull 13, 3) := by decide +kernel
theorem dX10_quality_30 : decode cX10_quality 30 = .ok (.iload_n 3, 1) := by decide +kernel
theorem dX10_quality_31 : decode cX10_quality 31 = .ok (.iconst 0, 1) := by decide +kernel
theorem dX10_quality_32 : decode cX10_quality 32 = .ok (.bipush 23, 2) := by decide +kernel
theorem dX10_quality_34 : decode cX10_quality 34 = .ok (.invokestatic 48, 3) := by decide +kernel
theorem dX10_quality_37 : decode cX10_quality 37 = .ok (.ifCond .eq 14, 3) := by decide +kernel
theorem dX10_quality_40 : decode cX10_quality 40 = .ok (.new 90, 3) := by decide +kernel
theorem dX10_quality_43 : decode cX10_quality 43 = .ok (.dup, 1) := by decide +kernel
theorem dX10_quality_44 : decode cX10_quality 44 = .ok (.ldc_w 262, 3) := by decide +kernel
theorem dX10_quality_47 : decode cX10_quality 47 = .ok (.invokespecial 94, 3) := by decide +kernel
theorem dX10_quality_50 : decode cX10_quality 50 = .ok (.athrow, 1) := by decide +kernel
theorem dX10_quality_51 : decode cX10_quality 51 = .ok (.aload_n 0, 1) := by decide +kernel
theorem dX10_quality_52 : decode cX10_quality 52 = .ok (.getfield 21, 3) := by decide +kernel
theorem dX10_quality_55 : decode cX10_quality 55 = .ok (.aload 4, 2) := by decide +kernel
theorem dX10_quality_57 : decode cX10_quality 57 = .ok (.aload 5, 2) := by decide +kernel
theorem dX10_quality_59 : decode cX10_quality 59 = .ok (.iload_n 3, 1) := by decide +kernel
theorem dX10_quality_60 : decode cX10_quality 60 = .ok (.invokevirtual 264, 3) := by decide +kernel
theorem dX10_quality_63 : decode cX10_quality 63 = .ok (.ireturn, 1) := by decide +kernel
theorem dX10_ofTalk_0 : decode cX10_ofTalk 0 = .ok (.aload_n 0, 1) := by decide +kernel
theorem dX10_ofTalk_1 : decode cX10_ofTalk 1 = .ok (.getfield 28, 3) := by decide +kernel
theorem dX10_ofTalk_4 : decode cX10_ofTalk 4 = .ok (.iload_n 1, 1) := by decide +kernel
theorem dX10_ofTalk_5 : decode cX10_ofTalk 5 = .ok (.invokevirtual 182, 3) := by decide +kernel
theorem dX10_ofTalk_8 : decode cX10_ofTalk 8 = .ok (.astore_n 3, 1) := by decide +kernel
theorem dX10_ofTalk_9 : decode cX10_ofTalk 9 = .ok (.aload_n 3, 1) := by decide +kernel
theorem dX10_ofTalk_10 : decode cX10_ofTalk 10 = .ok (.ifnonnull 13, 3) := by decide +kernel
theorem dX10_ofTalk_13 : decode cX10_ofTalk 13 = .ok (.new 90, 3) := by decide +kernel
theorem dX10_ofTalk_16 : decode cX10_ofTalk 16 = .ok (.dup, 1) := by decide +kernel
theorem dX10_ofTalk_17 : decode cX10_ofTalk 17 = .ok (.ldc 186, 2) := by decide +kernel
theorem dX10_ofTalk_19 : decode cX10_ofTalk 19 = .ok (.invokespecial 94, 3) := by decide +kernel
theorem dX10_ofTalk_22 : decode cX10_ofTalk 22 = .ok (.athrow, 1) := by decide +kernel
theorem dX10_ofTalk_23 : decode cX10_ofTalk 23 = .ok (.iload_n 2, 1) := by decide +kernel
theorem dX10_ofTalk_24 : decode cX10_ofTalk 24 = .ok (.iconst 0, 1) := by decide +kernel
theorem dX10_ofTalk_25 : decode cX10_ofTalk 25 = .ok (.bipush 7, 2) := by decide +kernel
theorem dX10_ofTalk_27 : decode cX10_ofTalk 27 = .ok (.invokestatic 48, 3) := by decide +kernel
theorem dX10_ofTalk_30 : decode cX10_ofTalk 30 = .ok (.ifCond .eq 13, 3) := by decide +kernel
theorem dX10_ofTalk_33 : decode cX10_ofTalk 33 = .ok (.new 52, 3) := by decide +kernel
theorem dX10_ofTalk_36 : decode cX10_ofTalk 36 = .ok (.dup, 1) := by decide +kernel
theorem dX10_ofTalk_37 : decode cX10_ofTalk 37 = .ok (.ldc 244, 2) := by decide +kernel
theorem dX10_ofTalk_39 : decode cX10_ofTalk 39 = .ok (.invokespecial 56, 3) := by decide +kernel
theorem dX10_ofTalk_42 : decode cX10_ofTalk 42 = .ok (.athrow, 1) := by decide +kernel
theorem dX10_ofTalk_43 : decode cX10_ofTalk 43 = .ok (.aload_n 0, 1) := by decide +kernel
theorem dX10_ofTalk_44 : decode cX10_ofTalk 44 = .ok (.aload_n 3, 1) := by decide +kernel
theorem dX10_ofTalk_45 : decode cX10_ofTalk 45 = .ok (.iload_n 2, 1) := by decide +kernel
theorem dX10_ofTalk_46 : decode cX10_ofTalk 46 = .ok (.invokevirtual 268, 3) := by decide +kernel
theorem dX10_ofTalk_49 : decode cX10_ofTalk 49 = .ok (.ireturn, 1) := by decide +kernel
theorem dX10_ofReport_0 : decode cX10_ofReport 0 = .ok (.aload_n 0, 1) := by decide +kernel
theorem dX10_ofReport_1 : decode cX10_ofReport 1 = .ok (.getfield 28, 3) := by decide +kernel
theorem dX10_ofReport_4 : decode cX10_ofReport 4 = .ok (.iload_n 1, 1) := by decide +kernel
theorem dX10_ofReport_5 : decode cX10_ofReport 5 = .ok (.invokevirtual 182, 3) := by decide +kernel
theorem dX10_ofReport_8 : decode cX10_ofReport 8 = .ok (.astore_n 3, 1) := by decide +kernel
theorem dX10_ofReport_9 : decode cX10_ofReport 9 = .ok (.aload_n 3, 1) := by decide +kernel
theorem dX10_ofReport_10 : decode cX10_ofReport 10 = .ok (.ifnonnull 13, 3) := by decide +kernel
theorem dX10_ofReport_13 : decode cX10_ofReport 13 = .ok (.new 90, 3) := by decide +kernel
theorem dX10_ofReport_16 : decode cX10_ofReport 16 = .ok (.dup, 1) := by decide +kernel
theorem dX10_ofReport_17 : decode cX10_ofReport 17 = .ok (.ldc 186, 2) := by decide +kernel
theorem dX10_ofReport_19 : decode cX10_ofReport 19 = .ok (.invokespecial 94, 3) := by decide +kernel
theorem dX10_ofReport_22 : decode cX10_ofReport 22 = .ok (.athrow, 1) := by decide +kernel
theorem dX10_ofReport_23 : decode cX10_ofReport 23 = .ok (.iload_n 2, 1) := by decide +kernel
theorem dX10_ofReport_24 : decode cX10_ofReport 24 = .ok (.iconst 0, 1) := by decide +kernel
theorem dX10_ofReport_25 : decode cX10_ofReport 25 = .ok (.bipush 11, 2) := by decide +kernel
theorem dX10_ofReport_27 : decode cX10_ofReport 27 = .ok (.invokestatic 48, 3) := by decide +kernel
theorem dX10_ofReport_30 : decode cX10_ofReport 30 = .ok (.ifCond .eq 13, 3) := by decide +kernel
theorem dX10_ofReport_33 : decode cX10_ofReport 33 = .ok (.new 52, 3) := by decide +kernel
theorem dX10_ofReport_36 : decode cX10_ofReport 36 = .ok (.dup, 1) := by decide +kernel
theorem dX10_ofReport_37 : decode cX10_ofReport 37 = .ok (.ldc 244, 2) := by decide +kernel
theorem dX10_ofReport_39 : decode cX10_ofReport 39 = .ok (.invokespecial 56, 3) := by decide +kernel
theorem dX10_ofReport_42 : decode cX10_ofReport 42 = .ok (.athrow, 1) := by decide +kernel
theorem dX10_ofReport_43 : decode cX10_ofReport 43 = .ok (.aload_n 0, 1) := by decide +kernel
theorem dX10_ofReport_44 : decode cX10_ofReport 44 = .ok (.aload_n 3, 1) := by decide +kernel
theorem dX10_ofReport_45 : decode cX10_ofReport 45 = .ok (.iload_n 2, 1) := by decide +kernel
theorem dX10_ofReport_46 : decode cX10_ofReport 46 = .ok (.invokevirtual 272, 3) := by decide +kernel
theorem dX10_ofReport_49 : decode cX10_ofReport 49 = .ok (.ireturn, 1) := by decide +kernel
theorem dX10_got_0 : decode cX10_got 0 = .ok (.aload_n 0, 1) := by decide +kernel
theorem dX10_got_1 : decode cX10_got 1 = .ok (.getfield 28, 3) := by decide +kernel
theorem dX10_got_4 : decode cX10_got 4 = .ok (.iload_n 1, 1) := by decide +kernel
theorem dX10_got_5 : decode cX10_got 5 = .ok (.invokevirtual 217, 3) := by decide +kernel
theorem dX10_got_8 : decode cX10_got 8 = .ok (.astore_n 3, 1) := by decide +kernel
theorem dX10_got_9 : decode cX10_got 9 = .ok (.aload_n 0, 1) := by decide +kernel
theorem dX10_got_10 : decode cX10_got 10 = .ok (.getfield 28, 3) := by decide +kernel
theorem dX10_got_13 : decode cX10_got 13 = .ok (.iload_n 2, 1) := by decide +kernel
theorem dX10_got_14 : decode cX10_got 14 = .ok (.invokevirtual 182, 3) := by decide +kernel
theorem dX10_got_17 : decode cX10_got 17 = .ok (.astore 4, 2) := by decide +kernel
theorem dX10_got_19 : decode cX10_got 19 = .ok (.aload_n 3, 1) := by decide +kernel
theorem dX10_got_20 : decode cX10_got 20 = .ok (.ifnull 8, 3) := by decide +kernel
theorem dX10_got_23 : decode cX10_got 23 = .ok (.aload 4, 2) := by decide +kernel
theorem dX10_got_25 : decode cX10_got 25 = .ok (.ifnonnull 14, 3) := by decide +kernel
theorem dX10_got_28 : decode cX10_got 28 = .ok (.new 90, 3) := by decide +kernel
theorem dX10_got_31 : decode cX10_got 31 = .ok (.dup, 1) := by decide +kernel
theorem dX10_got_32 : decode cX10_got 32 = .ok (.ldc_w 275, 3) := by decide +kernel
theorem dX10_got_35 : decode cX10_got 35 = .ok (.invokespecial 94, 3) := by decide +kernel
theorem dX10_got_38 : decode cX10_got 38 = .ok (.athrow, 1) := by decide +kernel
theorem dX10_got_39 : decode cX10_got 39 = .ok (.aload 4, 2) := by decide +kernel
theorem dX10_got_41 : decode cX10_got 41 = .ok (.aload_n 3, 1) := by decide +kernel
theorem dX10_got_42 : decode cX10_got 42 = .ok (.invokevirtual 277, 3) := by decide +kernel
theorem dX10_got_45 : decode cX10_got 45 = .ok (.ireturn, 1) := by decide +kernel
theorem dX10_ofReader_0 : decode cX10_ofReader 0 = .ok (.aload_n 0, 1) := by decide +kernel
theorem dX10_ofReader_1 : decode cX10_ofReader 1 = .ok (.getfield 28, 3) := by decide +kernel
theorem dX10_ofReader_4 : decode cX10_ofReader 4 = .ok (.iload_n 1, 1) := by decide +kernel
theorem dX10_ofReader_5 : decode cX10_ofReader 5 = .ok (.invokevirtual 217, 3) := by decide +kernel
theorem dX10_ofReader_8 : decode cX10_ofReader 8 = .ok (.astore_n 3, 1) := by decide +kernel
theorem dX10_ofReader_9 : decode cX10_ofReader 9 = .ok (.aload_n 3, 1) := by decide +kernel
theorem dX10_ofReader_10 : decode cX10_ofReader 10 = .ok (.ifnonnull 13, 3) := by decide +kernel
theorem dX10_ofReader_13 : decode cX10_ofReader 13 = .ok (.new 90, 3) := by decide +kernel
theorem dX10_ofReader_16 : decode cX10_ofReader 16 = .ok (.dup, 1) := by decide +kernel
theorem dX10_ofReader_17 : decode cX10_ofReader 17 = .ok (.ldc 221, 2) := by decide +kernel
theorem dX10_ofReader_19 : decode cX10_ofReader 19 = .ok (.invokespecial 94, 3) := by decide +kernel
theorem dX10_ofReader_22 : decode cX10_ofReader 22 = .ok (.athrow, 1) := by decide +kernel
theorem dX10_ofReader_23 : decode cX10_ofReader 23 = .ok (.iload_n 2, 1) := by decide +kernel
theorem dX10_ofReader_24 : decode cX10_ofReader 24 = .ok (.iconst 0, 1) := by decide +kernel
theorem dX10_ofReader_25 : decode cX10_ofReader 25 = .ok (.iconst 4, 1) := by decide +kernel
theorem dX10_ofReader_26 : decode cX10_ofReader 26 = .ok (.invokestatic 48, 3) := by decide +kernel
theorem dX10_ofReader_29 : decode cX10_ofReader 29 = .ok (.ifCond .eq 13, 3) := by decide +kernel
theorem dX10_ofReader_32 : decode cX10_ofReader 32 = .ok (.new 52, 3) := by decide +kernel
theorem dX10_ofReader_35 : decode cX10_ofReader 35 = .ok (.dup, 1) := by decide +kernel
theorem dX10_ofReader_36 : decode cX10_ofReader 36 = .ok (.ldc 244, 2) := by decide +kernel
theorem dX10_ofReader_38 : decode cX10_ofReader 38 = .ok (.invokespecial 56, 3) := by decide +kernel
theorem dX10_ofReader_41 : decode cX10_ofReader 41 = .ok (.athrow, 1) := by decide +kernel
theorem dX10_ofReader_42 : decode cX10_ofReader 42 = .ok (.aload_n 0, 1) := by decide +kernel
theorem dX10_ofReader_43 : decode cX10_ofReader 43 = .ok (.aload_n 3, 1) := by decide +kernel
theorem dX10_ofReader_44 : decode cX10_ofReader 44 = .ok (.iload_n 2, 1) := by decide +kernel
theorem dX10_ofReader_45 : decode cX10_ofReader 45 = .ok (.invokevirtual 280, 3) := by decide +kernel
theorem dX10_ofReader_48 : decode cX10_ofReader 48 = .ok (.ireturn, 1) := by decide +kernel
theorem dX10_used_0 : decode cX10_used 0 = .ok (.iload_n 1, 1) := by decide +kernel
theorem dX10_used_1 : decode cX10_used 1 = .ok (.iconst 0, 1) := by decide +kernel
theorem dX10_used_2 : decode cX10_used 2 = .ok (.iconst 5, 1) := by decide +kernel
theorem dX10_used_3 : decode cX10_used 3 = .ok (.invokestatic 48, 3) := by decide +kernel
theorem dX10_used_6 : decode cX10_used 6 = .ok (.ifCond .ne 13, 3) := by decide +kernel
theorem dX10_used_9 : decode cX10_used 9 = .ok (.iload_n 2, 1) := by decide +kernel
theorem dX10_used_10 : decode cX10_used 10 = .ok (.iconst 0, 1) := by decide +kernel
theorem dX10_used_11 : decode cX10_used 11 = .ok (.bipush 15, 2) := by decide +kernel
theorem dX10_used_13 : decode cX10_used 13 = .ok (.invokestatic 48, 3) := by decide +kernel
theorem dX10_used_16 : decode cX10_used 16 = .ok (.ifCond .eq 14, 3) := by decide +kernel
theorem dX10_used_19 : decode cX10_used 19 = .ok (.new 90, 3) := by decide +kernel
theorem dX10_used_22 : decode cX10_used 22 = .ok (.dup, 1) := by decide +kernel
theorem dX10_used_23 : decode cX10_used 23 = .ok (.ldc_w 284, 3) := by decide +kernel
theorem dX10_used_26 : decode cX10_used 26 = .ok (.invokespecial 94, 3) := by decide +kernel
theorem dX10_used_29 : decode cX10_used 29 = .ok (.athrow, 1) := by decide +kernel
theorem dX10_used_30 : decode cX10_used 30 = .ok (.aload_n 0, 1) := by decide +kernel
theorem dX10_used_31 : decode cX10_used 31 = .ok (.getfield 28, 3) := by decide +kernel
theorem dX10_used_34 : decode cX10_used 34 = .ok (.iload_n 1, 1) := by decide +kernel
theorem dX10_used_35 : decode cX10_used 35 = .ok (.iload_n 2, 1) := by decide +kernel
theorem dX10_used_36 : decode cX10_used 36 = .ok (.iload_n 3, 1) := by decide +kernel
theorem dX10_used_37 : decode cX10_used 37 = .ok (.iload 4, 2) := by decide +kernel
theorem dX10_used_39 : decode cX10_used 39 = .ok (.invokevirtual 286, 3) := by decide +kernel
theorem dX10_used_42 : decode cX10_used 42 = .ok (.ireturn, 1) := by decide +kernel
theorem dX10_gone_0 : decode cX10_gone 0 = .ok (.iload_n 1, 1) := by decide +kernel
theorem dX10_gone_1 : decode cX10_gone 1 = .ok (.iconst 0, 1) := by decide +kernel
theorem dX10_gone_2 : decode cX10_gone 2 = .ok (.iconst 5, 1) := by decide +kernel
theorem dX10_gone_3 : decode cX10_gone 3 = .ok (.invokestatic 48, 3) := by decide +kernel
theorem dX10_gone_6 : decode cX10_gone 6 = .ok (.ifCond .eq 14, 3) := by decide +kernel
theorem dX10_gone_9 : decode cX10_gone 9 = .ok (.new 90, 3) := by decide +kernel
theorem dX10_gone_12 : decode cX10_gone 12 = .ok (.dup, 1) := by decide +kernel
theorem dX10_gone_13 : decode cX10_gone 13 = .ok (.ldc_w 290, 3) := by decide +kernel
theorem dX10_gone_16 : decode cX10_gone 16 = .ok (.invokespecial 94, 3) := by decide +kernel
theorem dX10_gone_19 : decode cX10_gone 19 = .ok (.athrow, 1) := by decide +kernel
theorem dX10_gone_20 : decode cX10_gone 20 = .ok (.aload_n 0, 1) := by decide +kernel
theorem dX10_gone_21 : decode cX10_gone 21 = .ok (.getfield 28, 3) := by decide +kernel
theorem dX10_gone_24 : decode cX10_gone 24 = .ok (.iload_n 1, 1) := by decide +kernel
theorem dX10_gone_25 : decode cX10_gone 25 = .ok (.aload_n 0, 1) := by decide +kernel
theorem dX10_gone_26 : decode cX10_gone 26 = .ok (.invokevirtual 292, 3) := by decide +kernel
theorem dX10_gone_29 : decode cX10_gone 29 = .ok (.invokevirtual 295, 3) := by decide +kernel
theorem dX10_gone_32 : decode cX10_gone 32 = .ok (.ireturn, 1) := by decide +kernel
theorem dX10_first_0 : decode cX10_first 0 = .ok (.iload_n 1, 1) := by decide +kernel
theorem dX10_first_1 : decode cX10_first 1 = .ok (.iconst 0, 1) := by decide +kernel
theorem dX10_first_2 : decode cX10_first 2 = .ok (.bipush 15, 2) := by decide +kernel
theorem dX10_first_4 : decode cX10_first 4 = .ok (.invokestatic 48, 3) := by decide +kernel
theorem dX10_first_7 : decode cX10_first 7 = .ok (.ifCond .eq 14, 3) := by decide +kernel
theorem dX10_first_10 : decode cX10_first 10 = .ok (.new 90, 3) := by decide +kernel
theorem dX10_first_13 : decode cX10_first 13 = .ok (.dup, 1) := by decide +kernel
theorem dX10_first_14 : decode cX10_first 14 = .ok (.ldc_w 298, 3) := by decide +kernel
theorem dX10_first_17 : decode cX10_first 17 = .ok (.invokespecial 94, 3) := by decide +kernel
theorem dX10_first_20 : decode cX10_first 20 = .ok (.athrow, 1) := by decide +kernel
theorem dX10_first_21 : decode cX10_first 21 = .ok (.aload_n 0, 1) := by decide +kernel
theorem dX10_first_22 : decode cX10_first 22 = .ok (.getfield 28, 3) := by decide +kernel
theorem dX10_first_25 : decode cX10_first 25 = .ok (.iload_n 1, 1) := by decide +kernel
theorem dX10_first_26 : decode cX10_first 26 = .ok (.invokevirtual 300, 3) := by decide +kernel
theorem dX10_first_29 : decode cX10_first 29 = .ok (.ireturn, 1) := by decide +kernel
theorem dX10_clarity_0 : decode cX10_clarity 0 = .ok (.iload_n 1, 1) := by decide +kernel
theorem dX10_clarity_1 : decode cX10_clarity 1 = .ok (.iconst 0, 1) := by decide +kernel
theorem dX10_clarity_2 : decode cX10_clarity 2 = .ok (.iconst 5, 1) := by decide +kernel
theorem dX10_clarity_3 : decode cX10_clarity 3 = .ok (.invokestatic 48, 3) := by decide +kernel
theorem dX10_clarity_6 : decode cX10_clarity 6 = .ok (.ifCond .eq 14, 3) := by decide +kernel
theorem dX10_clarity_9 : decode cX10_clarity 9 = .ok (.new 90, 3) := by decide +kernel
theorem dX10_clarity_12 : decode cX10_clarity 12 = .ok (.dup, 1) := by decide +kernel
theorem dX10_clarity_13 : decode cX10_clarity 13 = .ok (.ldc_w 290, 3) := by decide +kernel
theorem dX10_clarity_16 : decode cX10_clarity 16 = .ok (.invokespecial 94, 3) := by decide +kernel
theorem dX10_clarity_19 : decode cX10_clarity 19 = .ok (.athrow, 1) := by decide +kernel
theorem dX10_clarity_20 : decode cX10_clarity 20 = .ok (.aload_n 0, 1) := by decide +kernel
theorem dX10_clarity_21 : decode cX10_clarity 21 = .ok (.getfield 28, 3) := by decide +kernel
theorem dX10_clarity_24 : decode cX10_clarity 24 = .ok (.iload_n 1, 1) := by decide +kernel
theorem dX10_clarity_25 : decode cX10_clarity 25 = .ok (.invokevirtual 304, 3) := by decide +kernel
theorem dX10_clarity_28 : decode cX10_clarity 28 = .ok (.dreturn, 1) := by decide +kernel
theorem dX10_desk_0 : decode cX10_desk 0 = .ok (.iload_n 1, 1) := by decide +kernel
theorem dX10_desk_1 : decode cX10_desk 1 = .ok (.iconst 0, 1) := by decide +kernel
theorem dX10_desk_2 : decode cX10_desk 2 = .ok (.bipush 18, 2) := by decide +kernel
theorem dX10_desk_4 : decode cX10_desk 4 = .ok (.invokestatic 48, 3) := by decide +kernel
theorem dX10_desk_7 : decode cX10_desk 7 = .ok (.ifCond .eq 13, 3) := by decide +kernel
theorem dX10_desk_10 : decode cX10_desk 10 = .ok (.new 52, 3) := by decide +kernel
theorem dX10_desk_13 : decode cX10_desk 13 = .ok (.dup, 1) := by decide +kernel
theorem dX10_desk_14 : decode cX10_desk 14 = .ok (.ldc 244, 2) := by decide +kernel
theorem dX10_desk_16 : decode cX10_desk 16 = .ok (.invokespecial 56, 3) := by decide +kernel
theorem dX10_desk_19 : decode cX10_desk 19 = .ok (.athrow, 1) := by decide +kernel
theorem dX10_desk_20 : decode cX10_desk 20 = .ok (.aload_n 0, 1) := by decide +kernel
theorem dX10_desk_21 : decode cX10_desk 21 = .ok (.iload_n 1, 1) := by decide +kernel
theorem dX10_desk_22 : decode cX10_desk 22 = .ok (.invokevirtual 308, 3) := by decide +kernel
theorem dX10_desk_25 : decode cX10_desk 25 = .ok (.ireturn, 1) := by decide +kernel
theorem dX10_wouldHear_0 : decode cX10_wouldHear 0 = .ok (.aload_n 0, 1) := by decide +kernel
theorem dX10_wouldHear_1 : decode cX10_wouldHear 1 = .ok (.getfield 28, 3) := by decide +kernel
theorem dX10_wouldHear_4 : decode cX10_wouldHear 4 = .ok (.iload_n 1, 1) := by decide +kernel
theorem dX10_wouldHear_5 : decode cX10_wouldHear 5 = .ok (.invokevirtual 182, 3) := by decide +kernel
theorem dX10_wouldHear_8 : decode cX10_wouldHear 8 = .ok (.astore_n 2, 1) := by decide +kernel
theorem dX10_wouldHear_9 : decode cX10_wouldHear 9 = .ok (.aload_n 2, 1) := by decide +kernel
theorem dX10_wouldHear_10 : decode cX10_wouldHear 10 = .ok (.ifnonnull 13, 3) := by decide +kernel
theorem dX10_wouldHear_13 : decode cX10_wouldHear 13 = .ok (.new 90, 3) := by decide +kernel
theorem dX10_wouldHear_16 : decode cX10_wouldHear 16 = .ok (.dup, 1) := by decide +kernel
theorem dX10_wouldHear_17 : decode cX10_wouldHear 17 = .ok (.ldc 186, 2) := by decide +kernel
theorem dX10_wouldHear_19 : decode cX10_wouldHear 19 = .ok (.invokespecial 94, 3) := by decide +kernel
theorem dX10_wouldHear_22 : decode cX10_wouldHear 22 = .ok (.athrow, 1) := by decide +kernel
theorem dX10_wouldHear_23 : decode cX10_wouldHear 23 = .ok (.aload_n 2, 1) := by decide +kernel
theorem dX10_wouldHear_24 : decode cX10_wouldHear 24 = .ok (.getfield 333, 3) := by decide +kernel
theorem dX10_wouldHear_27 : decode cX10_wouldHear 27 = .ok (.aload_n 0, 1) := by decide +kernel
theorem dX10_wouldHear_28 : decode cX10_wouldHear 28 = .ok (.getfield 41, 3) := by decide +kernel
theorem dX10_wouldHear_31 : decode cX10_wouldHear 31 = .ok (.if_icmp .ge 14, 3) := by decide +kernel
theorem dX10_wouldHear_34 : decode cX10_wouldHear 34 = .ok (.new 72, 3) := by decide +kernel
theorem dX10_wouldHear_37 : decode cX10_wouldHear 37 = .ok (.dup, 1) := by decide +kernel
theorem dX10_wouldHear_38 : decode cX10_wouldHear 38 = .ok (.ldc_w 372, 3) := by decide +kernel
theorem dX10_wouldHear_41 : decode cX10_wouldHear 41 = .ok (.invokespecial 76, 3) := by decide +kernel
theorem dX10_wouldHear_44 : decode cX10_wouldHear 44 = .ok (.athrow, 1) := by decide +kernel
theorem dX10_wouldHear_45 : decode cX10_wouldHear 45 = .ok (.aload_n 2, 1) := by decide +kernel
theorem dX10_wouldHear_46 : decode cX10_wouldHear 46 = .ok (.getfield 333, 3) := by decide +kernel
theorem dX10_wouldHear_49 : decode cX10_wouldHear 49 = .ok (.bipush 24, 2) := by decide +kernel
theorem dX10_wouldHear_51 : decode cX10_wouldHear 51 = .ok (.irem, 1) := by decide +kernel
theorem dX10_wouldHear_52 : decode cX10_wouldHear 52 = .ok (.istore_n 3, 1) := by decide +kernel
theorem dX10_wouldHear_53 : decode cX10_wouldHear 53 = .ok (.aload_n 0, 1) := by decide +kernel
theorem dX10_wouldHear_54 : decode cX10_wouldHear 54 = .ok (.getfield 21, 3) := by decide +kernel
theorem dX10_wouldHear_57 : decode cX10_wouldHear 57 = .ok (.iload_n 3, 1) := by decide +kernel
theorem dX10_wouldHear_58 : decode cX10_wouldHear 58 = .ok (.aload_n 0, 1) := by decide +kernel
theorem dX10_wouldHear_59 : decode cX10_wouldHear 59 = .ok (.getfield 21, 3) := by decide +kernel
theorem dX10_wouldHear_62 : decode cX10_wouldHear 62 = .ok (.aload_n 2, 1) := by decide +kernel
theorem dX10_wouldHear_63 : decode cX10_wouldHear 63 = .ok (.getfield 326, 3) := by decide +kernel
theorem dX10_wouldHear_66 : decode cX10_wouldHear 66 = .ok (.iload_n 3, 1) := by decide +kernel
theorem dX10_wouldHear_67 : decode cX10_wouldHear 67 = .ok (.invokevirtual 374, 3) := by decide +kernel
theorem dX10_wouldHear_70 : decode cX10_wouldHear 70 = .ok (.invokevirtual 377, 3) := by decide +kernel
theorem dX10_wouldHear_73 : decode cX10_wouldHear 73 = .ok (.ireturn, 1) := by decide +kernel
theorem dX10_best_0 : decode cX10_best 0 = .ok (.iload_n 1, 1) := by decide +kernel
theorem dX10_best_1 : decode cX10_best 1 = .ok (.iconst 0, 1) := by decide +kernel
theorem dX10_best_2 : decode cX10_best 2 = .ok (.bipush 23, 2) := by decide +kernel
theorem dX10_best_4 : decode cX10_best 4 = .ok (.invokestatic 48, 3) := by decide +kernel
theorem dX10_best_7 : decode cX10_best 7 = .ok (.ifCond .eq 14, 3) := by decide +kernel
theorem dX10_best_10 : decode cX10_best 10 = .ok (.new 90, 3) := by decide +kernel
theorem dX10_best_13 : decode cX10_best 13 = .ok (.dup, 1) := by decide +kernel
theorem dX10_best_14 : decode cX10_best 14 = .ok (.ldc_w 357, 3) := by decide +kernel
theorem dX10_best_17 : decode cX10_best 17 = .ok (.invokespecial 94, 3) := by decide +kernel
theorem dX10_best_20 : decode cX10_best 20 = .ok (.athrow, 1) := by decide +kernel
theorem dX10_best_21 : decode cX10_best 21 = .ok (.aload_n 0, 1) := by decide +kernel
theorem dX10_best_22 : decode cX10_best 22 = .ok (.getfield 37, 3) := by decide +kernel
theorem dX10_best_25 : decode cX10_best 25 = .ok (.iload_n 1, 1) := by decide +kernel
theorem dX10_best_26 : decode cX10_best 26 = .ok (.invokevirtual 359, 3) := by decide +kernel
theorem dX10_best_29 : decode cX10_best 29 = .ok (.ireturn, 1) := by decide +kernel
theorem dX10_bestAt_0 : decode cX10_bestAt 0 = .ok (.iload_n 1, 1) := by decide +kernel
theorem dX10_bestAt_1 : decode cX10_bestAt 1 = .ok (.iconst 0, 1) := by decide +kernel
theorem dX10_bestAt_2 : decode cX10_bestAt 2 = .ok (.bipush 23, 2) := by decide +kernel
theorem dX10_bestAt_4 : decode cX10_bestAt 4 = .ok (.invokestatic 48, 3) := by decide +kernel
theorem dX10_bestAt_7 : decode cX10_bestAt 7 = .ok (.ifCond .ne 12, 3) := by decide +kernel
theorem dX10_bestAt_10 : decode cX10_bestAt 10 = .ok (.iload_n 2, 1) := by decide +kernel
theorem dX10_bestAt_11 : decode cX10_bestAt 11 = .ok (.iconst 0, 1) := by decide +kernel
theorem dX10_bestAt_12 : decode cX10_bestAt 12 = .ok (.iconst 2, 1) := by decide +kernel
theorem dX10_bestAt_13 : decode cX10_bestAt 13 = .ok (.invokestatic 48, 3) := by decide +kernel
theorem dX10_bestAt_16 : decode cX10_bestAt 16 = .ok (.ifCond .eq 13, 3) := by decide +kernel
theorem dX10_bestAt_19 : decode cX10_bestAt 19 = .ok (.new 90, 3) := by decide +kernel
theorem dX10_bestAt_22 : decode cX10_bestAt 22 = .ok (.dup, 1) := by decide +kernel
theorem dX10_bestAt_23 : decode cX10_bestAt 23 = .ok (.ldc 132, 2) := by decide +kernel
theorem dX10_bestAt_25 : decode cX10_bestAt 25 = .ok (.invokespecial 94, 3) := by decide +kernel
theorem dX10_bestAt_28 : decode cX10_bestAt 28 = .ok (.athrow, 1) := by decide +kernel
theorem dX10_bestAt_29 : decode cX10_bestAt 29 = .ok (.aload_n 0, 1) := by decide +kernel
theorem dX10_bestAt_30 : decode cX10_bestAt 30 = .ok (.getfield 37, 3) := by decide +kernel
theorem dX10_bestAt_33 : decode cX10_bestAt 33 = .ok (.iload_n 1, 1) := by decide +kernel
theorem dX10_bestAt_34 : decode cX10_bestAt 34 = .ok (.invokevirtual 362, 3) := by decide +kernel
theorem dX10_bestAt_37 : decode cX10_bestAt 37 = .ok (.iload_n 3, 1) := by decide +kernel
theorem dX10_bestAt_38 : decode cX10_bestAt 38 = .ok (.ifCond .eq 14, 3) := by decide +kernel
theorem dX10_bestAt_41 : decode cX10_bestAt 41 = .ok (.aload_n 0, 1) := by decide +kernel
theorem dX10_bestAt_42 : decode cX10_bestAt 42 = .ok (.getfield 37, 3) := by decide +kernel
theorem dX10_bestAt_45 : decode cX10_bestAt 45 = .ok (.iload_n 2, 1) := by decide +kernel
theorem dX10_bestAt_46 : decode cX10_bestAt 46 = .ok (.invokevirtual 366, 3) := by decide +kernel
theorem dX10_bestAt_49 : decode cX10_bestAt 49 = .ok (.goto 11, 3) := by decide +kernel
theorem dX10_bestAt_52 : decode cX10_bestAt 52 = .ok (.aload_n 0, 1) := by decide +kernel
theorem dX10_bestAt_53 : decode cX10_bestAt 53 = .ok (.getfield 37, 3) := by decide +kernel
theorem dX10_bestAt_56 : decode cX10_bestAt 56 = .ok (.iload_n 2, 1) := by decide +kernel
theorem dX10_bestAt_57 : decode cX10_bestAt 57 = .ok (.invokevirtual 369, 3) := by decide +kernel
theorem dX10_bestAt_60 : decode cX10_bestAt 60 = .ok (.ireturn, 1) := by decide +kernel
