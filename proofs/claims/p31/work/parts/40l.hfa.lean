theorem hN_eq {A : HS} {g : Nat} (e : mI A 257 0 = nI g) (h : g ≤ 720) : hN A = g := by
  unfold hN
  rw [e]; exact nI_clamp (by omega)
theorem tsw {q v : Nat} (hq : q < 2 ^ 31) (h : (nI q).toInt = (v : Int)) : q = v := by
  rw [nI_toInt hq] at h
  omega
theorem row_c {S A : HS} {ns nj nm nt nr nc j r : Nat} (h : RK S A ns nj nm nt nr nc) (hj : j < nt) (hr : r < nr) : mA A 35 r j = 0 ∨ mA A 35 r j = 1 ∨ mA A 35 r j = 2 := by
  rcases h.rp j hj with ⟨-, -, -, y, -⟩ | ⟨-, -, -, d⟩
  · exact Or.inl (y r hr)
  · rw [d.2.2.2.2.2.2.2.2.2.2.2.2.1 r hr]
    split
    · split
      · exact Or.inr (Or.inr rfl)
      · exact Or.inr (Or.inl rfl)
    · exact Or.inl rfl
theorem row_1 {x : Int32} (h : x = 0 ∨ x = 1 ∨ x = 2) : decide (1 ≤ x) = decide (0 < x) ∧ decide (2 ≤ x) = decide (x = 2) := by
  rcases h with rfl | rfl | rfl <;> decide

abbrev rm_a_X10_stationFact : Room := { frames := 4, cells := 0, slots := 0, locals := 89 }
set_option maxHeartbeats 4000000 in
set_option maxRecDepth 100000 in
theorem a_X10_stationFact {s0 : State} {l : Launch} {D : va_G} {cy : Nat → ClassId} (G : Gl s0 l D cy) (S : HS) (ea ns nj nm nt nr nc : Nat) (h : CI ea S ns nj nm nt nr nc) (A : HS) (hA : RK S A ns nj nm nt nr nc) (g0 : Nat) (hg : mI S 164 0 = nI g0) (hg7 : g0 ≤ 720) (hA7 : mI A 257 0 = nI g0) (i q : Nat) (hi : i < ns) (hq : q < 9) : Ctr s0 l D cy yX10_stationFact cX10_stationFact 3 (some .int) rm_a_X10_stationFact S [.ref (gG S 10 0), .ref (gG S 8 i), .int (nI q)] (PU S (some (.int (rStaNow A ns nj nt i q)))) := by
  refine pro "CavershamShift" G rfl rfl (Nat.le_of_ble_eq_true rfl) (fun p e s m below meth c ls X w hnm hl => ?_)
  have hx := X.1
  have hb := X.2.1
  have hown := X.2.2.2.1
  have hts := X.2.2.2.2.1
  have hl : lv_has ls 3 [(0, .ref (gG S 10 0)), (1, .ref (gG S 8 i)), (2, .int (nI q))] := hl
  refine lv_iload_n hx hb dX10_stationFact_0 rfl (lv_at hl 2 rfl) ?_
  by_cases hw_0 : (nI q : Int32).toInt = 0
  · refine lv_tableIn (off := 47) (tgt := 48) hx hb dX10_stationFact_1 (by omega) (by omega) (by rw [hw_0]; rfl) (by decide) ?_
    refine lv_aload_n hx hb dX10_stationFact_48 rfl (lv_at hl 1 rfl) ?_
    refine g_8_1 (S := S) (x := (mI A 229 i)) X w (h.e_st i hi).2 wF_X10_97 ((hA.rc.1 i hi).1) dX10_stationFact_49 ?_
    exact rI X w rfl dX10_stationFact_52 (by decide) (by decide) (pu_i (by rw [tsw (v := 0) (by omega) hw_0]; first | done | rfl))
  by_cases hw_1 : (nI q : Int32).toInt = 1
  · refine lv_tableIn (off := 52) (tgt := 53) hx hb dX10_stationFact_1 (by omega) (by omega) (by rw [hw_1]; rfl) (by decide) ?_
    refine lv_aload_n hx hb dX10_stationFact_53 rfl (lv_at hl 1 rfl) ?_
    refine g_8_2 (S := S) (x := (mI A 224 i)) X w (h.e_st i hi).2 wF_X10_440 ((hA.rc.1 i hi).2.1) dX10_stationFact_54 ?_
    exact rI X w rfl dX10_stationFact_57 (by decide) (by decide) (pu_i (by rw [tsw (v := 1) (by omega) hw_1]; first | done | rfl))
  by_cases hw_2 : (nI q : Int32).toInt = 2
  · refine lv_tableIn (off := 57) (tgt := 58) hx hb dX10_stationFact_1 (by omega) (by omega) (by rw [hw_2]; rfl) (by decide) ?_
    refine lv_aload_n hx hb dX10_stationFact_58 rfl (lv_at hl 1 rfl) ?_
    refine g_8_3 (S := S) (x := (mI A 225 i)) X w (h.e_st i hi).2 wF_X10_441 ((hA.rc.1 i hi).2.2.1) dX10_stationFact_59 ?_
    exact rI X w rfl dX10_stationFact_62 (by decide) (by decide) (pu_i (by rw [tsw (v := 2) (by omega) hw_2]; first | done | rfl))
  by_cases hw_3 : (nI q : Int32).toInt = 3
  · refine lv_tableIn (off := 62) (tgt := 63) hx hb dX10_stationFact_1 (by omega) (by omega) (by rw [hw_3]; rfl) (by decide) ?_
    refine lv_aload_n hx hb dX10_stationFact_63 rfl (lv_at hl 1 rfl) ?_
    refine g_8_4 (S := S) (x := (mI A 226 i)) X w (h.e_st i hi).2 wF_X10_444 ((hA.rc.1 i hi).2.2.2.1) dX10_stationFact_64 ?_
    exact rI X w rfl dX10_stationFact_67 (by decide) (by decide) (pu_i (by rw [tsw (v := 3) (by omega) hw_3]; first | done | rfl))
  by_cases hw_4 : (nI q : Int32).toInt = 4
  · refine lv_tableIn (off := 67) (tgt := 68) hx hb dX10_stationFact_1 (by omega) (by omega) (by rw [hw_4]; rfl) (by decide) ?_
    refine lv_aload_n hx hb dX10_stationFact_68 rfl (lv_at hl 1 rfl) ?_
    refine g_8_5 (S := S) (x := (mI A 227 i)) X w (h.e_st i hi).2 wF_X10_447 ((hA.rc.1 i hi).2.2.2.2.1) dX10_stationFact_69 ?_
    exact rI X w rfl dX10_stationFact_72 (by decide) (by decide) (pu_i (by rw [tsw (v := 4) (by omega) hw_4]; first | done | rfl))
  by_cases hw_5 : (nI q : Int32).toInt = 5
  · refine lv_tableIn (off := 72) (tgt := 73) hx hb dX10_stationFact_1 (by omega) (by omega) (by rw [hw_5]; rfl) (by decide) ?_
    refine lv_aload_n hx hb dX10_stationFact_73 rfl (lv_at hl 1 rfl) ?_
    refine lv_aload_n hx hb dX10_stationFact_74 rfl (lv_at hl 0 rfl) ?_
    refine cV (S := S) (nA := 0) (As := []) (rest := [.ref (gG S 8 i)]) X w hl h.v10 (m_X10_hourOfDay G S ea ns nj nm nt nr nc h ) wY_X10_hourOfDay wM_X10_411 wIn_X10_hourOfDay wSe_X10_X10_hourOfDay wI_X10 (by decide) rfl (by decide +kernel) rfl rfl dX10_stationFact_75 ⟨by decide, by decide⟩ (Nat.le_of_ble_eq_true rfl) (⟨Nat.le_of_ble_eq_true rfl, Nat.le_of_ble_eq_true rfl⟩) (fun v1 S1 H locs hp w => ?_)
    obtain ⟨rfl, rfl⟩ := hp
    refine lv_topi (fun z2 ez2 => ?_)
    obtain rfl : z2 = (nI (hN A % 24)) := ez2.trans (by rw [hN_eq hA7 hg7]; exact hod hg (by omega))
    refine cV (S := S) (nA := 1) (As := [.int (nI (hN A % 24))]) (rest := []) X w hl (h.e_st i hi).2 (a_X8_isOnAir G S ea ns nj nm nt nr nc h A hA i hi (nI (hN A % 24))) wY_X8_isOnAir wM_X10_167 wIn_X8_isOnAir wSe_X8_X8_isOnAir wI_X8 (by decide) rfl (by decide +kernel) rfl rfl dX10_stationFact_78 ⟨by decide, by decide⟩ (Nat.le_of_ble_eq_true rfl) (⟨Nat.le_of_ble_eq_true rfl, Nat.le_of_ble_eq_true rfl⟩) (fun v3 S1 H locs hp w => ?_)
    obtain ⟨rfl, rfl⟩ := hp
    refine lv_if_eq (tgt := 88) hx hb dX10_stationFact_81 (by decide) (fun hon => ?_) (fun hon => ?_)
    · refine lv_iconst (v := 0) hx hb dX10_stationFact_88 (by decide) ?_
      exact rI X w rfl dX10_stationFact_89 (by decide) (by decide) (pu_i (by rw [tsw (v := 5) (by omega) hw_5]; first | (show b2i _ = (0 : Int32); rw [b2i_f hon]; rfl) | (show b2i _ = (1 : Int32); rw [b2i_t hon]; rfl)))
    · refine lv_iconst (v := 1) hx hb dX10_stationFact_84 (by decide) ?_
      refine lv_goto (tgt := 89) hx hb dX10_stationFact_85 (by decide) ?_
      exact rI X w rfl dX10_stationFact_89 (by decide) (by decide) (pu_i (by rw [tsw (v := 5) (by omega) hw_5]; first | (show b2i _ = (0 : Int32); rw [b2i_f hon]; rfl) | (show b2i _ = (1 : Int32); rw [b2i_t hon]; rfl)))
  by_cases hw_6 : (nI q : Int32).toInt = 6
  · refine lv_tableIn (off := 89) (tgt := 90) hx hb dX10_stationFact_1 (by omega) (by omega) (by rw [hw_6]; rfl) (by decide) ?_
    refine lv_aload_n hx hb dX10_stationFact_90 rfl (lv_at hl 0 rfl) ?_
    refine g_10_0 (S := S) (x := (some (gG S 0 0))) X w h.v10 wF_X10_12 (h.f160) dX10_stationFact_91 ?_
    refine lv_aload_n hx hb dX10_stationFact_94 rfl (lv_at hl 1 rfl) ?_
    refine lv_aload_n hx hb dX10_stationFact_95 rfl (lv_at hl 0 rfl) ?_
    refine cV (S := S) (nA := 0) (As := []) (rest := [.ref (gG S 8 i), .ref (gG S 0 0)]) X w hl h.v10 (m_X10_hourOfDay G S ea ns nj nm nt nr nc h ) wY_X10_hourOfDay wM_X10_411 wIn_X10_hourOfDay wSe_X10_X10_hourOfDay wI_X10 (by decide) rfl (by decide +kernel) rfl rfl dX10_stationFact_96 ⟨by decide, by decide⟩ (Nat.le_of_ble_eq_true rfl) (⟨Nat.le_of_ble_eq_true rfl, Nat.le_of_ble_eq_true rfl⟩) (fun v4 S1 H locs hp w => ?_)
    obtain ⟨rfl, rfl⟩ := hp
    refine lv_topi (fun z5 ez5 => ?_)
    obtain rfl : z5 = (nI (hN A % 24)) := ez5.trans (by rw [hN_eq hA7 hg7]; exact hod hg (by omega))
    refine cV (S := S) (nA := 2) (As := [.ref (gG S 8 i), .int (nI (hN A % 24))]) (rest := []) X w hl h.v0 (a_X0_strengthOf G S ea ns nj nm nt nr nc h A hA i hi (nI (hN A % 24))) wY_X0_strengthOf wM_X10_252 wIn_X0_strengthOf wSe_X0_X0_strengthOf wI_X0 (by decide) rfl (by decide +kernel) rfl rfl dX10_stationFact_99 ⟨by decide, by decide⟩ (Nat.le_of_ble_eq_true rfl) (⟨Nat.le_of_ble_eq_true rfl, Nat.le_of_ble_eq_true rfl⟩) (fun v6 S1 H locs hp w => ?_)
    obtain ⟨rfl, rfl⟩ := hp
    exact rI X w rfl dX10_stationFact_102 (by decide) (by decide) (pu_i (by rw [tsw (v := 6) (by omega) hw_6]; first | done | rfl))
  by_cases hw_7 : (nI q : Int32).toInt = 7
  · refine lv_tableIn (off := 102) (tgt := 103) hx hb dX10_stationFact_1 (by omega) (by omega) (by rw [hw_7]; rfl) (by decide) ?_
    refine lv_aload_n hx hb dX10_stationFact_103 rfl (lv_at hl 0 rfl) ?_
    refine g_10_2 (S := S) (x := (some (gG S 4 0))) X w h.v10 wF_X10_28 (h.f162) dX10_stationFact_104 ?_
    refine lv_aload_n hx hb dX10_stationFact_107 rfl (lv_at hl 1 rfl) ?_
    refine cV (S := S) (nA := 1) (As := [.ref (gG S 8 i)]) (rest := []) X w hl h.v4 (a_X4_countTalksOf G S ea ns nj nm nt nr nc h A hA i hi) wY_X4_countTalksOf wM_X10_450 wIn_X4_countTalksOf wSe_X4_X4_countTalksOf wI_X4 (by decide) rfl (by decide +kernel) rfl rfl dX10_stationFact_108 ⟨by decide, by decide⟩ (Nat.le_of_ble_eq_true rfl) (⟨Nat.le_of_ble_eq_true rfl, Nat.le_of_ble_eq_true rfl⟩) (fun v7 S1 H locs hp w => ?_)
    obtain ⟨rfl, rfl⟩ := hp
    exact rI X w rfl dX10_stationFact_111 (by decide) (by decide) (pu_i (by rw [tsw (v := 7) (by omega) hw_7]; first | done | rfl))
  refine lv_tableOut (tgt := 112) hx hb dX10_stationFact_1 (by omega) (by decide) ?_
  have h8 : q = 8 := by
    have n0 : ¬ q = 0 := fun z => hw_0 (by rw [z]; decide)
    have n1 : ¬ q = 1 := fun z => hw_1 (by rw [z]; decide)
    have n2 : ¬ q = 2 := fun z => hw_2 (by rw [z]; decide)
    have n3 : ¬ q = 3 := fun z => hw_3 (by rw [z]; decide)
    have n4 : ¬ q = 4 := fun z => hw_4 (by rw [z]; decide)
    have n5 : ¬ q = 5 := fun z => hw_5 (by rw [z]; decide)
    have n6 : ¬ q = 6 := fun z => hw_6 (by rw [z]; decide)
    have n7 : ¬ q = 7 := fun z => hw_7 (by rw [z]; decide)
    omega
  refine lv_aload_n hx hb dX10_stationFact_112 rfl (lv_at hl 0 rfl) ?_
  refine g_10_2 (S := S) (x := (some (gG S 4 0))) X w h.v10 wF_X10_28 (h.f162) dX10_stationFact_113 ?_
  refine lv_aload_n hx hb dX10_stationFact_116 rfl (lv_at hl 1 rfl) ?_
  refine cV (S := S) (nA := 1) (As := [.ref (gG S 8 i)]) (rest := []) X w hl h.v4 (a_X4_countReportsOf G S ea ns nj nm nt nr nc h A hA i hi) wY_X4_countReportsOf wM_X10_454 wIn_X4_countReportsOf wSe_X4_X4_countReportsOf wI_X4 (by decide) rfl (by decide +kernel) rfl rfl dX10_stationFact_117 ⟨by decide, by decide⟩ (Nat.le_of_ble_eq_true rfl) (⟨Nat.le_of_ble_eq_true rfl, Nat.le_of_ble_eq_true rfl⟩) (fun v8 S1 H locs hp w => ?_)
  obtain ⟨rfl, rfl⟩ := hp
  exact rI X w rfl dX10_stationFact_120 (by decide) (by decide) (pu_i (by rw [h8]; first | done | rfl))

abbrev rm_a_X10_monitorFact : Room := { frames := 4, cells := 0, slots := 0, locals := 88 }
set_option maxHeartbeats 4000000 in
set_option maxRecDepth 100000 in
theorem a_X10_monitorFact {s0 : State} {l : Launch} {D : va_G} {cy : Nat → ClassId} (G : Gl s0 l D cy) (S : HS) (ea ns nj nm nt nr nc : Nat) (h : CI ea S ns nj nm nt nr nc) (A : HS) (hA : RK S A ns nj nm nt nr nc) (g0 : Nat) (hg : mI S 164 0 = nI g0) (hg7 : g0 ≤ 720) (hA7 : mI A 257 0 = nI g0) (mo q : Nat) (hmo : mo < nm) (hq : q < 9) : Ctr s0 l D cy yX10_monitorFact cX10_monitorFact 3 (some .int) rm_a_X10_monitorFact S [.ref (gG S 10 0), .ref (gG S 3 mo), .int (nI q)] (PU S (some (.int (rMonNow A mo q)))) := by
  refine pro "CavershamShift" G rfl rfl (Nat.le_of_ble_eq_true rfl) (fun p e s m below meth c ls X w hnm hl => ?_)
  have hx := X.1
  have hb := X.2.1
  have hown := X.2.2.2.1
  have hts := X.2.2.2.2.1
  have hl : lv_has ls 3 [(0, .ref (gG S 10 0)), (1, .ref (gG S 3 mo)), (2, .int (nI q))] := hl
  refine lv_iload_n hx hb dX10_monitorFact_0 rfl (lv_at hl 2 rfl) ?_
  by_cases hw_5 : (nI q : Int32).toInt = 5
  · refine lv_tableIn (off := 31) (tgt := 32) hx hb dX10_monitorFact_1 (by omega) (by omega) (by rw [hw_5]; rfl) (by decide) ?_
    refine lv_aload_n hx hb dX10_monitorFact_32 rfl (lv_at hl 1 rfl) ?_
    refine g_3_2 (S := S) (x := (mI A 193 mo)) X w (h.e_mo mo hmo).2 wF_X10_457 ((hA.mo mo hmo).2.1) dX10_monitorFact_33 ?_
    exact rI X w rfl dX10_monitorFact_36 (by decide) (by decide) (pu_i (by rw [tsw (v := 5) (by omega) hw_5]; first | done | rfl))
  by_cases hw_6 : (nI q : Int32).toInt = 6
  · refine lv_tableIn (off := 36) (tgt := 37) hx hb dX10_monitorFact_1 (by omega) (by omega) (by rw [hw_6]; rfl) (by decide) ?_
    refine lv_aload_n hx hb dX10_monitorFact_37 rfl (lv_at hl 1 rfl) ?_
    refine g_3_3 (S := S) (x := (mI A 194 mo)) X w (h.e_mo mo hmo).2 wF_X10_460 ((hA.mo mo hmo).2.2) dX10_monitorFact_38 ?_
    exact rI X w rfl dX10_monitorFact_41 (by decide) (by decide) (pu_i (by rw [tsw (v := 6) (by omega) hw_6]; first | done | rfl))
  by_cases hw_7 : (nI q : Int32).toInt = 7
  · refine lv_tableIn (off := 41) (tgt := 42) hx hb dX10_monitorFact_1 (by omega) (by omega) (by rw [hw_7]; rfl) (by decide) ?_
    refine lv_aload_n hx hb dX10_monitorFact_42 rfl (lv_at hl 0 rfl) ?_
    refine g_10_2 (S := S) (x := (some (gG S 4 0))) X w h.v10 wF_X10_28 (h.f162) dX10_monitorFact_43 ?_
    refine lv_aload_n hx hb dX10_monitorFact_46 rfl (lv_at hl 1 rfl) ?_
    refine cV (S := S) (nA := 1) (As := [.ref (gG S 3 mo)]) (rest := []) X w hl h.v4 (a_X4_countReportsBy G S ea ns nj nm nt nr nc h A hA mo hmo) wY_X4_countReportsBy wM_X10_463 wIn_X4_countReportsBy wSe_X4_X4_countReportsBy wI_X4 (by decide) rfl (by decide +kernel) rfl rfl dX10_monitorFact_47 ⟨by decide, by decide⟩ (Nat.le_of_ble_eq_true rfl) (⟨Nat.le_of_ble_eq_true rfl, Nat.le_of_ble_eq_true rfl⟩) (fun v1 S1 H locs hp w => ?_)
    obtain ⟨rfl, rfl⟩ := hp
    refine lv_topi (fun z2 ez2 => ?_)
    obtain rfl : z2 = (mI A 195 mo) := ez2.trans ((hA.q3 mo hmo).symm)
    exact rI X w rfl dX10_monitorFact_50 (by decide) (by decide) (pu_i (by rw [tsw (v := 7) (by omega) hw_7]; first | done | rfl))
  by_cases hw_8 : (nI q : Int32).toInt = 8
  · refine lv_tableIn (off := 50) (tgt := 51) hx hb dX10_monitorFact_1 (by omega) (by omega) (by rw [hw_8]; rfl) (by decide) ?_
    refine lv_aload_n hx hb dX10_monitorFact_51 rfl (lv_at hl 0 rfl) ?_
    refine g_10_1 (S := S) (x := (some (gG S 7 0))) X w h.v10 wF_X10_21 (h.f161) dX10_monitorFact_52 ?_
    refine lv_aload_n hx hb dX10_monitorFact_55 rfl (lv_at hl 0 rfl) ?_
    refine cV (S := S) (nA := 0) (As := []) (rest := [.ref (gG S 7 0)]) X w hl h.v10 (m_X10_hourOfDay G S ea ns nj nm nt nr nc h ) wY_X10_hourOfDay wM_X10_411 wIn_X10_hourOfDay wSe_X10_X10_hourOfDay wI_X10 (by decide) rfl (by decide +kernel) rfl rfl dX10_monitorFact_56 ⟨by decide, by decide⟩ (Nat.le_of_ble_eq_true rfl) (⟨Nat.le_of_ble_eq_true rfl, Nat.le_of_ble_eq_true rfl⟩) (fun v3 S1 H locs hp w => ?_)
    obtain ⟨rfl, rfl⟩ := hp
    refine lv_topi (fun z4 ez4 => ?_)
    obtain rfl : z4 = (nI (hN A % 24)) := ez4.trans (by rw [hN_eq hA7 hg7]; exact hod hg (by omega))
    refine lv_aload_n hx hb dX10_monitorFact_59 rfl (lv_at hl 1 rfl) ?_
    refine g_3_0 (S := S) (x := (nI mo)) X w (h.e_mo mo hmo).2 wF_X10_467 (h.n_mo mo hmo) dX10_monitorFact_60 ?_
    refine cV (S := S) (nA := 2) (As := [.int (nI (hN A % 24)), .int (nI mo)]) (rest := []) X w hl h.v7 (a_X7_setOf G S ea ns nj nm nt nr nc h A hA (hN A % 24) (Nat.mod_lt _ (by decide)) (nI mo)) wY_X7_setOf wM_X10_468 wIn_X7_setOf wSe_X7_X7_setOf wI_X7 (by decide) rfl (by decide +kernel) rfl rfl dX10_monitorFact_63 ⟨by decide, by decide⟩ (Nat.le_of_ble_eq_true rfl) (⟨Nat.le_of_ble_eq_true rfl, Nat.le_of_ble_eq_true rfl⟩) (fun v5 S1 H locs hp w => ?_)
    obtain ⟨rfl, rfl⟩ := hp
    exact rI X w rfl dX10_monitorFact_66 (by decide) (by decide) (pu_i (by rw [tsw (v := 8) (by omega) hw_8]; first | done | rfl))
  refine lv_tableOut (tgt := 67) hx hb dX10_monitorFact_1 (by omega) (by decide) ?_
  have h5 : q < 5 := by
    have n5 : ¬ q = 5 := fun z => hw_5 (by rw [z]; decide)
    have n6 : ¬ q = 6 := fun z => hw_6 (by rw [z]; decide)
    have n7 : ¬ q = 7 := fun z => hw_7 (by rw [z]; decide)
    have n8 : ¬ q = 8 := fun z => hw_8 (by rw [z]; decide)
    omega
  refine lv_aload_n hx hb dX10_monitorFact_67 rfl (lv_at hl 1 rfl) ?_
  refine lv_iload_n hx hb dX10_monitorFact_68 rfl (lv_at hl 2 rfl) ?_
  refine cV (S := S) (nA := 1) (As := [.int (nI q)]) (rest := []) X w hl (h.e_mo mo hmo).2 (a_X3_skillFor G S ea ns nj nm nt nr nc h A hA mo q hmo h5) wY_X3_skillFor wM_X10_471 wIn_X3_skillFor wSe_X3_X3_skillFor wI_X3 (by decide) rfl (by decide +kernel) rfl rfl dX10_monitorFact_69 ⟨by decide, by decide⟩ (Nat.le_of_ble_eq_true rfl) (⟨Nat.le_of_ble_eq_true rfl, Nat.le_of_ble_eq_true rfl⟩) (fun v6 S1 H locs hp w => ?_)
  obtain ⟨rfl, rfl⟩ := hp
  exact rI X w rfl dX10_monitorFact_72 (by decide) (by decide) (pu_i (by unfold rMonNow; rw [if_pos h5]))

abbrev rm_a_X10_talkFact : Room := { frames := 0, cells := 0, slots := 0, locals := 0 }
set_option maxHeartbeats 4000000 in
set_option maxRecDepth 100000 in
theorem a_X10_talkFact {s0 : State} {l : Launch} {D : va_G} {cy : Nat → ClassId} (G : Gl s0 l D cy) (S : HS) (ea ns nj nm nt nr nc : Nat) (h : CI ea S ns nj nm nt nr nc) (A : HS) (hA : RK S A ns nj nm nt nr nc) (g0 : Nat) (hg : mI S 164 0 = nI g0) (hg7 : g0 ≤ 720) (hA7 : mI A 257 0 = nI g0) (j q : Nat) (hj : j < nt) (hq : q < 8) : Ctr s0 l D cy yX10_talkFact cX10_talkFact 3 (some .int) rm_a_X10_talkFact S [.ref (gG S 10 0), .ref (gG S 9 j), .int (nI q)] (PU S (some (.int (rTalkNow A j q)))) := by
  refine pro "CavershamShift" G rfl rfl (Nat.le_of_ble_eq_true rfl) (fun p e s m below meth c ls X w hnm hl => ?_)
  have hx := X.1
  have hb := X.2.1
  have hown := X.2.2.2.1
  have hts := X.2.2.2.2.1
  have hl : lv_has ls 3 [(0, .ref (gG S 10 0)), (1, .ref (gG S 9 j)), (2, .int (nI q))] := hl
  refine lv_iload_n hx hb dX10_talkFact_0 rfl (lv_at hl 2 rfl) ?_
  by_cases hw_0 : (nI q : Int32).toInt = 0
  · refine lv_tableIn (off := 43) (tgt := 44) hx hb dX10_talkFact_1 (by omega) (by omega) (by rw [hw_0]; rfl) (by decide) ?_
    refine lv_aload_n hx hb dX10_talkFact_44 rfl (lv_at hl 1 rfl) ?_
    refine g_9_1 (S := S) (x := (some (gG S 8 (tS A j)))) X w (h.e_ta j hj).2 wF_X10_326 ((hA.rc.tSx h.b_st hj).2.2) dX10_talkFact_45 ?_
    refine g_8_0 (S := S) (x := (mI A 240 j)) X w (h.e_st (tS A j) (hA.rc.tSx h.b_st hj).1).2 wF_X10_330 ((h.n_st _ (hA.rc.tSx h.b_st hj).1).trans (hA.rc.tSx h.b_st hj).2.1.symm) dX10_talkFact_48 ?_
    exact rI X w rfl dX10_talkFact_51 (by decide) (by decide) (pu_i (by rw [tsw (v := 0) (by omega) hw_0]; first | done | rfl))
  by_cases hw_1 : (nI q : Int32).toInt = 1
  · refine lv_tableIn (off := 51) (tgt := 52) hx hb dX10_talkFact_1 (by omega) (by omega) (by rw [hw_1]; rfl) (by decide) ?_
    refine lv_aload_n hx hb dX10_talkFact_52 rfl (lv_at hl 1 rfl) ?_
    refine g_9_2 (S := S) (x := (mI A 241 j)) X w (h.e_ta j hj).2 wF_X10_333 ((hA.rc.2.2.2.1 j hj).2.1) dX10_talkFact_53 ?_
    exact rI X w rfl dX10_talkFact_56 (by decide) (by decide) (pu_i (by rw [tsw (v := 1) (by omega) hw_1]; first | done | rfl))
  by_cases hw_2 : (nI q : Int32).toInt = 2
  · refine lv_tableIn (off := 56) (tgt := 57) hx hb dX10_talkFact_1 (by omega) (by omega) (by rw [hw_2]; rfl) (by decide) ?_
    refine lv_aload_n hx hb dX10_talkFact_57 rfl (lv_at hl 1 rfl) ?_
    refine g_9_3 (S := S) (x := (mI A 242 j)) X w (h.e_ta j hj).2 wF_X10_474 ((hA.rc.2.2.2.1 j hj).2.2.1) dX10_talkFact_58 ?_
    exact rI X w rfl dX10_talkFact_61 (by decide) (by decide) (pu_i (by rw [tsw (v := 2) (by omega) hw_2]; first | done | rfl))
  by_cases hw_3 : (nI q : Int32).toInt = 3
  · refine lv_tableIn (off := 61) (tgt := 62) hx hb dX10_talkFact_1 (by omega) (by omega) (by rw [hw_3]; rfl) (by decide) ?_
    refine lv_aload_n hx hb dX10_talkFact_62 rfl (lv_at hl 1 rfl) ?_
    refine g_9_4 (S := S) (x := (mI A 243 j)) X w (h.e_ta j hj).2 wF_X10_477 ((hA.rc.2.2.2.1 j hj).2.2.2.1) dX10_talkFact_63 ?_
    exact rI X w rfl dX10_talkFact_66 (by decide) (by decide) (pu_i (by rw [tsw (v := 3) (by omega) hw_3]; first | done | rfl))
  by_cases hw_4 : (nI q : Int32).toInt = 4
  · refine lv_tableIn (off := 66) (tgt := 67) hx hb dX10_talkFact_1 (by omega) (by omega) (by rw [hw_4]; rfl) (by decide) ?_
    refine lv_aload_n hx hb dX10_talkFact_67 rfl (lv_at hl 1 rfl) ?_
    refine g_9_5 (S := S) (x := (mI A 244 j)) X w (h.e_ta j hj).2 wF_X10_480 ((hA.rc.2.2.2.1 j hj).2.2.2.2.1) dX10_talkFact_68 ?_
    exact rI X w rfl dX10_talkFact_71 (by decide) (by decide) (pu_i (by rw [tsw (v := 4) (by omega) hw_4]; first | done | rfl))
  by_cases hw_5 : (nI q : Int32).toInt = 5
  · refine lv_tableIn (off := 71) (tgt := 72) hx hb dX10_talkFact_1 (by omega) (by omega) (by rw [hw_5]; rfl) (by decide) ?_
    refine lv_aload_n hx hb dX10_talkFact_72 rfl (lv_at hl 1 rfl) ?_
    refine g_9_6 (S := S) (x := (mI A 245 j)) X w (h.e_ta j hj).2 wF_X10_483 ((hA.rc.2.2.2.1 j hj).2.2.2.2.2) dX10_talkFact_73 ?_
    exact rI X w rfl dX10_talkFact_76 (by decide) (by decide) (pu_i (by rw [tsw (v := 5) (by omega) hw_5]; first | done | rfl))
  by_cases hw_6 : (nI q : Int32).toInt = 6
  · refine lv_tableIn (off := 76) (tgt := 77) hx hb dX10_talkFact_1 (by omega) (by omega) (by rw [hw_6]; rfl) (by decide) ?_
    refine lv_aload_n hx hb dX10_talkFact_77 rfl (lv_at hl 1 rfl) ?_
    refine g_9_7 (S := S) (x := (mI A 246 j)) X w (h.e_ta j hj).2 wF_X10_188 (hA.pr j hj) dX10_talkFact_78 ?_
    exact rI X w rfl dX10_talkFact_81 (by decide) (by decide) (pu_i (by rw [tsw (v := 6) (by omega) hw_6]; first | done | rfl))
  refine lv_tableOut (tgt := 82) hx hb dX10_talkFact_1 (by omega) (by decide) ?_
  have h8 : q = 7 := by
    have n0 : ¬ q = 0 := fun z => hw_0 (by rw [z]; decide)
    have n1 : ¬ q = 1 := fun z => hw_1 (by rw [z]; decide)
    have n2 : ¬ q = 2 := fun z => hw_2 (by rw [z]; decide)
    have n3 : ¬ q = 3 := fun z => hw_3 (by rw [z]; decide)
    have n4 : ¬ q = 4 := fun z => hw_4 (by rw [z]; decide)
    have n5 : ¬ q = 5 := fun z => hw_5 (by rw [z]; decide)
    have n6 : ¬ q = 6 := fun z => hw_6 (by rw [z]; decide)
    omega
  refine lv_aload_n hx hb dX10_talkFact_82 rfl (lv_at hl 1 rfl) ?_
  rcases hA.rp j hj with ⟨her1, hur1, hzr1, hwr1, hsr1⟩ | ⟨her1, hvr1, hur1, hwr1⟩
  · refine g_9_8 (S := S) (x := none) X w (h.e_ta j hj).2 wF_X10_197 (her1) dX10_talkFact_83 ?_
    refine lv_ifnullN (tgt := 93) hx hb dX10_talkFact_86 (by decide) ?_
    refine lv_aload_n hx hb dX10_talkFact_93 rfl (lv_at hl 1 rfl) ?_
    refine g_9_2 (S := S) (x := (mI A 241 j)) X w (h.e_ta j hj).2 wF_X10_333 ((hA.rc.2.2.2.1 j hj).2.1) dX10_talkFact_94 ?_
    refine lv_aload_n hx hb dX10_talkFact_97 rfl (lv_at hl 0 rfl) ?_
    refine g_10_4 (S := S) (x := (mI A 257 0)) X w h.v10 wF_X10_41 (hg.trans hA7.symm) dX10_talkFact_98 ?_
    refine lv_icmp_ge (tgt := 108) hx hb dX10_talkFact_101 (by decide) (fun hlt9 => ?_) (fun hlt9 => ?_)
    · refine lv_iconst (v := 0) hx hb dX10_talkFact_108 (by decide) ?_
      exact rI X w rfl dX10_talkFact_109 (by decide) (by decide) (pu_i (by rw [h8]; show (if mI A 247 j ≠ -1 then 2 else if mI A 241 j < mI A 257 0 then 1 else 0) = _; first | (rw [if_pos (by assumption)]; done) | (rw [if_neg (fun z => z (by assumption)), if_pos (Int32.not_le.mp hlt9)]; done) | (rw [if_neg (fun z => z (by assumption)), if_neg (Int32.not_lt.mpr hlt9)]; done)))
    · refine lv_iconst (v := 1) hx hb dX10_talkFact_104 (by decide) ?_
      refine lv_goto (tgt := 109) hx hb dX10_talkFact_105 (by decide) ?_
      exact rI X w rfl dX10_talkFact_109 (by decide) (by decide) (pu_i (by rw [h8]; show (if mI A 247 j ≠ -1 then 2 else if mI A 241 j < mI A 257 0 then 1 else 0) = _; first | (rw [if_pos (by assumption)]; done) | (rw [if_neg (fun z => z (by assumption)), if_pos (Int32.not_le.mp hlt9)]; done) | (rw [if_neg (fun z => z (by assumption)), if_neg (Int32.not_lt.mpr hlt9)]; done)))
  · refine g_9_8 (S := S) (x := (some (gG S 6 j))) X w (h.e_ta j hj).2 wF_X10_197 (her1) dX10_talkFact_83 ?_
    refine lv_ifnull hx hb dX10_talkFact_86 ?_
    refine lv_iconst (v := 2) hx hb dX10_talkFact_89 (by decide) ?_
    refine lv_goto (tgt := 109) hx hb dX10_talkFact_90 (by decide) ?_
    exact rI X w rfl dX10_talkFact_109 (by decide) (by decide) (pu_i (by rw [h8]; show (if mI A 247 j ≠ -1 then 2 else if mI A 241 j < mI A 257 0 then 1 else 0) = _; first | (rw [if_pos (by assumption)]; done) | (rw [if_neg (fun z => z (by assumption)), if_pos (Int32.not_le.mp hlt9)]; done) | (rw [if_neg (fun z => z (by assumption)), if_neg (Int32.not_lt.mpr hlt9)]; done)))

abbrev rm_a_X10_reportFact : Room := { frames := 2, cells := 0, slots := 0, locals := 42 }
set_option maxHeartbeats 4000000 in
set_option maxRecDepth 100000 in
theorem a_X10_reportFact {s0 : State} {l : Launch} {D : va_G} {cy : Nat → ClassId} (G : Gl s0 l D cy) (S : HS) (ea ns nj nm nt nr nc : Nat) (h : CI ea S ns nj nm nt nr nc) (A : HS) (hA : RK S A ns nj nm nt nr nc) (j : Nat) (hj : j < nt) (q : Nat) (hq : q < 12) : Ctr s0 l D cy yX10_reportFact cX10_reportFact 4 (some .int) rm_a_X10_reportFact S [.ref (gG S 10 0), .ref (gG S 9 j), .int (nI q)] (PU S (some (.int (if mI A 247 j = -1 then -2 else rRepNow A j q)))) := by
  refine pro "CavershamShift" G rfl rfl (Nat.le_of_ble_eq_true rfl) (fun p e s m below meth c ls X w hnm hl => ?_)
  have hx := X.1
  have hb := X.2.1
  have hown := X.2.2.2.1
  have hts := X.2.2.2.2.1
  have hl : lv_has ls 4 [(0, .ref (gG S 10 0)), (1, .ref (gG S 9 j)), (2, .int (nI q))] := hl
  refine lv_aload_n hx hb dX10_reportFact_0 rfl (lv_at hl 1 rfl) ?_
  rcases hA.rp j hj with ⟨her1, hur1, hzr1, hwr1, hsr1⟩ | ⟨her1, hvr1, hur1, hwr1⟩
  · refine g_9_8 (S := S) (x := none) X w (h.e_ta j hj).2 wF_X10_197 (her1) dX10_reportFact_1 ?_
    refine lv_astore_nN (lv' := [(3, .null), (0, .ref (gG S 10 0)), (1, .ref (gG S 9 j)), (2, .int (nI q))]) hx hb dX10_reportFact_4 rfl hl (by decide) rfl (fun ls hl => ?_)
    refine lv_aload_nN hx hb dX10_reportFact_5 rfl (lv_at hl 0 rfl) ?_
    refine lv_ifnonnullN hx hb dX10_reportFact_6 ?_
    refine lv_bipush (v := (-2)) hx hb dX10_reportFact_9 (by decide) ?_
    exact rI X w rfl dX10_reportFact_11 (by decide) (by decide) (pu_i (by rw [if_pos (by assumption)]))
  · refine g_9_8 (S := S) (x := (some (gG S 6 j))) X w (h.e_ta j hj).2 wF_X10_197 (her1) dX10_reportFact_1 ?_
    refine lv_astore_n (lv' := [(3, .ref (gG S 6 j)), (0, .ref (gG S 10 0)), (1, .ref (gG S 9 j)), (2, .int (nI q))]) hx hb dX10_reportFact_4 rfl hl (by decide) rfl (fun ls hl => ?_)
    refine lv_aload_n hx hb dX10_reportFact_5 rfl (lv_at hl 0 rfl) ?_
    refine lv_ifnonnull (tgt := 12) hx hb dX10_reportFact_6 (by decide) ?_
    refine lv_iload_n hx hb dX10_reportFact_12 rfl (lv_at hl 3 rfl) ?_
    by_cases hw_0 : (nI q : Int32).toInt = 0
    · refine lv_tableIn (off := 59) (tgt := 72) hx hb dX10_reportFact_13 (by omega) (by omega) (by rw [hw_0]; rfl) (by decide) ?_
      refine lv_aload_n hx hb dX10_reportFact_72 rfl (lv_at hl 0 rfl) ?_
      refine g_6_0 (S := S) (x := (rSort (mI A 244 j))) X w hvr1 wF_X10_340 ((hwr1).1) dX10_reportFact_73 ?_
      exact rI X w rfl dX10_reportFact_76 (by decide) (by decide) (pu_i (by rw [if_neg (by assumption), tsw (v := 0) (by omega) hw_0]; first | done | rfl))
    by_cases hw_1 : (nI q : Int32).toInt = 1
    · refine lv_tableIn (off := 64) (tgt := 77) hx hb dX10_reportFact_13 (by omega) (by omega) (by rw [hw_1]; rfl) (by decide) ?_
      refine lv_aload_n hx hb dX10_reportFact_77 rfl (lv_at hl 0 rfl) ?_
      refine g_6_1 (S := S) (x := (rLen (mI A 244 j) (mI A 243 j) (mI A 248 j))) X w hvr1 wF_X10_485 ((hwr1).2.1) dX10_reportFact_78 ?_
      exact rI X w rfl dX10_reportFact_81 (by decide) (by decide) (pu_i (by rw [if_neg (by assumption), tsw (v := 1) (by omega) hw_1]; first | done | rfl))
    by_cases hw_2 : (nI q : Int32).toInt = 2
    · refine lv_tableIn (off := 69) (tgt := 82) hx hb dX10_reportFact_13 (by omega) (by omega) (by rw [hw_2]; rfl) (by decide) ?_
      refine lv_aload_n hx hb dX10_reportFact_82 rfl (lv_at hl 0 rfl) ?_
      refine g_6_2 (S := S) (x := (rCaught (mI A 243 j) (mI A 248 j))) X w hvr1 wF_X10_488 ((hwr1).2.2.1) dX10_reportFact_83 ?_
      exact rI X w rfl dX10_reportFact_86 (by decide) (by decide) (pu_i (by rw [if_neg (by assumption), tsw (v := 2) (by omega) hw_2]; first | done | rfl))
    by_cases hw_3 : (nI q : Int32).toInt = 3
    · refine lv_tableIn (off := 74) (tgt := 87) hx hb dX10_reportFact_13 (by omega) (by omega) (by rw [hw_3]; rfl) (by decide) ?_
      refine lv_aload_n hx hb dX10_reportFact_87 rfl (lv_at hl 0 rfl) ?_
      refine g_6_3 (S := S) (x := (rHeard (mI A 245 j) (mI A 248 j))) X w hvr1 wF_X10_491 ((hwr1).2.2.2.1) dX10_reportFact_88 ?_
      exact rI X w rfl dX10_reportFact_91 (by decide) (by decide) (pu_i (by rw [if_neg (by assumption), tsw (v := 3) (by omega) hw_3]; first | done | rfl))
    by_cases hw_4 : (nI q : Int32).toInt = 4
    · refine lv_tableIn (off := 79) (tgt := 92) hx hb dX10_reportFact_13 (by omega) (by omega) (by rw [hw_4]; rfl) (by decide) ?_
      refine lv_aload_n hx hb dX10_reportFact_92 rfl (lv_at hl 0 rfl) ?_
      refine g_6_4 (S := S) (x := (rGuess (mI A 245 j) (mI A 248 j))) X w hvr1 wF_X10_494 ((hwr1).2.2.2.2.1) dX10_reportFact_93 ?_
      exact rI X w rfl dX10_reportFact_96 (by decide) (by decide) (pu_i (by rw [if_neg (by assumption), tsw (v := 4) (by omega) hw_4]; first | done | rfl))
    by_cases hw_5 : (nI q : Int32).toInt = 5
    · refine lv_tableIn (off := 84) (tgt := 97) hx hb dX10_reportFact_13 (by omega) (by omega) (by rw [hw_5]; rfl) (by decide) ?_
      refine lv_aload_n hx hb dX10_reportFact_97 rfl (lv_at hl 0 rfl) ?_
      refine g_6_8 (S := S) (x := (mI A 247 j)) X w hvr1 wF_X10_347 ((hwr1).2.2.2.2.2.2.2.2.1) dX10_reportFact_98 ?_
      exact rI X w rfl dX10_reportFact_101 (by decide) (by decide) (pu_i (by rw [if_neg (by assumption), tsw (v := 5) (by omega) hw_5]; first | done | rfl))
    by_cases hw_6 : (nI q : Int32).toInt = 6
    · refine lv_tableIn (off := 89) (tgt := 102) hx hb dX10_reportFact_13 (by omega) (by omega) (by rw [hw_6]; rfl) (by decide) ?_
      refine lv_aload_n hx hb dX10_reportFact_102 rfl (lv_at hl 0 rfl) ?_
      refine g_6_9 (S := S) (x := (mI A 251 j)) X w hvr1 wF_X10_497 ((hwr1).2.2.2.2.2.2.2.2.2.1) dX10_reportFact_103 ?_
      exact rI X w rfl dX10_reportFact_106 (by decide) (by decide) (pu_i (by rw [if_neg (by assumption), tsw (v := 6) (by omega) hw_6]; first | done | rfl))
    by_cases hw_7 : (nI q : Int32).toInt = 7
    · refine lv_tableIn (off := 94) (tgt := 107) hx hb dX10_reportFact_13 (by omega) (by omega) (by rw [hw_7]; rfl) (by decide) ?_
      refine lv_aload_n hx hb dX10_reportFact_107 rfl (lv_at hl 0 rfl) ?_
      refine g_6_5 (S := S) (x := (mI A 249 j)) X w hvr1 wF_X10_500 ((hwr1).2.2.2.2.2.1) dX10_reportFact_108 ?_
      exact rI X w rfl dX10_reportFact_111 (by decide) (by decide) (pu_i (by rw [if_neg (by assumption), tsw (v := 7) (by omega) hw_7]; first | done | rfl))
    by_cases hw_8 : (nI q : Int32).toInt = 8
    · refine lv_tableIn (off := 99) (tgt := 112) hx hb dX10_reportFact_13 (by omega) (by omega) (by rw [hw_8]; rfl) (by decide) ?_
      refine lv_aload_n hx hb dX10_reportFact_112 rfl (lv_at hl 0 rfl) ?_
      refine g_6_6 (S := S) (x := (mI A 250 j)) X w hvr1 wF_X10_503 ((hwr1).2.2.2.2.2.2.1) dX10_reportFact_113 ?_
      exact rI X w rfl dX10_reportFact_116 (by decide) (by decide) (pu_i (by rw [if_neg (by assumption), tsw (v := 8) (by omega) hw_8]; first | done | rfl))
    by_cases hw_9 : (nI q : Int32).toInt = 9
    · refine lv_tableIn (off := 104) (tgt := 117) hx hb dX10_reportFact_13 (by omega) (by omega) (by rw [hw_9]; rfl) (by decide) ?_
      refine lv_aload_n hx hb dX10_reportFact_117 rfl (lv_at hl 0 rfl) ?_
      refine g_6_7 (S := S) (x := (mI A 248 j)) X w hvr1 wF_X10_506 ((hwr1).2.2.2.2.2.2.2.1) dX10_reportFact_118 ?_
      exact rI X w rfl dX10_reportFact_121 (by decide) (by decide) (pu_i (by rw [if_neg (by assumption), tsw (v := 9) (by omega) hw_9]; first | done | rfl))
    by_cases hw_10 : (nI q : Int32).toInt = 10
    · refine lv_tableIn (off := 109) (tgt := 122) hx hb dX10_reportFact_13 (by omega) (by omega) (by rw [hw_10]; rfl) (by decide) ?_
      refine lv_aload_n hx hb dX10_reportFact_122 rfl (lv_at hl 2 rfl) ?_
      refine cV (S := S) (nA := 0) (As := []) (rest := []) X w hl (h.e_ta j hj).2 (a_X9_isInError G S ea ns nj nm nt nr nc h A hA j hj) wY_X9_isInError wM_X10_509 wIn_X9_isInError wSe_X9_X9_isInError wI_X9 (by decide) rfl (by decide +kernel) rfl rfl dX10_reportFact_123 ⟨by decide, by decide⟩ (Nat.le_of_ble_eq_true rfl) (⟨Nat.le_of_ble_eq_true rfl, Nat.le_of_ble_eq_true rfl⟩) (fun v2 S1 H locs hp w => ?_)
      obtain ⟨rfl, rfl⟩ := hp
      refine lv_if_eq (tgt := 133) hx hb dX10_reportFact_126 (by decide) (fun her => ?_) (fun her => ?_)
      · refine lv_iconst (v := 0) hx hb dX10_reportFact_133 (by decide) ?_
        exact rI X w rfl dX10_reportFact_134 (by decide) (by decide) (pu_i (by rw [if_neg (by assumption), tsw (v := 10) (by omega) hw_10]; first | (show b2i _ = (0 : Int32); rw [b2i_f her]; rfl) | (show b2i _ = (1 : Int32); rw [b2i_t her]; rfl)))
      · refine lv_iconst (v := 1) hx hb dX10_reportFact_129 (by decide) ?_
        refine lv_goto (tgt := 134) hx hb dX10_reportFact_130 (by decide) ?_
        exact rI X w rfl dX10_reportFact_134 (by decide) (by decide) (pu_i (by rw [if_neg (by assumption), tsw (v := 10) (by omega) hw_10]; first | (show b2i _ = (0 : Int32); rw [b2i_f her]; rfl) | (show b2i _ = (1 : Int32); rw [b2i_t her]; rfl)))
    refine lv_tableOut (tgt := 135) hx hb dX10_reportFact_13 (by omega) (by decide) ?_
    have h8 : q = 11 := by
      have n0 : ¬ q = 0 := fun z => hw_0 (by rw [z]; decide)
      have n1 : ¬ q = 1 := fun z => hw_1 (by rw [z]; decide)
      have n2 : ¬ q = 2 := fun z => hw_2 (by rw [z]; decide)
      have n3 : ¬ q = 3 := fun z => hw_3 (by rw [z]; decide)
      have n4 : ¬ q = 4 := fun z => hw_4 (by rw [z]; decide)
      have n5 : ¬ q = 5 := fun z => hw_5 (by rw [z]; decide)
      have n6 : ¬ q = 6 := fun z => hw_6 (by rw [z]; decide)
      have n7 : ¬ q = 7 := fun z => hw_7 (by rw [z]; decide)
      have n8 : ¬ q = 8 := fun z => hw_8 (by rw [z]; decide)
      have n9 : ¬ q = 9 := fun z => hw_9 (by rw [z]; decide)
      have n10 : ¬ q = 10 := fun z => hw_10 (by rw [z]; decide)
      omega
    refine lv_aload_n hx hb dX10_reportFact_135 rfl (lv_at hl 0 rfl) ?_
    refine g_6_11 (S := S) (x := (mI A 253 j)) X w hvr1 wF_X10_512 ((hwr1).2.2.2.2.2.2.2.2.2.2.2.1) dX10_reportFact_136 ?_
    exact rI X w rfl dX10_reportFact_139 (by decide) (by decide) (pu_i (by rw [if_neg (by assumption), h8]; first | done | rfl))

abbrev rm_a_X10_readerFact : Room := { frames := 4, cells := 0, slots := 0, locals := 88 }
set_option maxHeartbeats 4000000 in
set_option maxRecDepth 100000 in
theorem a_X10_readerFact {s0 : State} {l : Launch} {D : va_G} {cy : Nat → ClassId} (G : Gl s0 l D cy) (S : HS) (ea ns nj nm nt nr nc : Nat) (h : CI ea S ns nj nm nt nr nc) (A : HS) (hA : RK S A ns nj nm nt nr nc) (r q : Nat) (hr : r < nr) (hq : q < 5) : Ctr s0 l D cy yX10_readerFact cX10_readerFact 3 (some .int) rm_a_X10_readerFact S [.ref (gG S 10 0), .ref (gG S 5 r), .int (nI q)] (PU S (some (.int (rReaNow A nt r q)))) := by
  refine pro "CavershamShift" G rfl rfl (Nat.le_of_ble_eq_true rfl) (fun p e s m below meth c ls X w hnm hl => ?_)
  have hx := X.1
  have hb := X.2.1
  have hown := X.2.2.2.1
  have hts := X.2.2.2.2.1
  have hl : lv_has ls 3 [(0, .ref (gG S 10 0)), (1, .ref (gG S 5 r)), (2, .int (nI q))] := hl
  refine lv_iload_n hx hb dX10_readerFact_0 rfl (lv_at hl 2 rfl) ?_
  by_cases hw_0 : (nI q : Int32).toInt = 0
  · refine lv_tableIn (off := 31) (tgt := 32) hx hb dX10_readerFact_1 (by omega) (by omega) (by rw [hw_0]; rfl) (by decide) ?_
    refine lv_aload_n hx hb dX10_readerFact_32 rfl (lv_at hl 1 rfl) ?_
    refine g_5_1 (S := S) (x := (mI A 208 r)) X w (h.e_re r hr).2 wF_X10_223 ((hA.re r hr).1) dX10_readerFact_33 ?_
    exact rI X w rfl dX10_readerFact_36 (by decide) (by decide) (pu_i (by rw [tsw (v := 0) (by omega) hw_0]; first | done | rfl))
  by_cases hw_1 : (nI q : Int32).toInt = 1
  · refine lv_tableIn (off := 36) (tgt := 37) hx hb dX10_readerFact_1 (by omega) (by omega) (by rw [hw_1]; rfl) (by decide) ?_
    refine lv_aload_n hx hb dX10_readerFact_37 rfl (lv_at hl 1 rfl) ?_
    refine g_5_2 (S := S) (x := (mI A 209 r)) X w (h.e_re r hr).2 wF_X10_226 ((hA.re r hr).2) dX10_readerFact_38 ?_
    exact rI X w rfl dX10_readerFact_41 (by decide) (by decide) (pu_i (by rw [tsw (v := 1) (by omega) hw_1]; first | done | rfl))
  by_cases hw_2 : (nI q : Int32).toInt = 2
  · refine lv_tableIn (off := 41) (tgt := 42) hx hb dX10_readerFact_1 (by omega) (by omega) (by rw [hw_2]; rfl) (by decide) ?_
    refine lv_aload_n hx hb dX10_readerFact_42 rfl (lv_at hl 0 rfl) ?_
    refine g_10_2 (S := S) (x := (some (gG S 4 0))) X w h.v10 wF_X10_28 (h.f162) dX10_readerFact_43 ?_
    refine lv_aload_n hx hb dX10_readerFact_46 rfl (lv_at hl 1 rfl) ?_
    refine lv_iconst (v := 1) hx hb dX10_readerFact_47 (by decide) ?_
    refine cV (S := S) (nA := 2) (As := [.ref (gG S 5 r), .int 1]) (rest := []) X w hl h.v4 (a_X4_countReached G S ea ns nj nm nt nr nc h A hA r hr 1) wY_X4_countReached wM_X10_515 wIn_X4_countReached wSe_X4_X4_countReached wI_X4 (by decide) rfl (by decide +kernel) rfl rfl dX10_readerFact_48 ⟨by decide, by decide⟩ (Nat.le_of_ble_eq_true rfl) (⟨Nat.le_of_ble_eq_true rfl, Nat.le_of_ble_eq_true rfl⟩) (fun v1 S1 H locs hp w => ?_)
    obtain ⟨rfl, rfl⟩ := hp
    exact rI X w rfl dX10_readerFact_51 (by decide) (by decide) (pu_i (by rw [tsw (v := 2) (by omega) hw_2]; first | exact (rCnt_c nt (fun k hk => (row_1 (row_c hA hk hr)).1)).symm | exact rCnt_c nt (fun k hk => (row_1 (row_c hA hk hr)).1)))
  by_cases hw_3 : (nI q : Int32).toInt = 3
  · refine lv_tableIn (off := 51) (tgt := 52) hx hb dX10_readerFact_1 (by omega) (by omega) (by rw [hw_3]; rfl) (by decide) ?_
    refine lv_aload_n hx hb dX10_readerFact_52 rfl (lv_at hl 0 rfl) ?_
    refine g_10_2 (S := S) (x := (some (gG S 4 0))) X w h.v10 wF_X10_28 (h.f162) dX10_readerFact_53 ?_
    refine lv_aload_n hx hb dX10_readerFact_56 rfl (lv_at hl 1 rfl) ?_
    refine lv_iconst (v := 2) hx hb dX10_readerFact_57 (by decide) ?_
    refine cV (S := S) (nA := 2) (As := [.ref (gG S 5 r), .int 2]) (rest := []) X w hl h.v4 (a_X4_countReached G S ea ns nj nm nt nr nc h A hA r hr 2) wY_X4_countReached wM_X10_515 wIn_X4_countReached wSe_X4_X4_countReached wI_X4 (by decide) rfl (by decide +kernel) rfl rfl dX10_readerFact_58 ⟨by decide, by decide⟩ (Nat.le_of_ble_eq_true rfl) (⟨Nat.le_of_ble_eq_true rfl, Nat.le_of_ble_eq_true rfl⟩) (fun v2 S1 H locs hp w => ?_)
    obtain ⟨rfl, rfl⟩ := hp
    exact rI X w rfl dX10_readerFact_61 (by decide) (by decide) (pu_i (by rw [tsw (v := 3) (by omega) hw_3]; first | exact (rCnt_c nt (fun k hk => (row_1 (row_c hA hk hr)).2)).symm | exact rCnt_c nt (fun k hk => (row_1 (row_c hA hk hr)).2)))
  refine lv_tableOut (tgt := 62) hx hb dX10_readerFact_1 (by omega) (by decide) ?_
  have h8 : q = 4 := by
    have n0 : ¬ q = 0 := fun z => hw_0 (by rw [z]; decide)
    have n1 : ¬ q = 1 := fun z => hw_1 (by rw [z]; decide)
    have n2 : ¬ q = 2 := fun z => hw_2 (by rw [z]; decide)
    have n3 : ¬ q = 3 := fun z => hw_3 (by rw [z]; decide)
    omega
  refine lv_aload_n hx hb dX10_readerFact_62 rfl (lv_at hl 0 rfl) ?_
  refine g_10_2 (S := S) (x := (some (gG S 4 0))) X w h.v10 wF_X10_28 (h.f162) dX10_readerFact_63 ?_
  refine lv_aload_n hx hb dX10_readerFact_66 rfl (lv_at hl 1 rfl) ?_
  refine cV (S := S) (nA := 1) (As := [.ref (gG S 5 r)]) (rest := []) X w hl h.v4 (a_X4_countMisled G S ea ns nj nm nt nr nc h A hA r hr) wY_X4_countMisled wM_X10_518 wIn_X4_countMisled wSe_X4_X4_countMisled wI_X4 (by decide) rfl (by decide +kernel) rfl rfl dX10_readerFact_67 ⟨by decide, by decide⟩ (Nat.le_of_ble_eq_true rfl) (⟨Nat.le_of_ble_eq_true rfl, Nat.le_of_ble_eq_true rfl⟩) (fun v3 S1 H locs hp w => ?_)
  obtain ⟨rfl, rfl⟩ := hp
  exact rI X w rfl dX10_readerFact_70 (by decide) (by decide) (pu_i (by rw [h8]; first | exact (rCnt_c nt (fun k hk => Bool.and_comm _ _)).symm | exact rCnt_c nt (fun k hk => Bool.and_comm _ _)))

