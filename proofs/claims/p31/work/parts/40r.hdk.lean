theorem rCnt_N {p : Nat → Bool} : ∀ n, rCnt p n = nI (cntB p n)
  | 0 => rfl
  | n + 1 => by
    show rCnt p n + (if p n = true then 1 else 0) = nI (cntB p n + (if p n = true then 1 else 0))
    rw [rCnt_N n]
    by_cases c : p n = true
    · rw [if_pos c, if_pos c]; exact nI_add _ 1
    · rw [if_neg c, if_neg c, add0]; rfl
def dkP (A : HS) (k : Nat) : Bool := decide (¬ mI A 247 k = -1) && decide (mI A 253 k = 2)
/-- the facts of the whole post; z: how many calls were refused -/
def rDesk (A : HS) (ns nj nm nr nt : Nat) (z : Int32) : Nat → Int32
  | 0 => mI A 257 0
  | 1 => mI A 257 0 / 24
  | 2 => mI A 257 0 - mI A 257 0 / 24 * 24
  | 3 => nI ns
  | 4 => nI nj
  | 5 => nI nm
  | 6 => nI nt
  | 7 => rCnt (fun k => decide (¬ mI A 247 k = -1)) nt
  | 8 => rCnt (fun k => decide (mI A 247 k = 0)) nt
  | 9 => rCnt (fun k => decide (mI A 247 k = 1)) nt
  | 10 => rCnt (fun k => decide (mI A 247 k = 2)) nt
  | 11 => rCnt (fun k => decide (mI A 247 k = 3)) nt
  | 12 => rCnt (fun k => decide (mI A 247 k = 4)) nt
  | 13 => mI A 258 0
  | 14 => nI (qN A)
  | 15 => rCnt (dkP A) nt
  | 16 => nI nr
  | 17 => mI A 259 0
  | _ => z
theorem cnt_3 {A : HS} : ∀ n, (∀ k, k < n → mI A 253 k = 0 ∨ mI A 253 k = 1 ∨ mI A 253 k = 2) → cN A n = c1N A n + cntB (fun k => decide (mI A 253 k = 2)) n
  | 0, _ => rfl
  | n + 1, h => by
    have ih := cnt_3 n (fun k hk => h k (Nat.lt_succ_of_lt hk))
    show cN A n + (if decide (¬ mI A 253 n = 0) = true then 1 else 0) = (c1N A n + (if decide (mI A 253 n = 1) = true then 1 else 0)) + (cntB (fun k => decide (mI A 253 k = 2)) n + (if decide (mI A 253 n = 2) = true then 1 else 0))
    rw [ih]
    rcases h n (Nat.lt_succ_self n) with e | e | e <;> rw [e]
    · rw [if_neg (by decide), if_neg (by decide), if_neg (by decide)]; omega
    · rw [if_pos (by decide), if_pos (by decide), if_neg (by decide)]; omega
    · rw [if_pos (by decide), if_neg (by decide), if_pos (by decide)]; omega
theorem desk_14 {S A : HS} {ns nj nm nt nr nc : Nat} (h : RK S A ns nj nm nt nr nc) (hb : nc ≤ 40) : nI nc - mI S 67 0 = nI (qN A) := by
  obtain ⟨g, e1, e2, -⟩ := h.qu
  rw [e1, ← e2, show nI (g + qN A) - nI g = nI (g + qN A - g) from pk_sub (by omega), show g + qN A - g = qN A by omega]
theorem desk_15 {S A : HS} {ns nj nm nt nr nc : Nat} (h : RK S A ns nj nm nt nr nc) (hd : DS A nt) : mI S 67 0 = rCnt (dkP A) nt := by
  obtain ⟨g, e1, e2, -⟩ := h.qu
  obtain ⟨-, -, d3, d4⟩ := hd
  have c3 := cnt_3 nt d4
  have c6 := h.q6
  rw [e1, rCnt_N, cntB_c (p := dkP A) (q := fun k => decide (mI A 253 k = 2)) nt (fun k hk => ?_)]
  · rw [show g = cntB (fun k => decide (mI A 253 k = 2)) nt by omega]
  · show (decide (¬ mI A 247 k = -1) && decide (mI A 253 k = 2)) = decide (mI A 253 k = 2)
    by_cases e : mI A 253 k = 2
    · have q := (h.q1 k hk (by rw [e]; decide)).1
      rw [q]; rfl
    · rw [decide_eq_false e, Bool.and_false]

abbrev rm_a_X10_deskFact : Room := { frames := 4, cells := 0, slots := 0, locals := 87 }
set_option maxHeartbeats 4000000 in
set_option maxRecDepth 100000 in
theorem a_X10_deskFact {s0 : State} {l : Launch} {D : va_G} {cy : Nat → ClassId} (G : Gl s0 l D cy) (S : HS) (ea ns nj nm nt nr nc : Nat) (h : CI ea S ns nj nm nt nr nc) (A : HS) (hA : RK S A ns nj nm nt nr nc) (g0 : Nat) (hg : mI S 164 0 = nI g0) (hg7 : g0 ≤ 720) (hA7 : mI A 257 0 = nI g0) (hds : DS A nt) (q : Nat) (hq : q < 19) : Ctr s0 l D cy yX10_deskFact cX10_deskFact 2 (some .int) rm_a_X10_deskFact S [.ref (gG S 10 0), .int (nI q)] (PU S (some (.int (rDesk A ns nj nm nr nt (mI S 165 0) q)))) := by
  refine pro "CavershamShift" G rfl rfl (Nat.le_of_ble_eq_true rfl) (fun p e s m below meth c ls X w hnm hl => ?_)
  have hx := X.1
  have hb := X.2.1
  have hown := X.2.2.2.1
  have hts := X.2.2.2.2.1
  have hl : lv_has ls 2 [(0, .ref (gG S 10 0)), (1, .int (nI q))] := hl
  refine lv_iload_n hx hb dX10_deskFact_0 rfl (lv_at hl 1 rfl) ?_
  by_cases hw_0 : (nI q : Int32).toInt = 0
  · refine lv_tableIn (off := 87) (tgt := 88) hx hb dX10_deskFact_1 (by omega) (by omega) (by rw [hw_0]; rfl) (by decide) ?_
    refine lv_aload_n hx hb dX10_deskFact_88 rfl (lv_at hl 0 rfl) ?_
    refine g_10_4 (S := S) (x := (mI A 257 0)) X w h.v10 wF_X10_41 (hg.trans hA7.symm) dX10_deskFact_89 ?_
    exact rI X w rfl dX10_deskFact_92 (by decide) (by decide) (pu_i (by rw [tsw (v := 0) (by omega) hw_0]; first | done | rfl))
  by_cases hw_1 : (nI q : Int32).toInt = 1
  · refine lv_tableIn (off := 92) (tgt := 93) hx hb dX10_deskFact_1 (by omega) (by omega) (by rw [hw_1]; rfl) (by decide) ?_
    refine lv_aload_n hx hb dX10_deskFact_93 rfl (lv_at hl 0 rfl) ?_
    refine cV (S := S) (nA := 0) (As := []) (rest := []) X w hl h.v10 (m_X10_day G S ea ns nj nm nt nr nc h ) wY_X10_day wM_X10_292 wIn_X10_day wSe_X10_X10_day wI_X10 (by decide) rfl (by decide +kernel) rfl rfl dX10_deskFact_94 ⟨by decide, by decide⟩ (Nat.le_of_ble_eq_true rfl) (⟨Nat.le_of_ble_eq_true rfl, Nat.le_of_ble_eq_true rfl⟩) (fun v1 S1 H locs hp w => ?_)
    obtain ⟨rfl, rfl⟩ := hp
    refine lv_topi (fun z2 ez2 => ?_)
    obtain rfl : z2 = (mI A 257 0 / 24) := ez2.trans (by rw [hg, hA7])
    exact rI X w rfl dX10_deskFact_97 (by decide) (by decide) (pu_i (by rw [tsw (v := 1) (by omega) hw_1]; first | done | rfl))
  by_cases hw_2 : (nI q : Int32).toInt = 2
  · refine lv_tableIn (off := 97) (tgt := 98) hx hb dX10_deskFact_1 (by omega) (by omega) (by rw [hw_2]; rfl) (by decide) ?_
    refine lv_aload_n hx hb dX10_deskFact_98 rfl (lv_at hl 0 rfl) ?_
    refine cV (S := S) (nA := 0) (As := []) (rest := []) X w hl h.v10 (m_X10_hourOfDay G S ea ns nj nm nt nr nc h ) wY_X10_hourOfDay wM_X10_411 wIn_X10_hourOfDay wSe_X10_X10_hourOfDay wI_X10 (by decide) rfl (by decide +kernel) rfl rfl dX10_deskFact_99 ⟨by decide, by decide⟩ (Nat.le_of_ble_eq_true rfl) (⟨Nat.le_of_ble_eq_true rfl, Nat.le_of_ble_eq_true rfl⟩) (fun v3 S1 H locs hp w => ?_)
    obtain ⟨rfl, rfl⟩ := hp
    refine lv_topi (fun z4 ez4 => ?_)
    obtain rfl : z4 = (mI A 257 0 - mI A 257 0 / 24 * 24) := ez4.trans (by rw [hg, hA7])
    exact rI X w rfl dX10_deskFact_102 (by decide) (by decide) (pu_i (by rw [tsw (v := 2) (by omega) hw_2]; first | done | rfl))
  by_cases hw_3 : (nI q : Int32).toInt = 3
  · refine lv_tableIn (off := 102) (tgt := 103) hx hb dX10_deskFact_1 (by omega) (by omega) (by rw [hw_3]; rfl) (by decide) ?_
    refine lv_aload_n hx hb dX10_deskFact_103 rfl (lv_at hl 0 rfl) ?_
    refine g_10_0 (S := S) (x := (some (gG S 0 0))) X w h.v10 wF_X10_12 (h.f160) dX10_deskFact_104 ?_
    refine g_0_0 (S := S) (x := (some (gG S 17 0))) X w h.v0 wF_X10_62 (h.f0) dX10_deskFact_107 ?_
    refine cV (S := S) (nA := 0) (As := []) (rest := []) X w hl h.l_st.1 (m_size G S ea 0 ns h.l_st) wY_Jx4a65c_size_8abf5 wM_X10_66 wIn_Jx4a65c_size_8abf5 wSe_Jx4a65c_Jx4a65c_size_8abf5 wI_Jx4a65c (by decide) rfl (by decide +kernel) rfl rfl dX10_deskFact_110 ⟨by decide, by decide⟩ (Nat.le_of_ble_eq_true rfl) (⟨Nat.le_of_ble_eq_true rfl, Nat.le_of_ble_eq_true rfl⟩) (fun v5 S1 H locs hp w => ?_)
    obtain ⟨rfl, rfl⟩ := hp
    exact rI X w rfl dX10_deskFact_113 (by decide) (by decide) (pu_i (by rw [tsw (v := 3) (by omega) hw_3]; first | done | rfl))
  by_cases hw_4 : (nI q : Int32).toInt = 4
  · refine lv_tableIn (off := 113) (tgt := 114) hx hb dX10_deskFact_1 (by omega) (by omega) (by rw [hw_4]; rfl) (by decide) ?_
    refine lv_aload_n hx hb dX10_deskFact_114 rfl (lv_at hl 0 rfl) ?_
    refine g_10_0 (S := S) (x := (some (gG S 0 0))) X w h.v10 wF_X10_12 (h.f160) dX10_deskFact_115 ?_
    refine g_0_1 (S := S) (x := (some (gG S 17 1))) X w h.v0 wF_X10_101 (h.f1) dX10_deskFact_118 ?_
    refine cV (S := S) (nA := 0) (As := []) (rest := []) X w hl h.l_jm.1 (m_size G S ea 1 nj h.l_jm) wY_Jx4a65c_size_8abf5 wM_X10_66 wIn_Jx4a65c_size_8abf5 wSe_Jx4a65c_Jx4a65c_size_8abf5 wI_Jx4a65c (by decide) rfl (by decide +kernel) rfl rfl dX10_deskFact_121 ⟨by decide, by decide⟩ (Nat.le_of_ble_eq_true rfl) (⟨Nat.le_of_ble_eq_true rfl, Nat.le_of_ble_eq_true rfl⟩) (fun v6 S1 H locs hp w => ?_)
    obtain ⟨rfl, rfl⟩ := hp
    exact rI X w rfl dX10_deskFact_124 (by decide) (by decide) (pu_i (by rw [tsw (v := 4) (by omega) hw_4]; first | done | rfl))
  by_cases hw_5 : (nI q : Int32).toInt = 5
  · refine lv_tableIn (off := 124) (tgt := 125) hx hb dX10_deskFact_1 (by omega) (by omega) (by rw [hw_5]; rfl) (by decide) ?_
    refine lv_aload_n hx hb dX10_deskFact_125 rfl (lv_at hl 0 rfl) ?_
    refine g_10_1 (S := S) (x := (some (gG S 7 0))) X w h.v10 wF_X10_21 (h.f161) dX10_deskFact_126 ?_
    refine g_7_1 (S := S) (x := (some (gG S 17 2))) X w h.v7 wF_X10_124 (h.f113) dX10_deskFact_129 ?_
    refine cV (S := S) (nA := 0) (As := []) (rest := []) X w hl h.l_mo.1 (m_size G S ea 2 nm h.l_mo) wY_Jx4a65c_size_8abf5 wM_X10_66 wIn_Jx4a65c_size_8abf5 wSe_Jx4a65c_Jx4a65c_size_8abf5 wI_Jx4a65c (by decide) rfl (by decide +kernel) rfl rfl dX10_deskFact_132 ⟨by decide, by decide⟩ (Nat.le_of_ble_eq_true rfl) (⟨Nat.le_of_ble_eq_true rfl, Nat.le_of_ble_eq_true rfl⟩) (fun v7 S1 H locs hp w => ?_)
    obtain ⟨rfl, rfl⟩ := hp
    exact rI X w rfl dX10_deskFact_135 (by decide) (by decide) (pu_i (by rw [tsw (v := 5) (by omega) hw_5]; first | done | rfl))
  by_cases hw_6 : (nI q : Int32).toInt = 6
  · refine lv_tableIn (off := 135) (tgt := 136) hx hb dX10_deskFact_1 (by omega) (by omega) (by rw [hw_6]; rfl) (by decide) ?_
    refine lv_aload_n hx hb dX10_deskFact_136 rfl (lv_at hl 0 rfl) ?_
    refine g_10_2 (S := S) (x := (some (gG S 4 0))) X w h.v10 wF_X10_28 (h.f162) dX10_deskFact_137 ?_
    refine g_4_0 (S := S) (x := (some (gG S 17 3))) X w h.v4 wF_X10_162 (h.f64) dX10_deskFact_140 ?_
    refine cV (S := S) (nA := 0) (As := []) (rest := []) X w hl h.l_ta.1 (m_size G S ea 3 nt h.l_ta) wY_Jx4a65c_size_8abf5 wM_X10_66 wIn_Jx4a65c_size_8abf5 wSe_Jx4a65c_Jx4a65c_size_8abf5 wI_Jx4a65c (by decide) rfl (by decide +kernel) rfl rfl dX10_deskFact_143 ⟨by decide, by decide⟩ (Nat.le_of_ble_eq_true rfl) (⟨Nat.le_of_ble_eq_true rfl, Nat.le_of_ble_eq_true rfl⟩) (fun v8 S1 H locs hp w => ?_)
    obtain ⟨rfl, rfl⟩ := hp
    exact rI X w rfl dX10_deskFact_146 (by decide) (by decide) (pu_i (by rw [tsw (v := 6) (by omega) hw_6]; first | done | rfl))
  by_cases hw_7 : (nI q : Int32).toInt = 7
  · refine lv_tableIn (off := 146) (tgt := 147) hx hb dX10_deskFact_1 (by omega) (by omega) (by rw [hw_7]; rfl) (by decide) ?_
    refine lv_aload_n hx hb dX10_deskFact_147 rfl (lv_at hl 0 rfl) ?_
    refine g_10_2 (S := S) (x := (some (gG S 4 0))) X w h.v10 wF_X10_28 (h.f162) dX10_deskFact_148 ?_
    refine cV (S := S) (nA := 0) (As := []) (rest := []) X w hl h.v4 (a_X4_countReports G S ea ns nj nm nt nr nc h A hA ) wY_X4_countReports wM_X10_521 wIn_X4_countReports wSe_X4_X4_countReports wI_X4 (by decide) rfl (by decide +kernel) rfl rfl dX10_deskFact_151 ⟨by decide, by decide⟩ (Nat.le_of_ble_eq_true rfl) (⟨Nat.le_of_ble_eq_true rfl, Nat.le_of_ble_eq_true rfl⟩) (fun v9 S1 H locs hp w => ?_)
    obtain ⟨rfl, rfl⟩ := hp
    exact rI X w rfl dX10_deskFact_154 (by decide) (by decide) (pu_i (by rw [tsw (v := 7) (by omega) hw_7]; first | done | rfl))
  by_cases hw_8 : (nI q : Int32).toInt = 8
  · refine lv_tableIn (off := 154) (tgt := 155) hx hb dX10_deskFact_1 (by omega) (by omega) (by rw [hw_8]; rfl) (by decide) ?_
    refine lv_aload_n hx hb dX10_deskFact_155 rfl (lv_at hl 0 rfl) ?_
    refine g_10_2 (S := S) (x := (some (gG S 4 0))) X w h.v10 wF_X10_28 (h.f162) dX10_deskFact_156 ?_
    refine lv_iconst (v := 0) hx hb dX10_deskFact_159 (by decide) ?_
    refine cV (S := S) (nA := 1) (As := [.int 0]) (rest := []) X w hl h.v4 (a_X4_countThatStand G S ea ns nj nm nt nr nc h A hA 0 (by decide)) wY_X4_countThatStand wM_X10_524 wIn_X4_countThatStand wSe_X4_X4_countThatStand wI_X4 (by decide) rfl (by decide +kernel) rfl rfl dX10_deskFact_160 ⟨by decide, by decide⟩ (Nat.le_of_ble_eq_true rfl) (⟨Nat.le_of_ble_eq_true rfl, Nat.le_of_ble_eq_true rfl⟩) (fun v10 S1 H locs hp w => ?_)
    obtain ⟨rfl, rfl⟩ := hp
    exact rI X w rfl dX10_deskFact_163 (by decide) (by decide) (pu_i (by rw [tsw (v := 8) (by omega) hw_8]; first | done | rfl))
  by_cases hw_9 : (nI q : Int32).toInt = 9
  · refine lv_tableIn (off := 163) (tgt := 164) hx hb dX10_deskFact_1 (by omega) (by omega) (by rw [hw_9]; rfl) (by decide) ?_
    refine lv_aload_n hx hb dX10_deskFact_164 rfl (lv_at hl 0 rfl) ?_
    refine g_10_2 (S := S) (x := (some (gG S 4 0))) X w h.v10 wF_X10_28 (h.f162) dX10_deskFact_165 ?_
    refine lv_iconst (v := 1) hx hb dX10_deskFact_168 (by decide) ?_
    refine cV (S := S) (nA := 1) (As := [.int 1]) (rest := []) X w hl h.v4 (a_X4_countThatStand G S ea ns nj nm nt nr nc h A hA 1 (by decide)) wY_X4_countThatStand wM_X10_524 wIn_X4_countThatStand wSe_X4_X4_countThatStand wI_X4 (by decide) rfl (by decide +kernel) rfl rfl dX10_deskFact_169 ⟨by decide, by decide⟩ (Nat.le_of_ble_eq_true rfl) (⟨Nat.le_of_ble_eq_true rfl, Nat.le_of_ble_eq_true rfl⟩) (fun v11 S1 H locs hp w => ?_)
    obtain ⟨rfl, rfl⟩ := hp
    exact rI X w rfl dX10_deskFact_172 (by decide) (by decide) (pu_i (by rw [tsw (v := 9) (by omega) hw_9]; first | done | rfl))
  by_cases hw_10 : (nI q : Int32).toInt = 10
  · refine lv_tableIn (off := 172) (tgt := 173) hx hb dX10_deskFact_1 (by omega) (by omega) (by rw [hw_10]; rfl) (by decide) ?_
    refine lv_aload_n hx hb dX10_deskFact_173 rfl (lv_at hl 0 rfl) ?_
    refine g_10_2 (S := S) (x := (some (gG S 4 0))) X w h.v10 wF_X10_28 (h.f162) dX10_deskFact_174 ?_
    refine lv_iconst (v := 2) hx hb dX10_deskFact_177 (by decide) ?_
    refine cV (S := S) (nA := 1) (As := [.int 2]) (rest := []) X w hl h.v4 (a_X4_countThatStand G S ea ns nj nm nt nr nc h A hA 2 (by decide)) wY_X4_countThatStand wM_X10_524 wIn_X4_countThatStand wSe_X4_X4_countThatStand wI_X4 (by decide) rfl (by decide +kernel) rfl rfl dX10_deskFact_178 ⟨by decide, by decide⟩ (Nat.le_of_ble_eq_true rfl) (⟨Nat.le_of_ble_eq_true rfl, Nat.le_of_ble_eq_true rfl⟩) (fun v12 S1 H locs hp w => ?_)
    obtain ⟨rfl, rfl⟩ := hp
    exact rI X w rfl dX10_deskFact_181 (by decide) (by decide) (pu_i (by rw [tsw (v := 10) (by omega) hw_10]; first | done | rfl))
  by_cases hw_11 : (nI q : Int32).toInt = 11
  · refine lv_tableIn (off := 181) (tgt := 182) hx hb dX10_deskFact_1 (by omega) (by omega) (by rw [hw_11]; rfl) (by decide) ?_
    refine lv_aload_n hx hb dX10_deskFact_182 rfl (lv_at hl 0 rfl) ?_
    refine g_10_2 (S := S) (x := (some (gG S 4 0))) X w h.v10 wF_X10_28 (h.f162) dX10_deskFact_183 ?_
    refine lv_iconst (v := 3) hx hb dX10_deskFact_186 (by decide) ?_
    refine cV (S := S) (nA := 1) (As := [.int 3]) (rest := []) X w hl h.v4 (a_X4_countThatStand G S ea ns nj nm nt nr nc h A hA 3 (by decide)) wY_X4_countThatStand wM_X10_524 wIn_X4_countThatStand wSe_X4_X4_countThatStand wI_X4 (by decide) rfl (by decide +kernel) rfl rfl dX10_deskFact_187 ⟨by decide, by decide⟩ (Nat.le_of_ble_eq_true rfl) (⟨Nat.le_of_ble_eq_true rfl, Nat.le_of_ble_eq_true rfl⟩) (fun v13 S1 H locs hp w => ?_)
    obtain ⟨rfl, rfl⟩ := hp
    exact rI X w rfl dX10_deskFact_190 (by decide) (by decide) (pu_i (by rw [tsw (v := 11) (by omega) hw_11]; first | done | rfl))
  by_cases hw_12 : (nI q : Int32).toInt = 12
  · refine lv_tableIn (off := 190) (tgt := 191) hx hb dX10_deskFact_1 (by omega) (by omega) (by rw [hw_12]; rfl) (by decide) ?_
    refine lv_aload_n hx hb dX10_deskFact_191 rfl (lv_at hl 0 rfl) ?_
    refine g_10_2 (S := S) (x := (some (gG S 4 0))) X w h.v10 wF_X10_28 (h.f162) dX10_deskFact_192 ?_
    refine lv_iconst (v := 4) hx hb dX10_deskFact_195 (by decide) ?_
    refine cV (S := S) (nA := 1) (As := [.int 4]) (rest := []) X w hl h.v4 (a_X4_countThatStand G S ea ns nj nm nt nr nc h A hA 4 (by decide)) wY_X4_countThatStand wM_X10_524 wIn_X4_countThatStand wSe_X4_X4_countThatStand wI_X4 (by decide) rfl (by decide +kernel) rfl rfl dX10_deskFact_196 ⟨by decide, by decide⟩ (Nat.le_of_ble_eq_true rfl) (⟨Nat.le_of_ble_eq_true rfl, Nat.le_of_ble_eq_true rfl⟩) (fun v14 S1 H locs hp w => ?_)
    obtain ⟨rfl, rfl⟩ := hp
    exact rI X w rfl dX10_deskFact_199 (by decide) (by decide) (pu_i (by rw [tsw (v := 12) (by omega) hw_12]; first | done | rfl))
  by_cases hw_13 : (nI q : Int32).toInt = 13
  · refine lv_tableIn (off := 199) (tgt := 200) hx hb dX10_deskFact_1 (by omega) (by omega) (by rw [hw_13]; rfl) (by decide) ?_
    refine lv_aload_n hx hb dX10_deskFact_200 rfl (lv_at hl 0 rfl) ?_
    refine g_10_2 (S := S) (x := (some (gG S 4 0))) X w h.v10 wF_X10_28 (h.f162) dX10_deskFact_201 ?_
    refine g_4_5 (S := S) (x := (mI A 258 0)) X w h.v4 wF_X10_437 (hA.wi) dX10_deskFact_204 ?_
    exact rI X w rfl dX10_deskFact_207 (by decide) (by decide) (pu_i (by rw [tsw (v := 13) (by omega) hw_13]; first | done | rfl))
  by_cases hw_14 : (nI q : Int32).toInt = 14
  · refine lv_tableIn (off := 207) (tgt := 208) hx hb dX10_deskFact_1 (by omega) (by omega) (by rw [hw_14]; rfl) (by decide) ?_
    refine lv_aload_n hx hb dX10_deskFact_208 rfl (lv_at hl 0 rfl) ?_
    refine g_10_2 (S := S) (x := (some (gG S 4 0))) X w h.v10 wF_X10_28 (h.f162) dX10_deskFact_209 ?_
    refine g_4_2 (S := S) (x := (some (gG S 17 5))) X w h.v4 wF_X10_527 (h.f66) dX10_deskFact_212 ?_
    refine cV (S := S) (nA := 0) (As := []) (rest := []) X w hl h.l_co.1 (m_size G S ea 5 nc h.l_co) wY_Jx4a65c_size_8abf5 wM_X10_66 wIn_Jx4a65c_size_8abf5 wSe_Jx4a65c_Jx4a65c_size_8abf5 wI_Jx4a65c (by decide) rfl (by decide +kernel) rfl rfl dX10_deskFact_215 ⟨by decide, by decide⟩ (Nat.le_of_ble_eq_true rfl) (⟨Nat.le_of_ble_eq_true rfl, Nat.le_of_ble_eq_true rfl⟩) (fun v15 S1 H locs hp w => ?_)
    obtain ⟨rfl, rfl⟩ := hp
    refine lv_aload_n hx hb dX10_deskFact_218 rfl (lv_at hl 0 rfl) ?_
    refine g_10_2 (S := S) (x := (some (gG S 4 0))) X w h.v10 wF_X10_28 (h.f162) dX10_deskFact_219 ?_
    refine g_4_3 (S := S) (x := (mI S 67 0)) X w h.v4 wF_X10_530 (rfl) dX10_deskFact_222 ?_
    refine lv_isub hx hb dX10_deskFact_225 ?_
    refine lv_topi (fun z16 ez16 => ?_)
    obtain rfl : z16 = (nI (qN A)) := ez16.trans (desk_14 hA h.b_co)
    exact rI X w rfl dX10_deskFact_226 (by decide) (by decide) (pu_i (by rw [tsw (v := 14) (by omega) hw_14]; first | done | rfl))
  by_cases hw_15 : (nI q : Int32).toInt = 15
  · refine lv_tableIn (off := 226) (tgt := 227) hx hb dX10_deskFact_1 (by omega) (by omega) (by rw [hw_15]; rfl) (by decide) ?_
    refine lv_aload_n hx hb dX10_deskFact_227 rfl (lv_at hl 0 rfl) ?_
    refine g_10_2 (S := S) (x := (some (gG S 4 0))) X w h.v10 wF_X10_28 (h.f162) dX10_deskFact_228 ?_
    refine g_4_3 (S := S) (x := (rCnt (dkP A) nt)) X w h.v4 wF_X10_530 (desk_15 hA hds) dX10_deskFact_231 ?_
    exact rI X w rfl dX10_deskFact_234 (by decide) (by decide) (pu_i (by rw [tsw (v := 15) (by omega) hw_15]; first | done | rfl))
  by_cases hw_16 : (nI q : Int32).toInt = 16
  · refine lv_tableIn (off := 234) (tgt := 235) hx hb dX10_deskFact_1 (by omega) (by omega) (by rw [hw_16]; rfl) (by decide) ?_
    refine lv_aload_n hx hb dX10_deskFact_235 rfl (lv_at hl 0 rfl) ?_
    refine g_10_2 (S := S) (x := (some (gG S 4 0))) X w h.v10 wF_X10_28 (h.f162) dX10_deskFact_236 ?_
    refine g_4_1 (S := S) (x := (some (gG S 17 4))) X w h.v4 wF_X10_207 (h.f65) dX10_deskFact_239 ?_
    refine cV (S := S) (nA := 0) (As := []) (rest := []) X w hl h.l_re.1 (m_size G S ea 4 nr h.l_re) wY_Jx4a65c_size_8abf5 wM_X10_66 wIn_Jx4a65c_size_8abf5 wSe_Jx4a65c_Jx4a65c_size_8abf5 wI_Jx4a65c (by decide) rfl (by decide +kernel) rfl rfl dX10_deskFact_242 ⟨by decide, by decide⟩ (Nat.le_of_ble_eq_true rfl) (⟨Nat.le_of_ble_eq_true rfl, Nat.le_of_ble_eq_true rfl⟩) (fun v17 S1 H locs hp w => ?_)
    obtain ⟨rfl, rfl⟩ := hp
    exact rI X w rfl dX10_deskFact_245 (by decide) (by decide) (pu_i (by rw [tsw (v := 16) (by omega) hw_16]; first | done | rfl))
  by_cases hw_17 : (nI q : Int32).toInt = 17
  · refine lv_tableIn (off := 245) (tgt := 246) hx hb dX10_deskFact_1 (by omega) (by omega) (by rw [hw_17]; rfl) (by decide) ?_
    refine lv_aload_n hx hb dX10_deskFact_246 rfl (lv_at hl 0 rfl) ?_
    refine g_10_2 (S := S) (x := (some (gG S 4 0))) X w h.v10 wF_X10_28 (h.f162) dX10_deskFact_247 ?_
    refine g_4_6 (S := S) (x := (mI A 259 0)) X w h.v4 wF_X10_234 (hA.rc.2.2.2.2.1) dX10_deskFact_250 ?_
    exact rI X w rfl dX10_deskFact_253 (by decide) (by decide) (pu_i (by rw [tsw (v := 17) (by omega) hw_17]; first | done | rfl))
  refine lv_tableOut (tgt := 254) hx hb dX10_deskFact_1 (by omega) (by decide) ?_
  have h8 : q = 18 := by
    have n0 : ¬ q = 0 := fun z => hw_0 (by rw [z]; decide)
    have n1 : ¬ q = 1 := fun z => hw_1 (by rw [z]; decide)
    have n2 : ¬ q = 2 := fun z => hw_2 (by rw [z]; decide)
    have n3 : ¬ q = 3 := fun z => hw_3 (by rw [z]; decide)
    have n4 : ¬ q = 4 := fun z => hw_4 (by rw [z]; decide)
    have n5 : ¬ q = 5 := fun z => hw_5 (by rw [z]; decide)
    have n6 : ¬ q = 6 := fun z => hw_6 (by rw [z]; decide)
    have n7 : ¬ q = 7 := fun z => hw_7 (by rw [z]; decide)
    have n8 : ¬ q = 8 := fun z => hw_8 (by rw [z]; decide)
    have n9 : ¬ q = 9 := fun z => hw_9 (by rw [z]; decide)
    have n10 : ¬ q = 10 := fun z => hw_10 (by rw [z]; decide)
    have n11 : ¬ q = 11 := fun z => hw_11 (by rw [z]; decide)
    have n12 : ¬ q = 12 := fun z => hw_12 (by rw [z]; decide)
    have n13 : ¬ q = 13 := fun z => hw_13 (by rw [z]; decide)
    have n14 : ¬ q = 14 := fun z => hw_14 (by rw [z]; decide)
    have n15 : ¬ q = 15 := fun z => hw_15 (by rw [z]; decide)
    have n16 : ¬ q = 16 := fun z => hw_16 (by rw [z]; decide)
    have n17 : ¬ q = 17 := fun z => hw_17 (by rw [z]; decide)
    omega
  refine lv_aload_n hx hb dX10_deskFact_254 rfl (lv_at hl 0 rfl) ?_
  refine g_10_5 (S := S) (x := (mI S 165 0)) X w h.v10 wF_X10_45 (rfl) dX10_deskFact_255 ?_
  exact rI X w rfl dX10_deskFact_258 (by decide) (by decide) (pu_i (by rw [h8]; first | done | rfl))

abbrev rm_a_X10_desk : Room := { frames := 6, cells := 1, slots := 6, locals := 108 }
set_option maxHeartbeats 4000000 in
set_option maxRecDepth 100000 in
theorem a_X10_desk {s0 : State} {l : Launch} {D : va_G} {cy : Nat → ClassId} (G : Gl s0 l D cy) (S : HS) (ea ns nj nm nt nr nc : Nat) (h : CI ea S ns nj nm nt nr nc) (A : HS) (hA : RK S A ns nj nm nt nr nc) (g0 : Nat) (hg : mI S 164 0 = nI g0) (hg7 : g0 ≤ 720) (hA7 : mI A 257 0 = nI g0) (hds : DS A nt) (a : Int32) : CtX s0 l D cy yX10_desk cX10_desk 2 (some .int) rm_a_X10_desk S [.ref (gG S 10 0), .int a] (fun v S' => ∃ q, q < 19 ∧ a = nI q ∧ some (.int (rDesk A ns nj nm nr nt (mI S 165 0) q)) = v ∧ S = S') (fun E S' => S = S' ∧ E = "java/lang/IllegalArgumentException" ∧ sOut a 0 18 = true) := by
  refine proX "CavershamShift" G rfl rfl (Nat.le_of_ble_eq_true rfl) (fun p e s m below meth c ls X w hno hl => ?_)
  have hx := X.1
  have hb := X.2.1
  have hown := X.2.2.2.1
  have hts := X.2.2.2.2.1
  have hl : lv_has ls 2 [(0, .ref (gG S 10 0)), (1, .int a)] := hl
  refine lv_iload_n hx hb dX10_desk_0 rfl (lv_at hl 1 rfl) ?_
  refine lv_iconst (v := 0) hx hb dX10_desk_1 (by decide) ?_
  refine lv_bipush (v := 18) hx hb dX10_desk_2 (by decide) ?_
  refine cS (S := S) (nA := 3) (As := [.int a, .int 0, .int 18]) (rest := []) X w hl (m_X10_isOutside G S a 0 18) wY_X10_isOutside wM_X10_48 wSt_X10_isOutside wI_X10 (by decide +kernel) rfl rfl dX10_desk_4 ⟨by decide, by decide⟩ (Nat.le_of_ble_eq_true rfl) (⟨Nat.le_of_ble_eq_true rfl, Nat.le_of_ble_eq_true rfl⟩) (fun v1 S1 H locs hp w => ?_)
  obtain ⟨rfl, rfl⟩ := hp
  refine lv_if_eq (tgt := 20) hx hb dX10_desk_7 (by decide) (fun hyA => ?_) (fun hyA => ?_)
  · obtain ⟨q, hq, eq9⟩ := out_in (n := 19) (by decide) (b2i_f hyA)
    obtain rfl : a = nI q := eq9
    refine lv_aload_n hx hb dX10_desk_20 rfl (lv_at hl 0 rfl) ?_
    refine lv_iload_n hx hb dX10_desk_21 rfl (lv_at hl 1 rfl) ?_
    refine cV (S := S) (nA := 1) (As := [.int (nI q)]) (rest := []) X w hl h.v10 (a_X10_deskFact G S ea ns nj nm nt nr nc h A hA g0 (by assumption) (by assumption) (by assumption) (hds) q hq) wY_X10_deskFact wM_X10_308 wIn_X10_deskFact wSe_X10_X10_deskFact wI_X10 (by decide) rfl (by decide +kernel) rfl rfl dX10_desk_22 ⟨by decide, by decide⟩ (Nat.le_of_ble_eq_true rfl) (⟨Nat.le_of_ble_eq_true rfl, Nat.le_of_ble_eq_true rfl⟩) (fun v2 S1 H locs hp w => ?_)
    obtain ⟨rfl, rfl⟩ := hp
    exact rXr (rI X w rfl dX10_desk_25 (by decide) (by decide) (⟨q, hq, rfl, rfl, rfl⟩))
  · exact rT (S := S) (names := ["java/lang/RuntimeException", "java/lang/Exception"]) X w hl hno (by decide) (by decide) wC_X10_52 wI_java_lang_IllegalArgumentException wS9_X10_244 at_IAE go_IAE ⟨by decide, by decide⟩ dX10_desk_10 dX10_desk_13 dX10_desk_14 dX10_desk_16 dX10_desk_19 (by decide) (by decide) (Nat.le_of_ble_eq_true rfl) (Nat.le_of_ble_eq_true rfl) (Nat.le_of_ble_eq_true rfl) (Nat.le_of_ble_eq_true rfl) (⟨rfl, rfl, b2i_t hyA⟩)

