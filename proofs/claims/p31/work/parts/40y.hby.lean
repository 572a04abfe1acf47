def rS (c : Nat) : Int32 := if c < 40 then nI (c / 5) else -1
def rM (c : Nat) : Int32 := if c < 40 then nI (c % 5) else -1
theorem rC_no {c : Nat} (h : rC c = -1) : ¬ c < 40 := fun z => by
  rw [show rC c = nI c from if_pos z] at h
  exact nI_neg1 (by omega) h
theorem rC_yes {c : Nat} (h : ¬ rC c = -1) : c < 40 := Decidable.byContradiction (fun z => h (if_neg z))

abbrev rm_e_X2_greatestSum : Room := { frames := 6, cells := 0, slots := 0, locals := 138 }
set_option maxHeartbeats 4000000 in
set_option maxRecDepth 100000 in
theorem e_X2_greatestSum {s0 : State} {l : Launch} {D : va_G} {cy : Nat → ClassId} (G : Gl s0 l D cy) (S : HS) (ea ns nj nm nt nr nc : Nat) (h : CI ea S ns nj nm nt nr nc) (A : HS) (hA : RK S A ns nj nm nt nr nc) (a : Int32) (a0 b0 c0 : Nat → Int32) : Ctr s0 l D cy yX2_greatestSum cX2_greatestSum 2 (some .int) rm_e_X2_greatestSum (scr S a0 b0 c0) [.ref (gG S 2 0), .int a] (fun v S' => some (.int (nI (bG (bQ A ns nj nm a) 3 nF nF))) = v ∧ ∃ f g, S' = scr S f g c0) := by
  refine pro "CavershamShift$Matching" G rfl rfl (Nat.le_of_ble_eq_true rfl) (fun p e s m below meth c ls X w hnm hl => ?_)
  have hx := X.1
  have hb := X.2.1
  have hown := X.2.2.2.1
  have hts := X.2.2.2.2.1
  have hl : lv_has ls 2 [(0, .ref (gG S 2 0)), (1, .int a)] := hl
  have h0 := h
  have hA0 := hA
  have h : CI ea (scr S a0 b0 c0) ns nj nm nt nr nc := h0.scr _ _ _
  have hA : RK (scr S a0 b0 c0) A ns nj nm nt nr nc := hA0.scr
  refine lv_aload_n hx hb dX2_greatestSum_0 rfl (lv_at hl 0 rfl) ?_
  refine lv_iload_n hx hb dX2_greatestSum_1 rfl (lv_at hl 1 rfl) ?_
  refine cV (S := (scr S a0 b0 c0)) (nA := 1) (As := [.int a]) (rest := []) X w hl h.v2 (e_X2_readQualities G S ea ns nj nm nt nr nc h0 A hA0 a a0 b0 c0) wY_X2_readQualities wM_X2_29 wIn_X2_readQualities wSe_X2_X2_readQualities wI_X2 (by decide) rfl (by decide +kernel) rfl rfl dX2_greatestSum_2 ⟨by decide, by decide⟩ (Nat.le_of_ble_eq_true rfl) (⟨Nat.le_of_ble_eq_true rfl, Nat.le_of_ble_eq_true rfl⟩) (fun v2 S1 H locs hp w => ?_)
  obtain ⟨rfl, q1, hqa, rfl⟩ := hp
  have h : CI ea (scr S q1 b0 c0) ns nj nm nt nr nc := h0.scr _ _ _
  have hA : RK (scr S q1 b0 c0) A ns nj nm nt nr nc := hA0.scr
  refine lv_aload_n hx hb dX2_greatestSum_5 rfl (lv_at hl 0 rfl) ?_
  refine lv_iconst (v := 3) hx hb dX2_greatestSum_6 (by decide) ?_
  refine lv_iconst (v := 0) hx hb dX2_greatestSum_7 (by decide) ?_
  refine lv_iconst (v := 0) hx hb dX2_greatestSum_8 (by decide) ?_
  refine cV (S := (scr S q1 b0 c0)) (nA := 3) (As := [.int 3, .int 0, .int 0]) (rest := []) X w hl h.v2 (e_X2_greatestOf G S ea ns nj nm nt nr nc h0 A hA0 3 0 0 (by decide) (by decide) (by decide) a q1 b0 c0 hqa) wY_X2_greatestOf wM_X2_33 wIn_X2_greatestOf wSe_X2_X2_greatestOf wI_X2 (by decide) rfl (by decide +kernel) rfl rfl dX2_greatestSum_9 ⟨by decide, by decide⟩ (Nat.le_of_ble_eq_true rfl) (⟨Nat.le_of_ble_eq_true rfl, Nat.le_of_ble_eq_true rfl⟩) (fun v4 S1 H locs hp w => ?_)
  obtain ⟨rfl, q3, rfl⟩ := hp
  have h : CI ea (scr S q1 q3 c0) ns nj nm nt nr nc := h0.scr _ _ _
  have hA : RK (scr S q1 q3 c0) A ns nj nm nt nr nc := hA0.scr
  refine lv_topi (fun z5 ez5 => ?_)
  obtain rfl : z5 = (nI (bG (bQ A ns nj nm a) 3 nF nF)) := ez5.trans (by rw [tB_0])
  exact rI X w rfl dX2_greatestSum_12 (by decide) (by decide) (⟨rfl, _, _, rfl⟩)

abbrev rm_e_X2_pairAtSet : Room := { frames := 1, cells := 0, slots := 0, locals := 22 }
set_option maxHeartbeats 4000000 in
set_option maxRecDepth 100000 in
theorem e_X2_pairAtSet {s0 : State} {l : Launch} {D : va_G} {cy : Nat → ClassId} (G : Gl s0 l D cy) (S : HS) (ea ns nj nm nt nr nc : Nat) (h : CI ea S ns nj nm nt nr nc) (A : HS) (hA : RK S A ns nj nm nt nr nc) (j : Nat) (hj : j < 3) (a0 b0 c0 : Nat → Int32) : Ctr s0 l D cy yX2_pairAtSet cX2_pairAtSet 2 (some .int) rm_e_X2_pairAtSet (scr S a0 b0 c0) [.ref (gG S 2 0), .int (nI j)] (PU (scr S a0 b0 c0) (some (.int (c0 j)))) := by
  refine pro "CavershamShift$Matching" G rfl rfl (Nat.le_of_ble_eq_true rfl) (fun p e s m below meth c ls X w hnm hl => ?_)
  have hx := X.1
  have hb := X.2.1
  have hown := X.2.2.2.1
  have hts := X.2.2.2.2.1
  have hl : lv_has ls 2 [(0, .ref (gG S 2 0)), (1, .int (nI j))] := hl
  have h0 := h
  have hA0 := hA
  have h : CI ea (scr S a0 b0 c0) ns nj nm nt nr nc := h0.scr _ _ _
  have hA : RK (scr S a0 b0 c0) A ns nj nm nt nr nc := hA0.scr
  refine lv_iload_n hx hb dX2_pairAtSet_0 rfl (lv_at hl 1 rfl) ?_
  refine lv_iconst (v := 0) hx hb dX2_pairAtSet_1 (by decide) ?_
  refine lv_iconst (v := 2) hx hb dX2_pairAtSet_2 (by decide) ?_
  refine cSN (S := (scr S a0 b0 c0)) (nA := 3) (As := [.int (nI j), .int 0, .int 2]) (rest := []) X w hl (m_X10_isOutside G (scr S a0 b0 c0) (nI j) 0 2) wY_X10_isOutside wMN_X2_41 wSt_X10_isOutside wI_X10 (by decide +kernel) rfl rfl dX2_pairAtSet_3 ⟨by decide, by decide⟩ (Nat.le_of_ble_eq_true rfl) (⟨Nat.le_of_ble_eq_true rfl, Nat.le_of_ble_eq_true rfl⟩) (fun v1 S1 H locs hp w => ?_)
  obtain ⟨rfl, rfl⟩ := hp
  refine lv_if_eq (tgt := 13) hx hb dX2_pairAtSet_6 (by decide) (fun hc6 => ?_) (fun hc6 => ?_)
  · refine lv_aload_n hx hb dX2_pairAtSet_13 rfl (lv_at hl 0 rfl) ?_
    refine g_2_4 (S := (scr S a0 b0 c0)) (x := (some (gG (scr S a0 b0 c0) 32 4))) X w h.v2 wF_X2_18 (h.f36) dX2_pairAtSet_14 ?_
    refine lv_iload_n hx hb dX2_pairAtSet_17 rfl (lv_at hl 1 rfl) ?_
    refine aLdI (S := (scr S a0 b0 c0)) (t := 32) (v := (c0 j)) X w h.a4.1 (by decide) rfl rfl (by rw [h.a4.2]; exact nI_vp hj (by decide)) (by rw [mA_scr4, nI_clamp (by omega)]) dX2_pairAtSet_18 ?_
    exact rI X w rfl dX2_pairAtSet_19 (by decide) (by decide) (pu_i rfl)
  · exact absurd (b2i_t hc6) (by rw [show sOut (nI j) 0 2 = false from so_jn (n := 3) hj (by decide)]; decide)

abbrev rm_e_X2_stationAtSet : Room := { frames := 2, cells := 0, slots := 0, locals := 43 }
set_option maxHeartbeats 4000000 in
set_option maxRecDepth 100000 in
theorem e_X2_stationAtSet {s0 : State} {l : Launch} {D : va_G} {cy : Nat → ClassId} (G : Gl s0 l D cy) (S : HS) (ea ns nj nm nt nr nc : Nat) (h : CI ea S ns nj nm nt nr nc) (A : HS) (hA : RK S A ns nj nm nt nr nc) (j cq : Nat) (hj : j < 3) (a0 b0 c0 : Nat → Int32) (hc0 : c0 j = rC cq) : Ctr s0 l D cy yX2_stationAtSet cX2_stationAtSet 3 (some .int) rm_e_X2_stationAtSet (scr S a0 b0 c0) [.ref (gG S 2 0), .int (nI j)] (PU (scr S a0 b0 c0) (some (.int (rS cq)))) := by
  refine pro "CavershamShift$Matching" G rfl rfl (Nat.le_of_ble_eq_true rfl) (fun p e s m below meth c ls X w hnm hl => ?_)
  have hx := X.1
  have hb := X.2.1
  have hown := X.2.2.2.1
  have hts := X.2.2.2.2.1
  have hl : lv_has ls 3 [(0, .ref (gG S 2 0)), (1, .int (nI j))] := hl
  have h0 := h
  have hA0 := hA
  have h : CI ea (scr S a0 b0 c0) ns nj nm nt nr nc := h0.scr _ _ _
  have hA : RK (scr S a0 b0 c0) A ns nj nm nt nr nc := hA0.scr
  refine lv_aload_n hx hb dX2_stationAtSet_0 rfl (lv_at hl 0 rfl) ?_
  refine lv_iload_n hx hb dX2_stationAtSet_1 rfl (lv_at hl 1 rfl) ?_
  refine cV (S := (scr S a0 b0 c0)) (nA := 1) (As := [.int (nI j)]) (rest := []) X w hl h.v2 (e_X2_pairAtSet G S ea ns nj nm nt nr nc h0 A hA0 j hj a0 b0 c0) wY_X2_pairAtSet wM_X2_45 wIn_X2_pairAtSet wSe_X2_X2_pairAtSet wI_X2 (by decide) rfl (by decide +kernel) rfl rfl dX2_stationAtSet_2 ⟨by decide, by decide⟩ (Nat.le_of_ble_eq_true rfl) (⟨Nat.le_of_ble_eq_true rfl, Nat.le_of_ble_eq_true rfl⟩) (fun v2 S1 H locs hp w => ?_)
  obtain ⟨rfl, rfl⟩ := hp
  refine lv_topi (fun z3 ez3 => ?_)
  obtain rfl : z3 = (rC cq) := ez3.trans (hc0)
  refine lv_istore_n (lv' := [(2, .int (rC cq)), (0, .ref (gG S 2 0)), (1, .int (nI j))]) hx hb dX2_stationAtSet_5 rfl hl (by decide) rfl (fun ls hl => ?_)
  refine lv_iload_n hx hb dX2_stationAtSet_6 rfl (lv_at hl 0 rfl) ?_
  refine lv_iconst (v := (-1)) hx hb dX2_stationAtSet_7 (by decide) ?_
  refine lv_icmp_ne (tgt := 15) hx hb dX2_stationAtSet_8 (by decide) (fun hc8 => ?_) (fun hc8 => ?_)
  · have hcl := rC_yes hc8
    have hrc : rC cq = nI cq := if_pos hcl
    refine lv_iload_n hx hb dX2_stationAtSet_15 rfl (lv_at hl 0 rfl) ?_
    refine lv_iconst (v := 5) hx hb dX2_stationAtSet_16 (by decide) ?_
    refine lv_idiv hx hb dX2_stationAtSet_17 (by decide) ?_
    refine lv_topi (fun z4 ez4 => ?_)
    obtain rfl : z4 = (nI (cq / 5)) := ez4.trans (by rw [hrc]; exact pk_d5 hcl)
    exact rI X w rfl dX2_stationAtSet_18 (by decide) (by decide) (pu_i (by first | exact (if_pos hcl).symm | exact (if_neg (rC_no hc8)).symm | exact if_pos hcl | exact if_neg (rC_no hc8)))
  · refine lv_iconst (v := (-1)) hx hb dX2_stationAtSet_11 (by decide) ?_
    refine lv_goto (tgt := 18) hx hb dX2_stationAtSet_12 (by decide) ?_
    exact rI X w rfl dX2_stationAtSet_18 (by decide) (by decide) (pu_i (by first | exact (if_pos hcl).symm | exact (if_neg (rC_no hc8)).symm | exact if_pos hcl | exact if_neg (rC_no hc8)))

abbrev rm_e_X2_monitorAtSet : Room := { frames := 2, cells := 0, slots := 0, locals := 43 }
set_option maxHeartbeats 4000000 in
set_option maxRecDepth 100000 in
theorem e_X2_monitorAtSet {s0 : State} {l : Launch} {D : va_G} {cy : Nat → ClassId} (G : Gl s0 l D cy) (S : HS) (ea ns nj nm nt nr nc : Nat) (h : CI ea S ns nj nm nt nr nc) (A : HS) (hA : RK S A ns nj nm nt nr nc) (j cq : Nat) (hj : j < 3) (a0 b0 c0 : Nat → Int32) (hc0 : c0 j = rC cq) : Ctr s0 l D cy yX2_monitorAtSet cX2_monitorAtSet 3 (some .int) rm_e_X2_monitorAtSet (scr S a0 b0 c0) [.ref (gG S 2 0), .int (nI j)] (PU (scr S a0 b0 c0) (some (.int (rM cq)))) := by
  refine pro "CavershamShift$Matching" G rfl rfl (Nat.le_of_ble_eq_true rfl) (fun p e s m below meth c ls X w hnm hl => ?_)
  have hx := X.1
  have hb := X.2.1
  have hown := X.2.2.2.1
  have hts := X.2.2.2.2.1
  have hl : lv_has ls 3 [(0, .ref (gG S 2 0)), (1, .int (nI j))] := hl
  have h0 := h
  have hA0 := hA
  have h : CI ea (scr S a0 b0 c0) ns nj nm nt nr nc := h0.scr _ _ _
  have hA : RK (scr S a0 b0 c0) A ns nj nm nt nr nc := hA0.scr
  refine lv_aload_n hx hb dX2_monitorAtSet_0 rfl (lv_at hl 0 rfl) ?_
  refine lv_iload_n hx hb dX2_monitorAtSet_1 rfl (lv_at hl 1 rfl) ?_
  refine cV (S := (scr S a0 b0 c0)) (nA := 1) (As := [.int (nI j)]) (rest := []) X w hl h.v2 (e_X2_pairAtSet G S ea ns nj nm nt nr nc h0 A hA0 j hj a0 b0 c0) wY_X2_pairAtSet wM_X2_45 wIn_X2_pairAtSet wSe_X2_X2_pairAtSet wI_X2 (by decide) rfl (by decide +kernel) rfl rfl dX2_monitorAtSet_2 ⟨by decide, by decide⟩ (Nat.le_of_ble_eq_true rfl) (⟨Nat.le_of_ble_eq_true rfl, Nat.le_of_ble_eq_true rfl⟩) (fun v2 S1 H locs hp w => ?_)
  obtain ⟨rfl, rfl⟩ := hp
  refine lv_topi (fun z3 ez3 => ?_)
  obtain rfl : z3 = (rC cq) := ez3.trans (hc0)
  refine lv_istore_n (lv' := [(2, .int (rC cq)), (0, .ref (gG S 2 0)), (1, .int (nI j))]) hx hb dX2_monitorAtSet_5 rfl hl (by decide) rfl (fun ls hl => ?_)
  refine lv_iload_n hx hb dX2_monitorAtSet_6 rfl (lv_at hl 0 rfl) ?_
  refine lv_iconst (v := (-1)) hx hb dX2_monitorAtSet_7 (by decide) ?_
  refine lv_icmp_ne (tgt := 15) hx hb dX2_monitorAtSet_8 (by decide) (fun hc8 => ?_) (fun hc8 => ?_)
  · have hcl := rC_yes hc8
    have hrc : rC cq = nI cq := if_pos hcl
    refine lv_iload_n hx hb dX2_monitorAtSet_15 rfl (lv_at hl 0 rfl) ?_
    refine lv_iconst (v := 5) hx hb dX2_monitorAtSet_16 (by decide) ?_
    refine lv_irem hx hb dX2_monitorAtSet_17 (by decide) ?_
    refine lv_topi (fun z4 ez4 => ?_)
    obtain rfl : z4 = (nI (cq % 5)) := ez4.trans (by rw [hrc]; exact pk_r5 hcl)
    exact rI X w rfl dX2_monitorAtSet_18 (by decide) (by decide) (pu_i (by first | exact (if_pos hcl).symm | exact (if_neg (rC_no hc8)).symm | exact if_pos hcl | exact if_neg (rC_no hc8)))
  · refine lv_iconst (v := (-1)) hx hb dX2_monitorAtSet_11 (by decide) ?_
    refine lv_goto (tgt := 18) hx hb dX2_monitorAtSet_12 (by decide) ?_
    exact rI X w rfl dX2_monitorAtSet_18 (by decide) (by decide) (pu_i (by first | exact (if_pos hcl).symm | exact (if_neg (rC_no hc8)).symm | exact if_pos hcl | exact if_neg (rC_no hc8)))

abbrev rm_e_X10_best : Room := { frames := 7, cells := 1, slots := 6, locals := 159 }
set_option maxHeartbeats 4000000 in
set_option maxRecDepth 100000 in
theorem e_X10_best {s0 : State} {l : Launch} {D : va_G} {cy : Nat → ClassId} (G : Gl s0 l D cy) (S : HS) (ea ns nj nm nt nr nc : Nat) (h : CI ea S ns nj nm nt nr nc) (A : HS) (hA : RK S A ns nj nm nt nr nc) (a : Int32) (a0 b0 c0 : Nat → Int32) : CtX s0 l D cy yX10_best cX10_best 2 (some .int) rm_e_X10_best (scr S a0 b0 c0) [.ref (gG S 10 0), .int a] (fun v S' => sOut a 0 23 = false ∧ some (.int (nI (bG (bQ A ns nj nm a) 3 nF nF))) = v ∧ ∃ f g, S' = scr S f g c0) (fun E S' => scr S a0 b0 c0 = S' ∧ E = "java/lang/IndexOutOfBoundsException" ∧ sOut a 0 23 = true) := by
  refine proX "CavershamShift" G rfl rfl (Nat.le_of_ble_eq_true rfl) (fun p e s m below meth c ls X w hno hl => ?_)
  have hx := X.1
  have hb := X.2.1
  have hown := X.2.2.2.1
  have hts := X.2.2.2.2.1
  have hl : lv_has ls 2 [(0, .ref (gG S 10 0)), (1, .int a)] := hl
  have h0 := h
  have hA0 := hA
  have h : CI ea (scr S a0 b0 c0) ns nj nm nt nr nc := h0.scr _ _ _
  have hA : RK (scr S a0 b0 c0) A ns nj nm nt nr nc := hA0.scr
  refine lv_iload_n hx hb dX10_best_0 rfl (lv_at hl 1 rfl) ?_
  refine lv_iconst (v := 0) hx hb dX10_best_1 (by decide) ?_
  refine lv_bipush (v := 23) hx hb dX10_best_2 (by decide) ?_
  refine cS (S := (scr S a0 b0 c0)) (nA := 3) (As := [.int a, .int 0, .int 23]) (rest := []) X w hl (m_X10_isOutside G (scr S a0 b0 c0) a 0 23) wY_X10_isOutside wM_X10_48 wSt_X10_isOutside wI_X10 (by decide +kernel) rfl rfl dX10_best_4 ⟨by decide, by decide⟩ (Nat.le_of_ble_eq_true rfl) (⟨Nat.le_of_ble_eq_true rfl, Nat.le_of_ble_eq_true rfl⟩) (fun v1 S1 H locs hp w => ?_)
  obtain ⟨rfl, rfl⟩ := hp
  refine lv_if_eq (tgt := 21) hx hb dX10_best_7 (by decide) (fun hyA => ?_) (fun hyA => ?_)
  · refine lv_aload_n hx hb dX10_best_21 rfl (lv_at hl 0 rfl) ?_
    refine g_10_3 (S := (scr S a0 b0 c0)) (x := (some (gG (scr S a0 b0 c0) 2 0))) X w h.v10 wF_X10_37 (h.f163) dX10_best_22 ?_
    refine lv_iload_n hx hb dX10_best_25 rfl (lv_at hl 1 rfl) ?_
    refine cV (S := (scr S a0 b0 c0)) (nA := 1) (As := [.int a]) (rest := []) X w hl h.v2 (e_X2_greatestSum G S ea ns nj nm nt nr nc h0 A hA0 a a0 b0 c0) wY_X2_greatestSum wM_X10_359 wIn_X2_greatestSum wSe_X2_X2_greatestSum wI_X2 (by decide) rfl (by decide +kernel) rfl rfl dX10_best_26 ⟨by decide, by decide⟩ (Nat.le_of_ble_eq_true rfl) (⟨Nat.le_of_ble_eq_true rfl, Nat.le_of_ble_eq_true rfl⟩) (fun v3 S1 H locs hp w => ?_)
    obtain ⟨rfl, q2, gq2, rfl⟩ := hp
    have h : CI ea (scr S q2 gq2 c0) ns nj nm nt nr nc := h0.scr _ _ _
    have hA : RK (scr S q2 gq2 c0) A ns nj nm nt nr nc := hA0.scr
    exact rXr (rI X w rfl dX10_best_29 (by decide) (by decide) (⟨b2i_f hyA, rfl, _, _, rfl⟩))
  · exact rTW (S := (scr S a0 b0 c0)) (names := ["java/lang/RuntimeException", "java/lang/Exception"]) X w hl hno (by decide) (by decide) wC_X10_90 wI_java_lang_IndexOutOfBoundsException wS9_X10_357 at_IOB go_IOB ⟨by decide, by decide⟩ dX10_best_10 dX10_best_13 dX10_best_14 dX10_best_17 dX10_best_20 (by decide) (by decide) (Nat.le_of_ble_eq_true rfl) (Nat.le_of_ble_eq_true rfl) (Nat.le_of_ble_eq_true rfl) (Nat.le_of_ble_eq_true rfl) (⟨rfl, rfl, b2i_t hyA⟩)

abbrev rm_e_X10_bestAt : Room := { frames := 7, cells := 1, slots := 6, locals := 164 }
set_option maxHeartbeats 4000000 in
set_option maxRecDepth 100000 in
theorem e_X10_bestAt {s0 : State} {l : Launch} {D : va_G} {cy : Nat → ClassId} (G : Gl s0 l D cy) (S : HS) (ea ns nj nm nt nr nc : Nat) (h : CI ea S ns nj nm nt nr nc) (A : HS) (hA : RK S A ns nj nm nt nr nc) (a b z : Int32) (a0 b0 c0 : Nat → Int32) : CtX s0 l D cy yX10_bestAt cX10_bestAt 4 (some .int) rm_e_X10_bestAt (scr S a0 b0 c0) [.ref (gG S 10 0), .int a, .int b, .int z] (fun v S' => sOut a 0 23 = false ∧ (∃ j, j < 3 ∧ b = nI j ∧ some (.int (if z = 0 then rS (bCk (bQ A ns nj nm a) j) else rM (bCk (bQ A ns nj nm a) j))) = v) ∧ ∃ f g h9, S' = scr S f g h9) (fun E S' => scr S a0 b0 c0 = S' ∧ E = "java/lang/IndexOutOfBoundsException" ∧ (sOut a 0 23 || sOut b 0 2) = true) := by
  refine proX "CavershamShift" G rfl rfl (Nat.le_of_ble_eq_true rfl) (fun p e s m below meth c ls X w hno hl => ?_)
  have hx := X.1
  have hb := X.2.1
  have hown := X.2.2.2.1
  have hts := X.2.2.2.2.1
  have hl : lv_has ls 4 [(0, .ref (gG S 10 0)), (1, .int a), (2, .int b), (3, .int z)] := hl
  have h0 := h
  have hA0 := hA
  have h : CI ea (scr S a0 b0 c0) ns nj nm nt nr nc := h0.scr _ _ _
  have hA : RK (scr S a0 b0 c0) A ns nj nm nt nr nc := hA0.scr
  refine lv_iload_n hx hb dX10_bestAt_0 rfl (lv_at hl 1 rfl) ?_
  refine lv_iconst (v := 0) hx hb dX10_bestAt_1 (by decide) ?_
  refine lv_bipush (v := 23) hx hb dX10_bestAt_2 (by decide) ?_
  refine cS (S := (scr S a0 b0 c0)) (nA := 3) (As := [.int a, .int 0, .int 23]) (rest := []) X w hl (m_X10_isOutside G (scr S a0 b0 c0) a 0 23) wY_X10_isOutside wM_X10_48 wSt_X10_isOutside wI_X10 (by decide +kernel) rfl rfl dX10_bestAt_4 ⟨by decide, by decide⟩ (Nat.le_of_ble_eq_true rfl) (⟨Nat.le_of_ble_eq_true rfl, Nat.le_of_ble_eq_true rfl⟩) (fun v1 S1 H locs hp w => ?_)
  obtain ⟨rfl, rfl⟩ := hp
  refine lv_if_ne (tgt := 19) hx hb dX10_bestAt_7 (by decide) (fun hyA => ?_) (fun hyA => ?_)
  · exact rT (S := (scr S a0 b0 c0)) (names := ["java/lang/RuntimeException", "java/lang/Exception"]) X w hl hno (by decide) (by decide) wC_X10_90 wI_java_lang_IndexOutOfBoundsException wS9_X10_132 at_IOB go_IOB ⟨by decide, by decide⟩ dX10_bestAt_19 dX10_bestAt_22 dX10_bestAt_23 dX10_bestAt_25 dX10_bestAt_28 (by decide) (by decide) (Nat.le_of_ble_eq_true rfl) (Nat.le_of_ble_eq_true rfl) (Nat.le_of_ble_eq_true rfl) (Nat.le_of_ble_eq_true rfl) (⟨rfl, rfl, by first | (rw [b2i_t hyA]; rfl) | (rw [b2i_t hyB, Bool.or_true])⟩)
  · refine lv_iload_n hx hb dX10_bestAt_10 rfl (lv_at hl 2 rfl) ?_
    refine lv_iconst (v := 0) hx hb dX10_bestAt_11 (by decide) ?_
    refine lv_iconst (v := 2) hx hb dX10_bestAt_12 (by decide) ?_
    refine cS (S := (scr S a0 b0 c0)) (nA := 3) (As := [.int b, .int 0, .int 2]) (rest := []) X w hl (m_X10_isOutside G (scr S a0 b0 c0) b 0 2) wY_X10_isOutside wM_X10_48 wSt_X10_isOutside wI_X10 (by decide +kernel) rfl rfl dX10_bestAt_13 ⟨by decide, by decide⟩ (Nat.le_of_ble_eq_true rfl) (⟨Nat.le_of_ble_eq_true rfl, Nat.le_of_ble_eq_true rfl⟩) (fun v2 S1 H locs hp w => ?_)
    obtain ⟨rfl, rfl⟩ := hp
    refine lv_if_eq (tgt := 29) hx hb dX10_bestAt_16 (by decide) (fun hyB => ?_) (fun hyB => ?_)
    · obtain ⟨j, hj, ej9⟩ := out_in (n := 3) (by decide) (b2i_f hyB)
      obtain rfl : b = nI j := ej9
      refine lv_aload_n hx hb dX10_bestAt_29 rfl (lv_at hl 0 rfl) ?_
      refine g_10_3 (S := (scr S a0 b0 c0)) (x := (some (gG (scr S a0 b0 c0) 2 0))) X w h.v10 wF_X10_37 (h.f163) dX10_bestAt_30 ?_
      refine lv_iload_n hx hb dX10_bestAt_33 rfl (lv_at hl 1 rfl) ?_
      refine cV (S := (scr S a0 b0 c0)) (nA := 1) (As := [.int a]) (rest := []) X w hl h.v2 (e_X2_choose G S ea ns nj nm nt nr nc h0 A hA0 a a0 b0 c0) wY_X2_choose wM_X10_362 wIn_X2_choose wSe_X2_X2_choose wI_X2 (by decide) rfl (by decide +kernel) rfl rfl dX10_bestAt_34 ⟨by decide, by decide⟩ (Nat.le_of_ble_eq_true rfl) (⟨Nat.le_of_ble_eq_true rfl, Nat.le_of_ble_eq_true rfl⟩) (fun v4 S1 H locs hp w => ?_)
      obtain ⟨rfl, fq3, gq3, q3, -, hrow9, rfl⟩ := hp
      have h : CI ea (scr S fq3 gq3 q3) ns nj nm nt nr nc := h0.scr _ _ _
      have hA : RK (scr S fq3 gq3 q3) A ns nj nm nt nr nc := hA0.scr
      refine lv_iload_n hx hb dX10_bestAt_37 rfl (lv_at hl 3 rfl) ?_
      refine lv_if_eq (tgt := 52) hx hb dX10_bestAt_38 (by decide) (fun hz9 => ?_) (fun hz9 => ?_)
      · refine lv_aload_n hx hb dX10_bestAt_52 rfl (lv_at hl 0 rfl) ?_
        refine g_10_3 (S := (scr S fq3 gq3 q3)) (x := (some (gG (scr S fq3 gq3 q3) 2 0))) X w h.v10 wF_X10_37 (h.f163) dX10_bestAt_53 ?_
        refine lv_iload_n hx hb dX10_bestAt_56 rfl (lv_at hl 2 rfl) ?_
        refine cV (S := (scr S fq3 gq3 q3)) (nA := 1) (As := [.int (nI j)]) (rest := []) X w hl h.v2 (e_X2_stationAtSet G S ea ns nj nm nt nr nc h0 A hA0 j (bCk (bQ A ns nj nm a) j) hj fq3 gq3 q3 (hrow9 j hj)) wY_X2_stationAtSet wM_X10_369 wIn_X2_stationAtSet wSe_X2_X2_stationAtSet wI_X2 (by decide) rfl (by decide +kernel) rfl rfl dX10_bestAt_57 ⟨by decide, by decide⟩ (Nat.le_of_ble_eq_true rfl) (⟨Nat.le_of_ble_eq_true rfl, Nat.le_of_ble_eq_true rfl⟩) (fun v6 S1 H locs hp w => ?_)
        obtain ⟨rfl, rfl⟩ := hp
        exact rXr (rI X w rfl dX10_bestAt_60 (by decide) (by decide) (⟨b2i_f hyA, ⟨j, hj, rfl, by first | rw [if_pos hz9] | rw [if_neg hz9]⟩, _, _, _, rfl⟩))
      · refine lv_aload_n hx hb dX10_bestAt_41 rfl (lv_at hl 0 rfl) ?_
        refine g_10_3 (S := (scr S fq3 gq3 q3)) (x := (some (gG (scr S fq3 gq3 q3) 2 0))) X w h.v10 wF_X10_37 (h.f163) dX10_bestAt_42 ?_
        refine lv_iload_n hx hb dX10_bestAt_45 rfl (lv_at hl 2 rfl) ?_
        refine cV (S := (scr S fq3 gq3 q3)) (nA := 1) (As := [.int (nI j)]) (rest := []) X w hl h.v2 (e_X2_monitorAtSet G S ea ns nj nm nt nr nc h0 A hA0 j (bCk (bQ A ns nj nm a) j) hj fq3 gq3 q3 (hrow9 j hj)) wY_X2_monitorAtSet wM_X10_366 wIn_X2_monitorAtSet wSe_X2_X2_monitorAtSet wI_X2 (by decide) rfl (by decide +kernel) rfl rfl dX10_bestAt_46 ⟨by decide, by decide⟩ (Nat.le_of_ble_eq_true rfl) (⟨Nat.le_of_ble_eq_true rfl, Nat.le_of_ble_eq_true rfl⟩) (fun v8 S1 H locs hp w => ?_)
        obtain ⟨rfl, rfl⟩ := hp
        refine lv_goto (tgt := 60) hx hb dX10_bestAt_49 (by decide) ?_
        exact rXr (rI X w rfl dX10_bestAt_60 (by decide) (by decide) (⟨b2i_f hyA, ⟨j, hj, rfl, by first | rw [if_pos hz9] | rw [if_neg hz9]⟩, _, _, _, rfl⟩))
    · exact rT (S := (scr S a0 b0 c0)) (names := ["java/lang/RuntimeException", "java/lang/Exception"]) X w hl hno (by decide) (by decide) wC_X10_90 wI_java_lang_IndexOutOfBoundsException wS9_X10_132 at_IOB go_IOB ⟨by decide, by decide⟩ dX10_bestAt_19 dX10_bestAt_22 dX10_bestAt_23 dX10_bestAt_25 dX10_bestAt_28 (by decide) (by decide) (Nat.le_of_ble_eq_true rfl) (Nat.le_of_ble_eq_true rfl) (Nat.le_of_ble_eq_true rfl) (Nat.le_of_ble_eq_true rfl) (⟨rfl, rfl, by first | (rw [b2i_t hyA]; rfl) | (rw [b2i_t hyB, Bool.or_true])⟩)

theorem q_X10_best {s0 : State} {l : Launch} {D : va_G} {cy : Nat → ClassId} (G : Gl s0 l D cy) (S : HS) (ea ns nj nm nt nr nc : Nat) (h : CI ea S ns nj nm nt nr nc) (A : HS) (hA : RK S A ns nj nm nt nr nc) (a : Int32) : CtX s0 l D cy yX10_best cX10_best 2 (some .int) rm_e_X10_best S [.ref (gG S 10 0), .int a] (fun v S' => sOut a 0 23 = false ∧ some (.int (nI (bG (bQ A ns nj nm a) 3 nF nF))) = v ∧ ∃ f g h9, S' = scr S f g h9) (fun E S' => S = S' ∧ E = "java/lang/IndexOutOfBoundsException" ∧ sOut a 0 23 = true) := by
  have z9 := e_X10_best G S ea ns nj nm nt nr nc h A hA a (mA S 32 2) (mA S 32 3) (mA S 32 4)
  rw [scr_id] at z9
  exact z9.post (fun v S' h9 => by obtain ⟨x1, x2, f, g, x3⟩ := h9; exact ⟨x1, x2, f, g, _, x3⟩) (fun E S' h9 => h9)
theorem q_X10_bestAt {s0 : State} {l : Launch} {D : va_G} {cy : Nat → ClassId} (G : Gl s0 l D cy) (S : HS) (ea ns nj nm nt nr nc : Nat) (h : CI ea S ns nj nm nt nr nc) (A : HS) (hA : RK S A ns nj nm nt nr nc) (a b z : Int32) : CtX s0 l D cy yX10_bestAt cX10_bestAt 4 (some .int) rm_e_X10_bestAt S [.ref (gG S 10 0), .int a, .int b, .int z] (fun v S' => sOut a 0 23 = false ∧ (∃ j, j < 3 ∧ b = nI j ∧ some (.int (if z = 0 then rS (bCk (bQ A ns nj nm a) j) else rM (bCk (bQ A ns nj nm a) j))) = v) ∧ ∃ f g h9, S' = scr S f g h9) (fun E S' => S = S' ∧ E = "java/lang/IndexOutOfBoundsException" ∧ (sOut a 0 23 || sOut b 0 2) = true) := by
  have z9 := e_X10_bestAt G S ea ns nj nm nt nr nc h A hA a b z (mA S 32 2) (mA S 32 3) (mA S 32 4)
  rw [scr_id] at z9
  exact z9.post (fun v S' h9 => h9) (fun E S' h9 => h9)
