theorem dL_law_27 : decode cL_law 27 = .ok (.iload 4, 2) := by decide +kernel
theorem dL_law_29 : decode cL_law 29 = .ok (.aload_n 0, 1) := by decide +kernel
theorem dL_law_30 : decode cL_law 30 = .ok (.arraylength, 1) := by decide +kernel
theorem dL_law_31 : decode cL_law 31 = .ok (.bipush 7, 2) := by decide +kernel
theorem dL_law_33 : decode cL_law 33 = .ok (.isub, 1) := by decide +kernel
theorem dL_law_34 : decode cL_law 34 = .ok (.if_icmp .gt 1557, 3) := by decide +kernel
theorem dL_law_37 : decode cL_law 37 = .ok (.aload_n 0, 1) := by decide +kernel
theorem dL_law_38 : decode cL_law 38 = .ok (.iload 4, 2) := by decide +kernel
theorem dL_law_40 : decode cL_law 40 = .ok (.iaload, 1) := by decide +kernel
theorem dL_law_41 : decode cL_law 41 = .ok (.bipush 63, 2) := by decide +kernel
theorem dL_law_43 : decode cL_law 43 = .ok (.iand, 1) := by decide +kernel
theorem dL_law_44 : decode cL_law 44 = .ok (.tableswitch 1541 0 33 #[152, 242, 282, 322, 362, 390, 454, 544, 584, 624, 676, 704, 732, 745, 785, 825, 865, 933, 985, 1025, 1065, 1105, 1145, 1209, 1237, 1265, 1293, 1321, 1349, 1377, 1474, 1502, 1515, 1528], 152) := by decide +kernel
theorem dL_law_1588 : decode cL_law 1588 = .ok (.goto (-1561), 3) := by decide +kernel

set_option maxHeartbeats 4000000 in
set_option maxRecDepth 100000 in
theorem law_loop {s : State} {l : Launch} {D : va_G} {cy : Nat → ClassId} (G : Gl s l D cy) {p : Program} {e : Env} {m : MethodId} {below : List Frame} {meth : Method} {c : Code} {ret9 : Option FieldType} {b L : Nat} {xs : Nat → Int32} (X : Cx s l D cy p s m #[Value.ref b] meth c cL_law 8 "CavershamShiftLaw" ret9) (hX : va_X b L xs s s.heap) (hbl : b < s.heap.size) {ax am ao : Nat} {Q : State → Prop} (hL9 : L ≤ 3584) (E9 : ∀ (H : Heap) (locs : List Loc) (ls : Array Slot), va_S (A0 s) s.heap H locs → W p l e room_1 s m #[Value.ref b] below meth c H locs 601024 7293034 Q (F0 m 1591 ls [])) :
    ∀ (N k gC : Nat) (cn : Cn) (S : HS) (H : Heap) (locs : List Loc) (ls : Array Slot), L - 7 * k < N → 7 * k ≤ L → LI s S gC cn ax am ao → Wd s D cy S s.heap H locs → lv_has ls 8 [(0, .ref b), (1, .ref ax), (2, .ref am), (3, .ref ao), (4, .int (nI (7 * k)))] → W p l e room_1 s m #[Value.ref b] below meth c H locs (cLw k gC gC) (sLw k gC gC) Q (F0 m 27 ls []) := by
  have hx := X.1
  have hb := X.2.1
  intro N
  induction N with
  | zero => intros; omega
  | succ N ih =>
  intro k gC cn S H locs ls hmu hkL hLI w hl
  refine lv_iload hx hb dL_law_27 (lv_at hl 4 rfl) ?_
  refine lv_aload_n hx hb dL_law_29 rfl (lv_at hl 0 rfl) ?_
  refine va_slen hx hb hX hbl (Nat.not_le.mpr hbl) w.2 dL_law_30 ?_
  refine lv_bipush (v := 7) hx hb dL_law_31 (by decide) ?_
  refine lv_isub hx hb dL_law_33 ?_
  have e7 : (nI L - 7).toInt = (L : Int) - 7 := pk_sub_toInt (a := L) (b := 7) (by omega) (by decide)
  have ek : (nI (7 * k)).toInt = ((7 * k : Nat) : Int) := nI_toInt (by omega)
  refine lv_icmp_gt (tgt := 1591) hx hb dL_law_34 (by decide) (fun hc => ?_) (fun hc => ?_)
  · have g1 := hLI.2.2.2.2.2.1.2
    refine W.widen (k := 601024) (n := 7293034) (by unfold cLw; omega) (by unfold sLw; omega) ?_
    exact E9 H locs ls w.2
  · have hi : 7 * k + 7 ≤ L := by
      have hc2 : ¬ (nI L - 7).toInt < (nI (7 * k)).toInt := fun z => hc (Int32.lt_iff_toInt_lt.mpr z)
      rw [e7, ek] at hc2
      omega
    have hk9 : k ≤ 511 := by omega
    have K9 : ∀ (U : HS) (gC1 : Nat) (cn1 : Cn) (H : Heap) (locs : List Loc) (ls : Array Slot), LI s U gC1 cn1 ax am ao → Wd s D cy U s.heap H locs → lv_has ls 8 [(0, .ref b), (1, .ref ax), (2, .ref am), (3, .ref ao), (4, .int (nI (7 * k)))] → W p l e room_1 s m #[Value.ref b] below meth c H locs (cLw (k + 1) gC1 gC1) (sLw (k + 1) gC1 gC1) Q (F0 m 1585 ls []) := by
      intro U gC1 cn1 H locs ls hLI w hl
      refine lv_iinc (v := nI (7 * (k + 1))) (lv' := [(4, .int (nI (7 * (k + 1)))), (0, .ref b), (1, .ref ax), (2, .ref am), (3, .ref ao)]) hx hb dL_law_1585 hl (k := 4) rfl (by rw [show 7 * (k + 1) = 7 * k + 7 by omega]; exact nI_add (7 * k) 7) (by decide) rfl (fun ls hl => ?_)
      refine lv_goto (tgt := 27) hx hb dL_law_1588 (by decide) ?_
      exact ih (k + 1) gC1 cn1 U H locs ls (by omega) (by omega) hLI w (lv_sub hl [1, 2, 3, 4, 0] rfl)
    refine lv_aload_n hx hb dL_law_37 rfl (lv_at hl 0 rfl) ?_
    refine lv_iload hx hb dL_law_38 (lv_at hl 4 rfl) ?_
    refine va_sld hx hb hX hbl (Nat.not_le.mpr hbl) w.2 (i := nI (7 * k)) (nI_vp (by omega) (by omega)) dL_law_40 ?_
    refine lv_bipush (v := 63) hx hb dL_law_41 (by decide) ?_
    refine lv_iand hx hb dL_law_43 ?_
    refine lv_topi (fun z9 ez9 => ?_)
    clear ez9 hc
    by_cases hw_0 : z9.toInt = 0
    · refine lv_tableIn (off := 152) (tgt := 196) hx hb dL_law_44 (by omega) (by omega) (by rw [hw_0]; rfl) (by decide) ?_
      exact lo_0 G X hX hbl w hl hLI hi hL9 hk9 K9
    by_cases hw_1 : z9.toInt = 1
    · refine lv_tableIn (off := 242) (tgt := 286) hx hb dL_law_44 (by omega) (by omega) (by rw [hw_1]; rfl) (by decide) ?_
      exact lo_1 G X hX hbl w hl hLI hi hL9 hk9 K9
    by_cases hw_2 : z9.toInt = 2
    · refine lv_tableIn (off := 282) (tgt := 326) hx hb dL_law_44 (by omega) (by omega) (by rw [hw_2]; rfl) (by decide) ?_
      exact lo_2 G X hX hbl w hl hLI hi hL9 hk9 K9
    by_cases hw_3 : z9.toInt = 3
    · refine lv_tableIn (off := 322) (tgt := 366) hx hb dL_law_44 (by omega) (by omega) (by rw [hw_3]; rfl) (by decide) ?_
      exact lo_3 G X hX hbl w hl hLI hi hL9 hk9 K9
    by_cases hw_4 : z9.toInt = 4
    · refine lv_tableIn (off := 362) (tgt := 406) hx hb dL_law_44 (by omega) (by omega) (by rw [hw_4]; rfl) (by decide) ?_
      exact lo_4 G X hX hbl w hl hLI hi hL9 hk9 K9
    by_cases hw_5 : z9.toInt = 5
    · refine lv_tableIn (off := 390) (tgt := 434) hx hb dL_law_44 (by omega) (by omega) (by rw [hw_5]; rfl) (by decide) ?_
      exact lo_5 G X hX hbl w hl hLI hi hL9 hk9 K9
    by_cases hw_6 : z9.toInt = 6
    · refine lv_tableIn (off := 454) (tgt := 498) hx hb dL_law_44 (by omega) (by omega) (by rw [hw_6]; rfl) (by decide) ?_
      exact lo_6 G X hX hbl w hl hLI hi hL9 hk9 K9
    by_cases hw_7 : z9.toInt = 7
    · refine lv_tableIn (off := 544) (tgt := 588) hx hb dL_law_44 (by omega) (by omega) (by rw [hw_7]; rfl) (by decide) ?_
      exact lo_7 G X hX hbl w hl hLI hi hL9 hk9 K9
    by_cases hw_8 : z9.toInt = 8
    · refine lv_tableIn (off := 584) (tgt := 628) hx hb dL_law_44 (by omega) (by omega) (by rw [hw_8]; rfl) (by decide) ?_
      exact lo_8 G X hX hbl w hl hLI hi hL9 hk9 K9
    by_cases hw_9 : z9.toInt = 9
    · refine lv_tableIn (off := 624) (tgt := 668) hx hb dL_law_44 (by omega) (by omega) (by rw [hw_9]; rfl) (by decide) ?_
      exact lo_9 G X hX hbl w hl hLI hi hL9 hk9 K9
    by_cases hw_10 : z9.toInt = 10
    · refine lv_tableIn (off := 676) (tgt := 720) hx hb dL_law_44 (by omega) (by omega) (by rw [hw_10]; rfl) (by decide) ?_
      exact lo_10 G X hX hbl w hl hLI hi hL9 hk9 K9
    by_cases hw_11 : z9.toInt = 11
    · refine lv_tableIn (off := 704) (tgt := 748) hx hb dL_law_44 (by omega) (by omega) (by rw [hw_11]; rfl) (by decide) ?_
      exact lo_11 G X hX hbl w hl hLI hi hL9 hk9 K9
    by_cases hw_12 : z9.toInt = 12
    · refine lv_tableIn (off := 732) (tgt := 776) hx hb dL_law_44 (by omega) (by omega) (by rw [hw_12]; rfl) (by decide) ?_
      exact lo_12 G X hX hbl w hl hLI hi hL9 hk9 K9
    by_cases hw_13 : z9.toInt = 13
    · refine lv_tableIn (off := 745) (tgt := 789) hx hb dL_law_44 (by omega) (by omega) (by rw [hw_13]; rfl) (by decide) ?_
      exact lo_13 G X hX hbl w hl hLI hi hL9 hk9 K9
    by_cases hw_14 : z9.toInt = 14
    · refine lv_tableIn (off := 785) (tgt := 829) hx hb dL_law_44 (by omega) (by omega) (by rw [hw_14]; rfl) (by decide) ?_
      exact lo_14 G X hX hbl w hl hLI hi hL9 hk9 K9
    by_cases hw_15 : z9.toInt = 15
    · refine lv_tableIn (off := 825) (tgt := 869) hx hb dL_law_44 (by omega) (by omega) (by rw [hw_15]; rfl) (by decide) ?_
      exact lo_15 G X hX hbl w hl hLI hi hL9 hk9 K9
    by_cases hw_16 : z9.toInt = 16
    · refine lv_tableIn (off := 865) (tgt := 909) hx hb dL_law_44 (by omega) (by omega) (by rw [hw_16]; rfl) (by decide) ?_
      exact lo_16 G X hX hbl w hl hLI hi hL9 hk9 K9
    by_cases hw_17 : z9.toInt = 17
    · refine lv_tableIn (off := 933) (tgt := 977) hx hb dL_law_44 (by omega) (by omega) (by rw [hw_17]; rfl) (by decide) ?_
      exact lo_17 G X hX hbl w hl hLI hi hL9 hk9 K9
    by_cases hw_18 : z9.toInt = 18
    · refine lv_tableIn (off := 985) (tgt := 1029) hx hb dL_law_44 (by omega) (by omega) (by rw [hw_18]; rfl) (by decide) ?_
      exact lo_18 G X hX hbl w hl hLI hi hL9 hk9 K9
    by_cases hw_19 : z9.toInt = 19
    · refine lv_tableIn (off := 1025) (tgt := 1069) hx hb dL_law_44 (by omega) (by omega) (by rw [hw_19]; rfl) (by decide) ?_
      exact lo_19 G X hX hbl w hl hLI hi hL9 hk9 K9
    by_cases hw_20 : z9.toInt = 20
    · refine lv_tableIn (off := 1065) (tgt := 1109) hx hb dL_law_44 (by omega) (by omega) (by rw [hw_20]; rfl) (by decide) ?_
      exact lo_20 G X hX hbl w hl hLI hi hL9 hk9 K9
    by_cases hw_21 : z9.toInt = 21
    · refine lv_tableIn (off := 1105) (tgt := 1149) hx hb dL_law_44 (by omega) (by omega) (by rw [hw_21]; rfl) (by decide) ?_
      exact lo_21 G X hX hbl w hl hLI hi hL9 hk9 K9
    by_cases hw_22 : z9.toInt = 22
    · refine lv_tableIn (off := 1145) (tgt := 1189) hx hb dL_law_44 (by omega) (by omega) (by rw [hw_22]; rfl) (by decide) ?_
      exact lo_22 G X hX hbl w hl hLI hi hL9 hk9 K9
    by_cases hw_23 : z9.toInt = 23
    · refine lv_tableIn (off := 1209) (tgt := 1253) hx hb dL_law_44 (by omega) (by omega) (by rw [hw_23]; rfl) (by decide) ?_
      exact lo_23 G X hX hbl w hl hLI hi hL9 hk9 K9
    by_cases hw_24 : z9.toInt = 24
    · refine lv_tableIn (off := 1237) (tgt := 1281) hx hb dL_law_44 (by omega) (by omega) (by rw [hw_24]; rfl) (by decide) ?_
      exact lo_24 G X hX hbl w hl hLI hi hL9 hk9 K9
    by_cases hw_25 : z9.toInt = 25
    · refine lv_tableIn (off := 1265) (tgt := 1309) hx hb dL_law_44 (by omega) (by omega) (by rw [hw_25]; rfl) (by decide) ?_
      exact lo_25 G X hX hbl w hl hLI hi hL9 hk9 K9
    by_cases hw_26 : z9.toInt = 26
    · refine lv_tableIn (off := 1293) (tgt := 1337) hx hb dL_law_44 (by omega) (by omega) (by rw [hw_26]; rfl) (by decide) ?_
      exact lo_26 G X hX hbl w hl hLI hi hL9 hk9 K9
    by_cases hw_27 : z9.toInt = 27
    · refine lv_tableIn (off := 1321) (tgt := 1365) hx hb dL_law_44 (by omega) (by omega) (by rw [hw_27]; rfl) (by decide) ?_
      exact lo_27 G X hX hbl w hl hLI hi hL9 hk9 K9
    by_cases hw_28 : z9.toInt = 28
    · refine lv_tableIn (off := 1349) (tgt := 1393) hx hb dL_law_44 (by omega) (by omega) (by rw [hw_28]; rfl) (by decide) ?_
      exact lo_28 G X hX hbl w hl hLI hi hL9 hk9 K9
    by_cases hw_29 : z9.toInt = 29
    · refine lv_tableIn (off := 1377) (tgt := 1421) hx hb dL_law_44 (by omega) (by omega) (by rw [hw_29]; rfl) (by decide) ?_
      exact lo_29 G X hX hbl w hl hLI hi hL9 hk9 K9
    by_cases hw_30 : z9.toInt = 30
    · refine lv_tableIn (off := 1474) (tgt := 1518) hx hb dL_law_44 (by omega) (by omega) (by rw [hw_30]; rfl) (by decide) ?_
      exact lo_30 G X hX hbl w hl hLI hi hL9 hk9 K9
    by_cases hw_31 : z9.toInt = 31
    · refine lv_tableIn (off := 1502) (tgt := 1546) hx hb dL_law_44 (by omega) (by omega) (by rw [hw_31]; rfl) (by decide) ?_
      exact lo_31 G X hX hbl w hl hLI hi hL9 hk9 K9
    by_cases hw_32 : z9.toInt = 32
    · refine lv_tableIn (off := 1515) (tgt := 1559) hx hb dL_law_44 (by omega) (by omega) (by rw [hw_32]; rfl) (by decide) ?_
      exact lo_32 G X hX hbl w hl hLI hi hL9 hk9 K9
    by_cases hw_33 : z9.toInt = 33
    · refine lv_tableIn (off := 1528) (tgt := 1572) hx hb dL_law_44 (by omega) (by omega) (by rw [hw_33]; rfl) (by decide) ?_
      exact lo_33 G X hX hbl w hl hLI hi hL9 hk9 K9
    refine lv_tableOut (tgt := 1585) hx hb dL_law_44 (by omega) (by decide) ?_
    refine W.widen (k := cLw (k + 1) gC gC) (n := sLw (k + 1) gC gC) (by unfold cLw; omega) (by unfold sLw; omega) ?_
    exact K9 _ _ _ H locs _ hLI w hl

/-- the class at its start -/
def CiO (ea : Nat) (S : HS) : Prop := CI ea S 0 0 0 0 0 0 ∧ RH S 0
theorem CiO.keepI {ea : Nat} {S T : HS} (h : CiO ea S) (k : KeepRI S T) : CiO ea T := by
  have hI : ∀ ns nj nm nt nr nc, CI ea (vwS refT (fun f i => refT (f / 16) i || f / 16 == 16) refR S) ns nj nm nt nr nc ↔ CI ea S ns nj nm nt nr nc := fun _ _ _ _ _ _ => Iff.rfl
  have hI2 : ∀ ns nj nm nt nr nc, CI ea (vwS refT (fun f i => refT (f / 16) i || f / 16 == 16) refR T) ns nj nm nt nr nc ↔ CI ea T ns nj nm nt nr nc := fun _ _ _ _ _ _ => Iff.rfl
  have hH : ∀ nt, RH (vwS refT (fun f i => refT (f / 16) i || f / 16 == 16) refR S) nt ↔ RH S nt := fun _ => Iff.rfl
  have hH2 : ∀ nt, RH (vwS refT (fun f i => refT (f / 16) i || f / 16 == 16) refR T) nt ↔ RH T nt := fun _ => Iff.rfl
  obtain ⟨h, r⟩ := h
  exact ⟨by rw [← hI2, k.eqv, hI]; exact h, by rw [← hH2, k.eqv, hH]; exact r⟩
/-- what an Out's making hides -/
def outV (t i : Nat) : Bool := t == 11
def outI (f i : Nat) : Bool := f / 16 == 11
theorem kq11 {S : HS} {q : Nat} (hL : ∀ f, f / 16 = 11 → mL S f = 0 ∧ mD S f = 0) : Kq outV outI outI S (sNew S 11 0 q) := by
  refine ⟨fun t i z => ?_, fun f i z => ?_, fun f i z => ?_, fun f z => ⟨?_, ?_⟩⟩
  · have n : ¬ t = 11 := fun y => by rw [y] at z; exact absurd (show true = false from z) (by decide)
    exact ⟨propext ⟨fun y => y.elim id (fun y => absurd y.1 n), Or.inl⟩, gNew_n (fun y => n y.1), rfl, rfl, rfl⟩
  · have n : ¬ f / 16 = 11 := fun y => by unfold outI at z; rw [y] at z; exact absurd (show true = false from z) (by decide)
    exact nwI_n (fun y => n y.1)
  · have n : ¬ f / 16 = 11 := fun y => by unfold outI at z; rw [y] at z; exact absurd (show true = false from z) (by decide)
    exact nwR_n (fun y => n y.1)
  · exact (show (if f / 16 = 11 then 0 else mL S f) = mL S f by rw [if_pos z, (hL f z).1])
  · exact (show (if f / 16 = 11 then 0 else mD S f) = mD S f by rw [if_pos z, (hL f z).2])
theorem CI_vw11 {ea : Nat} {S : HS} {ns nj nm nt nr nc : Nat} : CI ea (vwS outV outI outI S) ns nj nm nt nr nc ↔ CI ea S ns nj nm nt nr nc := Iff.rfl
theorem RH_vw11 {S : HS} {nt : Nat} : RH (vwS outV outI outI S) nt ↔ RH S nt := Iff.rfl
theorem RI_vw11 {ea : Nat} {S : HS} {ns nj nm nt nr nq : Nat} : RI ea (vwS outV outI outI S) ns nj nm nt nr nq ↔ RI ea S ns nj nm nt nr nq := Iff.rfl
theorem CiO.new11 {ea : Nat} {S : HS} {q : Nat} (hL : ∀ f, f / 16 = 11 → mL S f = 0 ∧ mD S f = 0) (h : CiO ea S) : CiO ea (sNew S 11 0 q) := by
  have k := kq11 (q := q) hL
  obtain ⟨h, r⟩ := h
  exact ⟨by rw [← CI_vw11, k.eqv, CI_vw11]; exact h, by rw [← RH_vw11, k.eqv, RH_vw11]; exact r⟩
/-- the reference at its start -/
def RiO (s0 : State) (S : HS) : Prop := RI (eaOf s0) S 0 0 0 0 0 0 ∧ QI s0 S 0 0 ∧ Zr S
theorem RiO.new11 {s0 : State} {S : HS} {q : Nat} (hL : ∀ f, f / 16 = 11 → mL S f = 0 ∧ mD S f = 0) (h : RiO s0 S) : RiO s0 (sNew S 11 0 q) := by
  have k := kq11 (q := q) hL
  obtain ⟨h, qq, z⟩ := h
  refine ⟨by rw [← RI_vw11, k.eqv, RI_vw11]; exact h, ⟨fun j hj => qq.1 j hj, ?_⟩, ⟨⟨fun v => v.elim z.1.1 (fun y => by omega), fun v => v.elim z.1.2 (fun y => by omega)⟩, fun i => ⟨fun v => v.elim (z.2 i).1 (fun y => by omega), fun v => v.elim (z.2 i).2 (fun y => by omega)⟩⟩⟩
  refine Nat.le_trans qq.2 (cntB_mono _ (fun j _ hj => ?_))
  rw [show mI (sNew S 11 0 q) 253 j = mI S 253 j from nwI_n (by omega)]
  exact hj
theorem ao_arr {s : State} {A : Array Value} (h : (Cond.arrayOver (.array .int)).before A s = true) : ∃ comp c k, s.vm.classes[c]? = some k ∧ k.kind = .array comp (.array .int) ∧ s.vm.findClass ("[" ++ (FieldType.array .int).toString) = some c := by
  have h : (Cond.arrayOver (.array .int)).holds A s none s [] = true := h
  simp only [Cond.holds, Cond.value, beq_iff_eq] at h
  cases hc : s.vm.findClass (FieldType.array .int).toString with
  | none => simp [hc] at h
  | some comp =>
    simp only [hc, Option.bind_some, Option.bind_eq_some_iff, Option.map_eq_some_iff] at h
    obtain ⟨c, hi, k, hk, hb⟩ := h
    obtain ⟨hlt, hp, -⟩ := Array.findIdx?_eq_some_iff_getElem.mp hi
    have hkk : s.vm.classes[c] = k := (Array.getElem?_eq_some_iff.mp hk).2
    rw [hkk] at hp
    cases hkind : k.kind with
    | array component ty =>
      rw [hkind] at hb hp
      simp at hb hp
      exact ⟨comp, c, k, hk, by rw [hkind, hp, hb.1], hb.2⟩
    | _ => rw [hkind] at hb; simp at hb
theorem arr_known {s : State} {A : Array Value} (hts : ∀ w ∈ lw_tbl, w.before A s = true) : ∃ cy : Nat → ClassId, ∀ (k : Nat) (q : ClassId × FieldType), (TY cy)[k]? = some q → ArrOfT s q.1 q.2 ∧ va_RA s q.1 q.2 := by
  obtain ⟨p0, c0, k0, a1, -, a2, a3, a4⟩ := Cond.arrayOver_spec (hts _ wAO_java_lang_Object)
  obtain ⟨c1, k1, p1, b1, b2, b3⟩ := Cond.arrayClass_spec (hts _ (List.mem_filter.mp wA_int).1)
  obtain ⟨c2, k2, p2, f1, f2, f3⟩ := Cond.arrayClass_spec (hts _ (List.mem_filter.mp wA_boolean).1)
  obtain ⟨c3, k3, p3, g1, g2, g3⟩ := Cond.arrayClass_spec (hts _ (List.mem_filter.mp wA_byte).1)
  obtain ⟨p4, c4, k4, d1, d2, d3⟩ := ao_arr (hts _ wAO_int)
  obtain ⟨p5, c5, k5, e1, -, e2, e3, e4⟩ := Cond.arrayOver_spec (hts _ wAO_java_lang_String)
  refine ⟨fun k => match k with | 0 => c0 | 1 => c1 | 2 => c2 | 3 => c3 | 4 => c4 | _ => c5, fun k q hq => ?_⟩
  match k, hq with
  | 0, hq => cases hq; exact ⟨fun N z => ⟨(fun k h => by cases h), k0, a2, p0, a3⟩, k0, p0, a2, a3, a1, a4⟩
  | 1, hq => cases hq; exact ⟨fun N z => ⟨(fun k h => by cases h), k1, b2, p1, b3⟩, b1⟩
  | 2, hq => cases hq; exact ⟨fun N z => ⟨(fun k h => by cases h), k2, f2, p2, f3⟩, f1⟩
  | 3, hq => cases hq; exact ⟨fun N z => ⟨(fun k h => by cases h), k3, g2, p3, g3⟩, g1⟩
  | 4, hq => cases hq; exact ⟨fun N z => ⟨(fun k h => by cases h), k4, d1, p4, d2⟩, d3⟩
  | 5, hq => cases hq; exact ⟨fun N z => ⟨(fun k h => by cases h), k5, e2, p5, e3⟩, k5, p5, e2, e3, e1, e4⟩
  | k + 6, hq => exact absurd hq (by simp)
theorem cls_known {s : State} {A : Array Value} (hts : ∀ w ∈ ALLW, w.before A s = true) : ∃ D : va_G, ∀ (k : Nat) (q : vw_C), CL[k]? = some q → u_Kn s q.1 q.2.1 q.2.2 (D.1 k) (D.2 k) := by
  have key : ∀ (k : Nat) (q : vw_C), CL[k]? = some q → ∃ (cC : ClassId) (iS : Nat → Nat), u_Kn s q.1 q.2.1 q.2.2 cC iS := by
    intro k q hq
    match k, hq with
    | 0, hq => cases hq; exact u_known hts in_0 (hts _ wNew_X0)
    | 1, hq => cases hq; exact u_known hts in_1 (hts _ wNew_X1)
    | 2, hq => cases hq; exact u_known hts in_2 (hts _ wNew_X2)
    | 3, hq => cases hq; exact u_known hts in_3 (hts _ wNew_X3)
    | 4, hq => cases hq; exact u_known hts in_4 (hts _ wNew_X4)
    | 5, hq => cases hq; exact u_known hts in_5 (hts _ wNew_X5)
    | 6, hq => cases hq; exact u_known hts in_6 (hts _ wNew_X6)
    | 7, hq => cases hq; exact u_known hts in_7 (hts _ wNew_X7)
    | 8, hq => cases hq; exact u_known hts in_8 (hts _ wNew_X8)
    | 9, hq => cases hq; exact u_known hts in_9 (hts _ wNew_X9)
    | 10, hq => cases hq; exact u_known hts in_10 (hts _ wNew_X10)
    | 11, hq => cases hq; exact u_known hts in_11 (hts _ wNew_X11)
    | 12, hq => cases hq; exact u_known hts in_12 (hts _ wNew_X12)
    | 13, hq => cases hq; exact u_known hts in_13 (hts _ wNew_X13)
    | 14, hq => cases hq; exact u_known hts in_14 (hts _ wNew_X14)
    | 15, hq => cases hq; exact u_known hts in_15 (hts _ wNew_X15)
    | 16, hq => cases hq; exact u_known hts in_16 (hts _ wNew_X16)
    | 17, hq => cases hq; exact u_known hts in_17 (hts _ wNew_Jx4a65c)
    | 18, hq => cases hq; exact u_known hts in_18 (hts _ wNew_J4)
    | 19, hq => cases hq; exact u_known hts in_19 (hts _ wNew_J0)
    | 20, hq => cases hq; exact u_known hts in_20 (hts _ wNew_J6)
    | k + 21, hq => exact absurd hq (by simp)
  have h2 : ∀ k : Nat, ∃ z : ClassId × (Nat → Nat), ∀ q : vw_C, CL[k]? = some q → u_Kn s q.1 q.2.1 q.2.2 z.1 z.2 := by
    intro k
    cases h : CL[k]? with
    | none => exact ⟨(0, fun _ => 0), fun q hq => by cases hq⟩
    | some q0 =>
      obtain ⟨cC, iS, hk⟩ := key k q0 h
      exact ⟨(cC, iS), fun q hq => by cases hq; exact hk⟩
  obtain ⟨f, hf⟩ := Classical.axiomOfChoice h2
  exact ⟨(fun k => (f k).1, fun k => (f k).2), fun k q hq => hf k q hq⟩
theorem str_known {s : State} {A : Array Value} (hts : ∀ w ∈ lw_tbl, w.before A s = true) : ∀ x ∈ STRL, vk_R x.1 x.2.1 x.2.2 (saOf s x.1 x.2.1) s := by
  intro x hx
  obtain ⟨w, hw, e⟩ := List.mem_filterMap.mp hx
  have h1 := hts w hw
  cases w with
  | stringRef o k t =>
    cases e
    have hcur : ∃ cur, s.vm.findClass o = some cur := by
      have h1 := h1
      simp only [Cond.before, Cond.holds, Cond.value] at h1
      cases hc : s.vm.findClass o with
      | none => simp [hc] at h1
      | some cur => exact ⟨cur, rfl⟩
    obtain ⟨cur, hcur⟩ := hcur
    obtain ⟨k', cf, i, a', hk, hcf, hcp, -, hr, hev⟩ := Cond.stringRef_spec hcur h1
    have e1 : (Term.string o k).eval #[] s none [] s = some (.ref a') := (Term.string_eval_of_vm (args := A) (U := s) rfl).trans hev
    refine ⟨h1, ?_⟩
    show (Term.string o k).eval #[] s none [] s = some (.ref (saOf s o k))
    unfold saOf
    rw [e1]
  | _ => exact absurd e (by intro z; cases z)
theorem ref_cls {t i : Nat} (h : refU t i = true) : clsT t i = false ∧ ¬ t = 10 ∧ ¬ t = 11 := by
  unfold refU refT at h
  have e : (12 ≤ t ∧ t ≤ 15) ∨ ((t = 17 ∨ t = 30) ∧ 6 ≤ i) ∨ (33 ≤ t ∧ t ≤ 40) := by
    have e0 : ((12 ≤ t ∧ t ≤ 15) ∨ ((t = 17 ∨ t = 30) ∧ 6 ≤ i) ∨ (34 ≤ t ∧ t ≤ 40)) ∨ t = 33 := by simpa [Nat.ble_eq] using h
    omega
  refine ⟨Bool.eq_false_iff.mpr (fun z => ?_), by omega, by omega⟩
  unfold clsT at z
  have z : t ≤ 9 ∨ ((t = 17 ∨ t = 30) ∧ i ≤ 5) ∨ t = 32 := by
    have z2 := z
    simp [Nat.ble_eq] at z2
    omega
  omega
theorem CiO.new16 {ea : Nat} {S : HS} {q : Nat} (h : CiO ea S) : CiO ea (sNew S 16 0 q) := by
  have k : Kq (fun t _ => t == 16) (fun f _ => f / 16 == 16) (fun f _ => f / 16 == 16) S (sNew S 16 0 q) := Kq.rf.new rfl (by decide) (fun f z => by show (f / 16 == 16) = true; rw [z]; rfl) (fun f z => by show (f / 16 == 16) = true; rw [z]; rfl)
  have hI : ∀ (S : HS) ns nj nm nt nr nc, CI ea (vwS (fun t _ => t == 16) (fun f _ => f / 16 == 16) (fun f _ => f / 16 == 16) S) ns nj nm nt nr nc ↔ CI ea S ns nj nm nt nr nc := fun _ _ _ _ _ _ _ => Iff.rfl
  have hH : ∀ (S : HS) nt, RH (vwS (fun t _ => t == 16) (fun f _ => f / 16 == 16) (fun f _ => f / 16 == 16) S) nt ↔ RH S nt := fun _ _ => Iff.rfl
  obtain ⟨h, r⟩ := h
  exact ⟨by rw [← hI, k.eqv, hI]; exact h, by rw [← hH, k.eqv, hH]; exact r⟩

