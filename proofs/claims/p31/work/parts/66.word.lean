/-- what a telling makes for itself -/
def zV (t _j : Nat) : Bool := t == 18 || (t == 19 || (t == 41 || t == 42))
def zI (f _j : Nat) : Bool := f / 16 == 18 || f / 16 == 19
abbrev KZ (S T : HS) : Prop := Kq zV zI zI S T
def Zs (S : HS) : Prop := ∀ t j, zV t j = true → ¬ vV S t j
theorem Wd.offM {hv hi hr : Nat → Nat → Bool} {s0 : State} {D : va_G} {cy : Nat → ClassId} {S T : HS} {H0 H : Heap} {locs : List Loc} (w : Wd s0 D cy T H0 H locs) (k : Kq hv hi hr S T) (hn : ∀ t i, vV S t i → hv t i = false) (hf : ∀ t i q, vV S t i → q < 16 → hi (16 * t + q) i = false ∧ hr (16 * t + q) i = false) : Wd s0 D cy S H0 H locs := by
  obtain ⟨⟨⟨ws, hP, hD, hm⟩, inj⟩, hS⟩ := w
  have ec : ∀ t i, vV S t i → cellM cy T t i = cellM cy S t i := fun t i h => by
    obtain ⟨k1, k2, k3, k4, k5⟩ := k.1 t i (hn t i h)
    unfold cellM
    rw [k3, k4, k5]
    by_cases h21 : t < 21
    · rw [if_pos h21, if_pos h21]
      congr 2
      apply List.map_congr_left
      intro q hq
      have hq16 : q < 16 := Nat.lt_of_lt_of_le (List.mem_range.mp hq) (nf_le t)
      have e1 : mI T (16 * t + q) i = mI S (16 * t + q) i := k.2.1 _ _ (hf t i q h hq16).1
      have e2 : mR T (16 * t + q) i = mR S (16 * t + q) i := k.2.2.1 _ _ (hf t i q h hq16).2
      by_cases z : t = 11
      · obtain ⟨e3, e4⟩ := k.2.2.2 (16 * t + q) (by omega)
        unfold fval
        rw [e1, e2, e3, e4]
      · unfold fval
        rcases ty01 z h21 hq16 with y | y <;> rw [y]
        · exact congrArg Value.int e1
        · exact congrArg va_rf e2
    · rw [if_neg h21, if_neg h21]
  refine ⟨⟨⟨ws, hP, hD, fun t i v => ?_⟩, fun t i t' i' h h' hg => ?_⟩, hS⟩
  · rw [← ec t i v, ← k.G (hn t i v)]
    exact hm t i (by rw [k.V (hn t i v)]; exact v)
  · exact inj t i t' i' (by rw [k.V (hn t i h)]; exact h) (by rw [k.V (hn t' i' h')]; exact h') (by rw [k.G (hn t i h), k.G (hn t' i' h')]; exact hg)
theorem zV_f {S : HS} (hz : Zs S) {t i : Nat} (v : vV S t i) : zV t i = false := by
  cases e : zV t i with
  | false => rfl
  | true => exact absurd v (hz t i e)
theorem zI_f {t i q : Nat} (h : zV t i = false) (hq : q < 16) : zI (16 * t + q) i = false := by
  unfold zI
  rw [show (16 * t + q) / 16 = t by omega]
  unfold zV at h
  rw [Bool.or_eq_false_iff, Bool.or_eq_false_iff] at h
  rw [h.1, h.2.1]; rfl
theorem Wd.offZ {s0 : State} {D : va_G} {cy : Nat → ClassId} {S T : HS} {H0 H : Heap} {locs : List Loc} (w : Wd s0 D cy T H0 H locs) (k : KZ S T) (hz : Zs S) : Wd s0 D cy S H0 H locs := w.offM k (fun t i v => zV_f hz v) (fun t i q v hq => ⟨zI_f (zV_f hz v) hq, zI_f (zV_f hz v) hq⟩)
theorem kbZ {S T : HS} {i k : Nat} (b : KB S T i k) : KZ S T := b.le (fun t j => ff_of fun e => by
    unfold bV at e
    rw [Bool.and_eq_true] at e
    rw [show t = 42 from by simpa using e.1]; rfl) (fun f j => ff_of fun e => by
    unfold bI at e
    rw [Bool.and_eq_true, Bool.or_eq_true] at e
    rcases e.1 with z | z
    · rw [show f = 291 from by simpa using z]; rfl
    · rw [show f = 289 from by simpa using z]; rfl) (fun f j => ff_of fun e => by
    unfold bR at e
    rw [Bool.and_eq_true] at e
    rw [show f = 288 from by simpa using e.1]; rfl)
theorem ktZ {S T : HS} (b : KT S T) : KZ S T := b.le (fun t j => ff_of fun e => by
    unfold tV at e
    rw [Bool.or_eq_true] at e
    rcases e with z | z
    · rw [show t = 19 from by simpa using z]; rfl
    · rw [show t = 42 from by simpa using z]; rfl) (fun f j => ff_of fun e => by
    unfold tI at e; unfold zI; rw [e, Bool.or_true]) (fun f j => ff_of fun e => by
    unfold tI at e; unfold zI; rw [e, Bool.or_true])
theorem hz18 (f : Nat) (h : f / 16 = 18) {i : Nat} : zI f i = true := by unfold zI; rw [h]; rfl
theorem CI_vwZ {ea : Nat} {S : HS} {ns nj nm nt nr nc : Nat} : CI ea (vwS zV zI zI S) ns nj nm nt nr nc ↔ CI ea S ns nj nm nt nr nc := Iff.rfl
theorem CI.keepZ {ea : Nat} {S T : HS} {ns nj nm nt nr nc : Nat} (h : CI ea S ns nj nm nt nr nc) (k : KZ S T) : CI ea T ns nj nm nt nr nc := by
  rw [← CI_vwZ, k.eqv, CI_vwZ]; exact h
theorem RI_vwZ {ea : Nat} {S : HS} {ns nj nm nt nr nq : Nat} : RI ea (vwS zV zI zI S) ns nj nm nt nr nq ↔ RI ea S ns nj nm nt nr nq := Iff.rfl
theorem RI.keepZ {ea : Nat} {S T : HS} {ns nj nm nt nr nq : Nat} (h : RI ea S ns nj nm nt nr nq) (k : KZ S T) : RI ea T ns nj nm nt nr nq := by
  rw [← RI_vwZ, k.eqv, RI_vwZ]; exact h

theorem dX10_sortWord_0 : decode cX10_sortWord 0 = .ok (.iload_n 0, 1) := by decide +kernel
theorem dX10_sortWord_1 : decode cX10_sortWord 1 = .ok (.tableswitch 39 1 3 #[35, 31, 27], 27) := by decide +kernel
theorem dX10_sortWord_28 : decode cX10_sortWord 28 = .ok (.ldc_w 533, 3) := by decide +kernel
theorem dX10_sortWord_31 : decode cX10_sortWord 31 = .ok (.areturn, 1) := by decide +kernel
theorem dX10_sortWord_32 : decode cX10_sortWord 32 = .ok (.ldc_w 535, 3) := by decide +kernel
theorem dX10_sortWord_35 : decode cX10_sortWord 35 = .ok (.areturn, 1) := by decide +kernel
theorem dX10_sortWord_36 : decode cX10_sortWord 36 = .ok (.ldc_w 537, 3) := by decide +kernel
theorem dX10_sortWord_39 : decode cX10_sortWord 39 = .ok (.areturn, 1) := by decide +kernel
theorem dX10_sortWord_40 : decode cX10_sortWord 40 = .ok (.ldc_w 539, 3) := by decide +kernel
theorem dX10_sortWord_43 : decode cX10_sortWord 43 = .ok (.areturn, 1) := by decide +kernel
abbrev rm_m_X10_sortWord : Room := { frames := 0, cells := 0, slots := 0, locals := 0 }
set_option maxHeartbeats 4000000 in
set_option maxRecDepth 100000 in
theorem m_X10_sortWord {s0 : State} {l : Launch} {D : va_G} {cy : Nat → ClassId} (G : Gl s0 l D cy) (S : HS) (x : Int32) : Ctr s0 l D cy yX10_sortWord cX10_sortWord 1 (some (.object "java/lang/String")) rm_m_X10_sortWord S [.int x] (fun v S' => (∃ a w0, w0 ≤ 7 ∧ CSA s0 a w0 ∧ some (.ref a) = v) ∧ S = S') := by
  refine pro "CavershamShift" G rfl rfl (Nat.le_of_ble_eq_true rfl) (fun p e s m below meth c ls X w hnm hl => ?_)
  have hx := X.1
  have hb := X.2.1
  have hown := X.2.2.2.1
  have hts := X.2.2.2.2.1
  have hl : lv_has ls 1 [(0, .int x)] := hl
  refine lv_iload_n hx hb dX10_sortWord_0 rfl (lv_at hl 0 rfl) ?_
  by_cases hw1_1 : (x : Int32).toInt = 1
  · refine lv_tableIn (off := 35) (tgt := 36) hx hb dX10_sortWord_1 (by omega) (by omega) (by rw [hw1_1]; rfl) (by decide) ?_
    refine ldS X wS9_X10_537 dX10_sortWord_36 ?_
    exact rA (v := some (saOf s0 "CavershamShift" 537)) X w rfl (Or.inl ⟨_, rfl⟩) dX10_sortWord_39 (by decide) (by decide) ⟨⟨_, 7, by decide, cs_X10_537 G, rfl⟩, rfl⟩
  by_cases hw1_2 : (x : Int32).toInt = 2
  · refine lv_tableIn (off := 31) (tgt := 32) hx hb dX10_sortWord_1 (by omega) (by omega) (by rw [hw1_2]; rfl) (by decide) ?_
    refine ldS X wS9_X10_535 dX10_sortWord_32 ?_
    exact rA (v := some (saOf s0 "CavershamShift" 535)) X w rfl (Or.inl ⟨_, rfl⟩) dX10_sortWord_35 (by decide) (by decide) ⟨⟨_, 4, by decide, cs_X10_535 G, rfl⟩, rfl⟩
  by_cases hw1_3 : (x : Int32).toInt = 3
  · refine lv_tableIn (off := 27) (tgt := 28) hx hb dX10_sortWord_1 (by omega) (by omega) (by rw [hw1_3]; rfl) (by decide) ?_
    refine ldS X wS9_X10_533 dX10_sortWord_28 ?_
    exact rA (v := some (saOf s0 "CavershamShift" 533)) X w rfl (Or.inl ⟨_, rfl⟩) dX10_sortWord_31 (by decide) (by decide) ⟨⟨_, 5, by decide, cs_X10_533 G, rfl⟩, rfl⟩
  refine lv_tableOut (tgt := 40) hx hb dX10_sortWord_1 (by omega) (by decide) ?_
  refine ldS X wS9_X10_539 dX10_sortWord_40 ?_
  exact rA (v := some (saOf s0 "CavershamShift" 539)) X w rfl (Or.inl ⟨_, rfl⟩) dX10_sortWord_43 (by decide) (by decide) ⟨⟨_, 7, by decide, cs_X10_539 G, rfl⟩, rfl⟩

theorem dX10_stateWord_0 : decode cX10_stateWord 0 = .ok (.iload_n 0, 1) := by decide +kernel
theorem dX10_stateWord_1 : decode cX10_stateWord 1 = .ok (.tableswitch 39 1 3 #[27, 31, 35], 27) := by decide +kernel
theorem dX10_stateWord_28 : decode cX10_stateWord 28 = .ok (.ldc_w 541, 3) := by decide +kernel
theorem dX10_stateWord_31 : decode cX10_stateWord 31 = .ok (.areturn, 1) := by decide +kernel
theorem dX10_stateWord_32 : decode cX10_stateWord 32 = .ok (.ldc_w 543, 3) := by decide +kernel
theorem dX10_stateWord_35 : decode cX10_stateWord 35 = .ok (.areturn, 1) := by decide +kernel
theorem dX10_stateWord_36 : decode cX10_stateWord 36 = .ok (.ldc_w 545, 3) := by decide +kernel
theorem dX10_stateWord_39 : decode cX10_stateWord 39 = .ok (.areturn, 1) := by decide +kernel
theorem dX10_stateWord_40 : decode cX10_stateWord 40 = .ok (.ldc_w 547, 3) := by decide +kernel
theorem dX10_stateWord_43 : decode cX10_stateWord 43 = .ok (.areturn, 1) := by decide +kernel
abbrev rm_m_X10_stateWord : Room := { frames := 0, cells := 0, slots := 0, locals := 0 }
set_option maxHeartbeats 4000000 in
set_option maxRecDepth 100000 in
theorem m_X10_stateWord {s0 : State} {l : Launch} {D : va_G} {cy : Nat → ClassId} (G : Gl s0 l D cy) (S : HS) (x : Int32) : Ctr s0 l D cy yX10_stateWord cX10_stateWord 1 (some (.object "java/lang/String")) rm_m_X10_stateWord S [.int x] (fun v S' => (∃ a w0, w0 ≤ 7 ∧ CSA s0 a w0 ∧ some (.ref a) = v) ∧ S = S') := by
  refine pro "CavershamShift" G rfl rfl (Nat.le_of_ble_eq_true rfl) (fun p e s m below meth c ls X w hnm hl => ?_)
  have hx := X.1
  have hb := X.2.1
  have hown := X.2.2.2.1
  have hts := X.2.2.2.2.1
  have hl : lv_has ls 1 [(0, .int x)] := hl
  refine lv_iload_n hx hb dX10_stateWord_0 rfl (lv_at hl 0 rfl) ?_
  by_cases hw1_1 : (x : Int32).toInt = 1
  · refine lv_tableIn (off := 27) (tgt := 28) hx hb dX10_stateWord_1 (by omega) (by omega) (by rw [hw1_1]; rfl) (by decide) ?_
    refine ldS X wS9_X10_541 dX10_stateWord_28 ?_
    exact rA (v := some (saOf s0 "CavershamShift" 541)) X w rfl (Or.inl ⟨_, rfl⟩) dX10_stateWord_31 (by decide) (by decide) ⟨⟨_, 5, by decide, cs_X10_541 G, rfl⟩, rfl⟩
  by_cases hw1_2 : (x : Int32).toInt = 2
  · refine lv_tableIn (off := 31) (tgt := 32) hx hb dX10_stateWord_1 (by omega) (by omega) (by rw [hw1_2]; rfl) (by decide) ?_
    refine ldS X wS9_X10_543 dX10_stateWord_32 ?_
    exact rA (v := some (saOf s0 "CavershamShift" 543)) X w rfl (Or.inl ⟨_, rfl⟩) dX10_stateWord_35 (by decide) (by decide) ⟨⟨_, 6, by decide, cs_X10_543 G, rfl⟩, rfl⟩
  by_cases hw1_3 : (x : Int32).toInt = 3
  · refine lv_tableIn (off := 35) (tgt := 36) hx hb dX10_stateWord_1 (by omega) (by omega) (by rw [hw1_3]; rfl) (by decide) ?_
    refine ldS X wS9_X10_545 dX10_stateWord_36 ?_
    exact rA (v := some (saOf s0 "CavershamShift" 545)) X w rfl (Or.inl ⟨_, rfl⟩) dX10_stateWord_39 (by decide) (by decide) ⟨⟨_, 6, by decide, cs_X10_545 G, rfl⟩, rfl⟩
  refine lv_tableOut (tgt := 40) hx hb dX10_stateWord_1 (by omega) (by decide) ?_
  refine ldS X wS9_X10_547 dX10_stateWord_40 ?_
  exact rA (v := some (saOf s0 "CavershamShift" 547)) X w rfl (Or.inl ⟨_, rfl⟩) dX10_stateWord_43 (by decide) (by decide) ⟨⟨_, 0, by decide, cs_X10_547 G, rfl⟩, rfl⟩

