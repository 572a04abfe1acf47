/-! lists: to add -/
theorem tab_at {s0 s : State} {w : Cond} {A B : Array Value} (hw : w.onTables = true) (hal : (w.before A (s0.setVm s.vm) = true)) : w.before B s = true := va_tabs hw (u := s0.setVm s.vm) (U := s) rfl hal
theorem nat_at {s0 s : State} {x : MethodName} {A : Array Value} (hb : s0.vm.Alike s.vm) (h : (Cond.native x).before #[] s0 = true) : (Cond.native x).before A s = true := tab_at (A := #[]) rfl (by rw [Cond.native_setVm hb]; exact h)
theorem Gl.nat {s0 s : State} {l : Launch} {D : va_G} {cy : Nat → ClassId} {x : MethodName} {A : Array Value} (G : Gl s0 l D cy) (hb : Bs s0 s) (h : Cond.native x ∈ lw_tbl) : (Cond.native x).before A s = true := by
  obtain ⟨-, -, b, hts, -⟩ := G
  exact nat_at hb.1 (va_tabs rfl rfl (hts _ h))
theorem Gl.ao {s0 s : State} {l : Launch} {D : va_G} {cy : Nat → ClassId} {C : String} (G : Gl s0 l D cy) (hb : Bs s0 s) (h : Cond.arrayOver (.object C) ∈ lw_tbl) : va_AO C s := by
  obtain ⟨-, -, b, hts, -⟩ := G
  exact (va_AO.of (hts _ h)).moved hb.1
theorem Gl.mi {s0 s : State} {l : Launch} {D : va_G} {cy : Nat → ClassId} (G : Gl s0 l D cy) (hb : Bs s0 s) : ∃ mi, va_Mi "[Ljava/lang/Object;" mi s := by
  obtain ⟨-, -, b, -, hgv⟩ := G
  obtain ⟨mi, h⟩ := va_Mi.of (flat_of_before _ hgv (Cond.isRef (.mirror "[Ljava/lang/Object;")) (by decide +kernel))
  exact ⟨mi, h.moved hb.1⟩
/-- a: something that a row of objects may hold -/
def EL (s0 : State) (S : HS) (a : Nat) : Prop := (∃ t i, vV S t i ∧ t < 17 ∧ a = gG S t i) ∨ (∃ i, vV S 33 i ∧ a = gG S 33 i) ∨ (a < s0.heap.size ∧ ∀ s : State, Bs s0 s → va_Any "java/lang/Object" s s0.heap a)
theorem any_ext {E : String} {s : State} {H H1 : Heap} {a : Nat} (h : va_Any E s H a) (hq : H1[a]? = H[a]?) : va_Any E s H1 a := by
  obtain ⟨c, h1, h2⟩ := h
  exact ⟨c, hq.trans h1, h2⟩
theorem caObj : ∀ t, t < 17 → ∀ r, CL[t]? = some r → Cond.castable r.1 "java/lang/Object" ∈ NSTW := by
  intro t ht r hr
  have h : ∀ t, t < 17 → ((CL[t]?).map (fun r => decide (Cond.castable r.1 "java/lang/Object" ∈ NSTW))) = some true := by decide +kernel
  have h1 := h t ht
  rw [hr] at h1
  exact of_decide_eq_true (Option.some.inj h1)
section ADD
variable {p : Program} {l : Launch} {e : Env} {R : Room} {s : State} {m : MethodId} {args : Array Value} {below : List Frame} {meth : Method} {c : Code} {H : Heap} {locs : List Loc} {cells slots : Nat} {Q : State → Prop} {cc : ByteArray} {pc nL : Nat} {ls : Array Slot} {rest : List Value} {s0 : State} {D : va_G} {cy : Nat → ClassId} {S : HS} {own : String} {ret : Option FieldType} {t i index : Nat}
theorem EL.any {a : Nat} (X : Cx s0 l D cy p s m args meth c cc nL own ret) (w : Wd s0 D cy S s.heap H locs) (h : EL s0 S a) : va_Any "java/lang/Object" s H a := by
  rcases h with ⟨t, i, hV, ht, rfl⟩ | ⟨i, hV, rfl⟩ | ⟨h1, h2⟩
  · obtain ⟨ws, q0, hP, hD, hq, hm⟩ := w.at hV
    rw [cell_obj (Nat.lt_trans ht (by decide))] at hq
    have hlen : t < CL.length := Nat.lt_trans ht (by decide)
    refine va_rAny X.2.2.2.2.2.2.2.1 hP hq (List.getElem?_eq_getElem hlen) (fun comp c0 h1 h2 => ?_)
    obtain ⟨c9, t9, f1, f2, f3⟩ := Cond.castable_spec (va_Nw.use (A := args) rfl (X.2.2.2.2.2.2.2.2.1.2.2.2.1 _ (caObj t ht _ (List.getElem?_eq_getElem hlen))))
    cases f1.symm.trans h2
    cases f2.symm.trans h1
    exact f3
  · obtain ⟨ws, q0, hP, hD, hq, hm⟩ := w.at hV
    rw [cell_arr (by decide) rfl] at hq
    have hc : H[gG S 33 i]? = some (vp_cell (cy (ak 33)) (mN S 33 i, .inl (mA S 33 i))) := hP q0 _ hq
    have hf : s.vm.findClass "[I" = some (cy (ak 33)) := (X.2.2.2.2.2.2.2.1.2 (ak 33) _ (rfl : (TY cy)[ak 33]? = some (cy 1, .int))).2
    obtain ⟨kC, hkC, -⟩ := Vm.findClass_spec hf
    refine ⟨_, hc, rfl, ⟨kC, hkC⟩, fun comp h1 => ?_⟩
    obtain ⟨c9, t9, f1, f2, f3⟩ := Cond.castable_spec (va_Nw.use (A := args) rfl (X.2.2.2.2.2.2.2.2.1.2.2.2.1 _ wCa__I_java_lang_Object))
    cases f1.symm.trans hf
    cases f2.symm.trans h1
    exact f3
  · refine any_ext (h2 s X.2.2.2.2.2.2.2.2.1) ?_
    rw [w.2.2.1 a (Nat.lt_of_lt_of_le h1 X.2.2.2.2.2.2.2.2.1.2.1) (Nat.not_le.mpr h1)]
    exact X.2.2.2.2.2.2.2.2.1.2.2.1 a h1
theorem nwR {x : Int32} {n : Nat} (X : Cx s0 l D cy p s m args meth c cc nL own ret) (w : Wd s0 D cy S s.heap H locs) (t i : Nat) (hn : ¬ vV S t i) (ht : ¬ t < 21) (hr : isRefA t = true) (hak : ak t = 0) (hl : Cond.classLink own index "java/lang/Object" ∈ ALLW) (hx : x = nI n) (hb : n < 2 ^ 20) (hdg : decode cc pc = .ok (.anewarray index, 3)) (hcells : cells + 1 ≤ R.cells) (hslots : slots + n ≤ R.slots)
    (kk : ∀ (q : Nat) (S2 : HS) (H1 : Heap), S2 = sArr S t i q n → Wd s0 D cy S2 s.heap H1 locs → W p l e R s m args below meth c H1 locs (cells + 1) (slots + n) Q (F0 m (pc + 3) ls (.ref (gG S2 t i) :: rest))) : W p l e R s m args below meth c H locs cells slots Q (F0 m pc ls (.int x :: rest)) := by
  obtain ⟨⟨⟨ws, hP, hD, hm⟩, inj⟩, hS⟩ := w
  subst hx
  have hcl : (nI n).toNatClampNeg = n := nI_clamp (Nat.lt_trans hb (by decide))
  have hb31 : n < 2 ^ 31 := Nat.lt_trans hb (by decide)
  refine va_newq X.1 X.2.1 X.2.2.2.1 (X.2.2.2.2.1 _ hl) (Gl.ao X.2.2.2.2.2.2.2.2.2 X.2.2.2.2.2.2.2.2.1 wAO_java_lang_Object) X.2.2.2.2.2.2.2.1 hP hD hS (fun q hq => Nat.le_trans X.2.2.2.2.2.2.2.2.1.2.1 hq) (nI_pos hb31) hcl (by omega) hcells hslots hdg (fun q cA H1 hK1 hP1 hD1 hS1 => ?_)
  have hcA : cA = cy (ak t) := by
    have h1 := (hK1.2 (TY cy).length (cA, .object "java/lang/Object") (by rw [List.getElem?_append_right (Nat.le_refl _), Nat.sub_self]; rfl)).2
    have h2 := (X.2.2.2.2.2.2.2.1.2 0 _ (rfl : (TY cy)[0]? = some (cy 0, .object "java/lang/Object"))).2
    rw [hak]
    have e1 := va_nmO h1 rfl
    have e2 := va_nmO h2 rfl
    exact Option.some.inj (e1.symm.trans e2)
  subst hcA
  have eq : gG (sArr S t i q n) t i = q := up2_s _ t i q
  have h := kk q (sArr S t i q n) H1 rfl ⟨WP.new ⟨⟨ws, hP, hD, hm⟩, inj⟩ hm hD1 hP1 hn (fun t' i' => Iff.rfl) (fun t' i' h => up2_n h) eq (by rw [cell_arrS ht, hr]; rfl) (fun t' i' hv' h => cell_arrN h), hS1⟩
  rw [eq] at h; exact h
theorem aStR {x : Int32} {v : Nat} (X : Cx s0 l D cy p s m args meth c cc nL own ret) (w : Wd s0 D cy S s.heap H locs) (hV : vV S t i) (ht : ¬ t < 21) (hr : isRefA t = true) (hak : ak t = 0) (hin : vp_in x (mN S t i)) (hv : EL s0 S v) (hdg : decode cc pc = .ok (.aastore, 1))
    (kk : ∀ (H1 : Heap) (locs1 : List Loc), Wd s0 D cy (sB S t i (va_up (mB S t i) x.toNatClampNeg (some v))) s.heap H1 locs1 → W p l e R s m args below meth c H1 locs1 cells slots Q (F0 m (pc + 1) ls rest)) : W p l e R s m args below meth c H locs cells slots Q (F0 m pc ls (.ref v :: .int x :: .ref (gG S t i) :: rest)) := by
  have hany := hv.any X w
  obtain ⟨ws, q0, hP, hD, hq, hm⟩ := w.at hV
  have hq' := hq
  rw [cell_arrR ht hr] at hq
  refine va_astqM (t0 := 0) X.1 X.2.1 X.2.2.2.2.2.2.2.1 hP hD w.2 q0 hq (by rw [hak]; rfl) hany hin hdg (fun H1 locs1 a b c' => ?_)
  refine kk H1 locs1 ⟨WP.put w.1.2 hD hV hq' hm a b rfl rfl ?_ (fun t' i' h => cell_sB h), c'⟩
  rw [cell_arrR ht hr]
  exact congrArg (fun f => (Sum.inl (cy (ak t), mN S t i, Sum.inr (Sum.inr (Sum.inr (Sum.inr f)))) : va_E)) (up2_s _ t i _)
theorem aCpR {t1 i1 : Nat} {sp dp n : Int32} (X : Cx s0 l D cy p s m args meth c cc nL own ret) (w : Wd s0 D cy S s.heap H locs) (hlv : ls.size = nL) (hV : vV S t i) (ht : ¬ t < 21) (hr : isRefA t = true) (hak : ak t = 0) (hV1 : vV S t1 i1) (ht1 : ¬ t1 < 21) (hr1 : isRefA t1 = true) (hak1 : ak t1 = 0)
    (hlink : Cond.methodLink own index arraycopyName ∈ ALLW) (h1 : ¬ sp < 0) (h2 : ¬ dp < 0) (h3 : ¬ n < 0) (h4 : sp.toNatClampNeg + n.toNatClampNeg ≤ mN S t i) (h5 : dp.toNatClampNeg + n.toNatClampNeg ≤ mN S t1 i1) (hel : ∀ j : Nat, j < n.toNatClampNeg → ∀ y : Nat, mB S t i (sp.toNatClampNeg + j) = some y → EL s0 S y)
    (hframes : 1 ≤ R.frames) (hlocals : (rest.map fun v => v.category).sum + (nativeFrameWords "java/lang/System" "arraycopy" 5 + 11) ≤ R.locals) (hdg : decode cc pc = .ok (.invokestatic index, 3))
    (kk : ∀ (H1 : Heap) (locs1 : List Loc), Wd s0 D cy (sB S t1 i1 (va_cpy (mB S t i) (mB S t1 i1) sp.toNatClampNeg dp.toNatClampNeg n.toNatClampNeg)) s.heap H1 locs1 → W p l e R s m args below meth c H1 locs1 cells slots Q (F0 m (pc + 3) ls rest)) : W p l e R s m args below meth c H locs cells slots Q (F0 m pc ls (.int n :: .int dp :: .ref (gG S t1 i1) :: .int sp :: .ref (gG S t i) :: rest)) := by
  obtain ⟨ws, q0, hP, hD, hq, hm⟩ := w.at hV
  obtain ⟨q1, hq1⟩ := List.getElem?_of_mem (hm t1 i1 hV1)
  have hq' := hq1
  rw [cell_arrR ht hr] at hq
  rw [cell_arrR ht1 hr1] at hq1
  refine va_copyM (t0 := 0) (t1 := 0) X.1 X.2.1 (X.2.2.1.trans hlv.symm) X.2.2.2.1 (X.2.2.2.2.1 _ hlink) (Gl.nat X.2.2.2.2.2.2.2.2.2 X.2.2.2.2.2.2.2.2.1 wNat_java_lang_System_arraycopy__Ljava_lang_Object_ILjava_lang_Object_II_V) (X.2.2.2.2.1 _ wSt_java_lang_System_arraycopy__Ljava_lang_Object_ILjava_lang_Object_II_V) (X.2.2.2.2.1 _ wI_J10) X.2.2.2.2.2.2.2.1 hP hD w.2 q0 q1 hq hq1 (by rw [hak]; rfl) (by rw [hak1]; rfl) h1 h2 h3 h4 h5 (fun j hj y hy => (hel j hj y hy).any X w) hframes hlocals hdg (fun H1 locs1 a b c' => ?_)
  refine kk H1 locs1 ⟨WP.put w.1.2 hD hV1 hq' hm a b rfl rfl ?_ (fun t' i' h => cell_sB h), c'⟩
  rw [cell_arrR ht1 hr1]
  exact congrArg (fun f => (Sum.inl (cy (ak t1), mN S t1 i1, Sum.inr (Sum.inr (Sum.inr (Sum.inr f)))) : va_E)) (up2_s _ t1 i1 _)
/-- the same heap, told by other roles -/
theorem WP.map {S' : HS} (h : WP s0 D cy S H) (f : Nat → Nat → Nat × Nat) (hv : ∀ t i, vV S' t i → vV S (f t i).1 (f t i).2 ∧ gG S' t i = gG S (f t i).1 (f t i).2 ∧ cellM cy S' t i = cellM cy S (f t i).1 (f t i).2) (inj : ∀ t i t' i', vV S' t i → vV S' t' i' → f t i = f t' i' → t = t' ∧ i = i') : WP s0 D cy S' H := by
  obtain ⟨⟨ws, hP, hD, hm⟩, hi⟩ := h
  refine ⟨⟨ws, hP, hD, fun t i ht => ?_⟩, fun t i t' i' h h' hg => ?_⟩
  · obtain ⟨a, b, c⟩ := hv t i ht
    rw [b, c]; exact hm _ _ a
  · obtain ⟨a, b, -⟩ := hv t i h
    obtain ⟨a', b', -⟩ := hv t' i' h'
    obtain ⟨e1, e2⟩ := hi _ _ _ _ a a' (by rw [← b, ← b', hg])
    exact inj t i t' i' h h' (Prod.ext e1 e2)
end ADD

