/-! texts: rows of bytes, strings, builders -/
section STR
variable {p : Program} {l : Launch} {e : Env} {R : Room} {s : State} {m : MethodId} {args : Array Value} {below : List Frame} {meth : Method} {c : Code} {H : Heap} {locs : List Loc} {cells slots : Nat} {Q : State → Prop} {cc : ByteArray} {pc nL : Nat} {ls : Array Slot} {rest : List Value} {s0 : State} {D : va_G} {cy : Nat → ClassId} {S S' : HS} {own : String} {ret : Option FieldType} {post : Option Value → HS → Prop} {i index : Nat}
variable {y : MethodName} {ccy : ByteArray} {ny nA : Nat} {rety : Option FieldType} {rm : Room} {As st : List Value} {lv : List (Nat × Value)}
theorem g_18_0 {x : Option Nat} (X : Cx s0 l D cy p s m args meth c cc nL own ret) (w : Wd s0 D cy S s.heap H locs) (hV : vV S 18 i) (hl : Cond.fieldLink own index "java/lang/AbstractStringBuilder" "value" "[B" ∈ ALLW) (hv : mR S 288 i = x) (hdg : decode cc pc = .ok (.getfield index, 3)) (kk : W p l e R s m args below meth c H locs cells slots Q (F0 m (pc + 3) ls (va_rf x :: rest))) : W p l e R s m args below meth c H locs cells slots Q (F0 m pc ls (.ref (gG S 18 i) :: rest)) := gF (t := 18) (k := 0) X w hV (by decide) rfl (by decide) in_18 rfl rfl rfl hl (congrArg va_rf hv) hdg kk
theorem p_18_0 {x : Option Nat} (X : Cx s0 l D cy p s m args meth c cc nL own ret) (w : Wd s0 D cy S s.heap H locs) (hV : vV S 18 i) (hl : Cond.fieldLink own index "java/lang/AbstractStringBuilder" "value" "[B" ∈ ALLW) (hdg : decode cc pc = .ok (.putfield index, 3)) (kk : ∀ (H1 : Heap) (locs1 : List Loc), Wd s0 D cy (sR S 288 i x) s.heap H1 locs1 → W p l e R s m args below meth c H1 locs1 cells slots Q (F0 m (pc + 3) ls rest)) : W p l e R s m args below meth c H locs cells slots Q (F0 m pc ls (va_rf x :: .ref (gG S 18 i) :: rest)) := pF (t := 18) (k := 0) X w hV (by decide) rfl (by decide) in_18 rfl rfl rfl rfl hl tyJ4 tyJ4_ok nmJ4 (by rfl) (nar_a x) (fit_a x) (fun t' i' h => fv_sR_ne h) (fv_sR rfl) hdg kk
theorem g_18_1 {x : Int32} (X : Cx s0 l D cy p s m args meth c cc nL own ret) (w : Wd s0 D cy S s.heap H locs) (hV : vV S 18 i) (hl : Cond.fieldLink own index "java/lang/AbstractStringBuilder" "coder" "B" ∈ ALLW) (hv : mI S 289 i = x) (hdg : decode cc pc = .ok (.getfield index, 3)) (kk : W p l e R s m args below meth c H locs cells slots Q (F0 m (pc + 3) ls (.int x :: rest))) : W p l e R s m args below meth c H locs cells slots Q (F0 m pc ls (.ref (gG S 18 i) :: rest)) := gF (t := 18) (k := 1) X w hV (by decide) rfl (by decide) in_18 rfl rfl rfl hl (congrArg Value.int hv) hdg kk
theorem p_18_1 {x : Int32} (X : Cx s0 l D cy p s m args meth c cc nL own ret) (w : Wd s0 D cy S s.heap H locs) (hV : vV S 18 i) (hl : Cond.fieldLink own index "java/lang/AbstractStringBuilder" "coder" "B" ∈ ALLW) (hz : x = 0) (hdg : decode cc pc = .ok (.putfield index, 3)) (kk : ∀ (H1 : Heap) (locs1 : List Loc), Wd s0 D cy (sI S 289 i x) s.heap H1 locs1 → W p l e R s m args below meth c H1 locs1 cells slots Q (F0 m (pc + 3) ls rest)) : W p l e R s m args below meth c H locs cells slots Q (F0 m pc ls (.int x :: .ref (gG S 18 i) :: rest)) := pF (t := 18) (k := 1) X w hV (by decide) rfl (by decide) in_18 rfl rfl rfl rfl hl tyJ4 tyJ4_ok nmJ4 (by rfl) (by rw [hz]; rfl) (by rw [hz]; rfl) (fun t' i' h => fv_sI_ne h) (fv_sI rfl) hdg kk
theorem g_18_3 {x : Int32} (X : Cx s0 l D cy p s m args meth c cc nL own ret) (w : Wd s0 D cy S s.heap H locs) (hV : vV S 18 i) (hl : Cond.fieldLink own index "java/lang/AbstractStringBuilder" "count" "I" ∈ ALLW) (hv : mI S 291 i = x) (hdg : decode cc pc = .ok (.getfield index, 3)) (kk : W p l e R s m args below meth c H locs cells slots Q (F0 m (pc + 3) ls (.int x :: rest))) : W p l e R s m args below meth c H locs cells slots Q (F0 m pc ls (.ref (gG S 18 i) :: rest)) := gF (t := 18) (k := 3) X w hV (by decide) rfl (by decide) in_18 rfl rfl rfl hl (congrArg Value.int hv) hdg kk
theorem p_18_3 {x : Int32} (X : Cx s0 l D cy p s m args meth c cc nL own ret) (w : Wd s0 D cy S s.heap H locs) (hV : vV S 18 i) (hl : Cond.fieldLink own index "java/lang/AbstractStringBuilder" "count" "I" ∈ ALLW) (hdg : decode cc pc = .ok (.putfield index, 3)) (kk : ∀ (H1 : Heap) (locs1 : List Loc), Wd s0 D cy (sI S 291 i x) s.heap H1 locs1 → W p l e R s m args below meth c H1 locs1 cells slots Q (F0 m (pc + 3) ls rest)) : W p l e R s m args below meth c H locs cells slots Q (F0 m pc ls (.int x :: .ref (gG S 18 i) :: rest)) := pF (t := 18) (k := 3) X w hV (by decide) rfl (by decide) in_18 rfl rfl rfl rfl hl tyJ4 tyJ4_ok nmJ4 (by rfl) rfl rfl (fun t' i' h => fv_sI_ne h) (fv_sI rfl) hdg kk

/-- rows of bytes: of the start, or of ours -/
def CBA (s0 : State) (b w : Nat) : Prop := ∃ f : Nat → Int32, sb_Fit f ∧ va_T .byte b w (fun j => .int (f j)) (A0 s0) s0 s0.heap
def RBA (S : HS) (k b w : Nat) : Prop := ∃ j, j < k ∧ b = gG S 42 j ∧ vV S 42 j ∧ mN S 42 j = w ∧ sb_Fit (mA S 42 j)
def BA (s0 : State) (S : HS) (k b w : Nat) : Prop := CBA s0 b w ∨ RBA S k b w
/-- strings: constants, or made -/
def CSA (s0 : State) (a w : Nat) : Prop := ∃ b, va_O "java/lang/String" a (A0 s0) s0 s0.heap ∧ va_OF "java/lang/String" "coder" "B" (.int 0) a (A0 s0) s0 s0.heap ∧ va_OF "java/lang/String" "value" "[B" (.ref b) a (A0 s0) s0 s0.heap ∧ CBA s0 b w
def SA (s0 : State) (S : HS) (k a w : Nat) : Prop := CSA s0 a w ∨ ∃ i, vV S 19 i ∧ a = gG S 19 i ∧ mI S 305 i = 0 ∧ ∃ b, mR S 304 i = some b ∧ RBA S k b w
theorem recSA {k a w0 : Nat} (X : Cx s0 l D cy p s m args meth c cc nL own ret) (w : Wd s0 D cy S s.heap H locs) (h : SA s0 S k a w0) : ∃ cell : Cell, H[a]? = some cell ∧ cell.vm.isStatics = false ∧ s.vm.findClass "java/lang/String" = some cell.cls := by
  rcases h with ⟨b, h, -⟩ | ⟨i, hV, rfl, -⟩
  · obtain ⟨cell, h1, h2, h3, -⟩ := ((h.moved X.2.2.2.2.2.2.2.2.1.1).kept X.2.2.2.2.2.2.2.2.1.same).kept w.2.2.1
    exact ⟨cell, h1, h2, h3⟩
  · exact recvG (t := 19) X w hV (by decide) rfl
theorem gCoA {k a w0 : Nat} (X : Cx s0 l D cy p s m args meth c cc nL own ret) (w : Wd s0 D cy S s.heap H locs) (h : SA s0 S k a w0) (hl : Cond.fieldLink own index "java/lang/String" "coder" "B" ∈ ALLW) (hdg : decode cc pc = .ok (.getfield index, 3)) (kk : W p l e R s m args below meth c H locs cells slots Q (F0 m (pc + 3) ls (.int 0 :: rest))) : W p l e R s m args below meth c H locs cells slots Q (F0 m pc ls (.ref a :: rest)) := by
  rcases h with ⟨b, -, h, -⟩ | ⟨i, hV, rfl, h, -⟩
  · exact vk_getf X.1 X.2.1 ((h.moved X.2.2.2.2.2.2.2.2.1.1).kept X.2.2.2.2.2.2.2.2.1.same) w.2 X.2.2.2.1 (X.2.2.2.2.1 _ hl) (fun _ h => h) hdg kk
  · exact g_19_1 X w hV hl h hdg kk
theorem gVaA {k a w0 : Nat} (X : Cx s0 l D cy p s m args meth c cc nL own ret) (w : Wd s0 D cy S s.heap H locs) (h : SA s0 S k a w0) (hl : Cond.fieldLink own index "java/lang/String" "value" "[B" ∈ ALLW) (hdg : decode cc pc = .ok (.getfield index, 3)) (kk : ∀ b, BA s0 S k b w0 → W p l e R s m args below meth c H locs cells slots Q (F0 m (pc + 3) ls (.ref b :: rest))) : W p l e R s m args below meth c H locs cells slots Q (F0 m pc ls (.ref a :: rest)) := by
  rcases h with ⟨b, -, -, h, hb⟩ | ⟨i, hV, rfl, -, b, h, hb⟩
  · exact vk_getf X.1 X.2.1 ((h.moved X.2.2.2.2.2.2.2.2.1.1).kept X.2.2.2.2.2.2.2.2.1.same) w.2 X.2.2.2.1 (X.2.2.2.2.1 _ hl) (fun _ h => h) hdg (kk b (Or.inl hb))
  · exact g_19_0 X w hV hl h hdg (kk b (Or.inr hb))
theorem cba_at {b w0 : Nat} (X : Cx s0 l D cy p s m args meth c cc nL own ret) (h : CBA s0 b w0) : ∃ f : Nat → Int32, sb_Fit f ∧ va_T .byte b w0 (fun j => .int (f j)) (A0 s0) s s.heap := by
  obtain ⟨f, hf, hT⟩ := h
  exact ⟨f, hf, (hT.moved X.2.2.2.2.2.2.2.2.1.1).kept X.2.2.2.2.2.2.2.2.1.same⟩
theorem lenBA {k b w0 : Nat} (X : Cx s0 l D cy p s m args meth c cc nL own ret) (w : Wd s0 D cy S s.heap H locs) (h : BA s0 S k b w0) (hdg : decode cc pc = .ok (.arraylength, 1)) (kk : W p l e R s m args below meth c H locs cells slots Q (F0 m (pc + 1) ls (.int (nI w0) :: rest))) : W p l e R s m args below meth c H locs cells slots Q (F0 m pc ls (.ref b :: rest)) := by
  rcases h with h | ⟨j, -, rfl, hV, hN, -⟩
  · obtain ⟨f, -, hT⟩ := cba_at X h
    exact va_tlen X.1 X.2.1 hT w.2 rfl hdg kk
  · exact aLen (t := 42) X w hV (by decide) rfl hN hdg kk
theorem aStB {x v : Int32} (X : Cx s0 l D cy p s m args meth c cc nL own ret) (w : Wd s0 D cy S s.heap H locs) (hV : vV S 42 i) (hin : vp_in x (mN S 42 i)) (hdg : decode cc pc = .ok (.bastore, 1))
    (kk : ∀ (H1 : Heap) (locs1 : List Loc), Wd s0 D cy (sA S 42 i (upd (mA S 42 i) x.toNatClampNeg (vp_nar .byte v))) s.heap H1 locs1 → W p l e R s m args below meth c H1 locs1 cells slots Q (F0 m (pc + 1) ls rest)) : W p l e R s m args below meth c H locs cells slots Q (F0 m pc ls (.int v :: .int x :: .ref (gG S 42 i) :: rest)) := by
  obtain ⟨ws, q0, hP, hD, hq, hm⟩ := w.at hV
  have hq' := hq
  rw [cell_arr (by decide) rfl] at hq
  refine va_bast X.1 X.2.1 X.2.2.2.2.2.2.2.1 hP hD w.2 q0 (ak 42) hq rfl hin hdg (fun H1 locs1 a b c' => ?_)
  refine kk H1 locs1 ⟨WP.put w.1.2 hD hV hq' hm a b rfl rfl ?_ (fun t' i' h => cell_sA h), c'⟩
  rw [cell_arr (by decide) rfl]
  exact congrArg (fun f => (Sum.inl (cy (ak 42), mN S 42 i, Sum.inl f) : va_E)) (up2_s _ 42 i _)
theorem cpBB {i1 : Nat} {sp dp n : Int32} (X : Cx s0 l D cy p s m args meth c cc nL own ret) (w : Wd s0 D cy S s.heap H locs) (hlv : ls.size = nL) (hV : vV S 42 i) (hV1 : vV S 42 i1) (hf : sb_Fit (mA S 42 i))
    (hlink : Cond.methodLink own index arraycopyName ∈ ALLW) (h1 : ¬ sp < 0) (h2 : ¬ dp < 0) (h3 : ¬ n < 0) (h4 : sp.toNatClampNeg + n.toNatClampNeg ≤ mN S 42 i) (h5 : dp.toNatClampNeg + n.toNatClampNeg ≤ mN S 42 i1)
    (hframes : 1 ≤ R.frames) (hlocals : (rest.map fun v => v.category).sum + (nativeFrameWords "java/lang/System" "arraycopy" 5 + 11) ≤ R.locals) (hdg : decode cc pc = .ok (.invokestatic index, 3))
    (kk : ∀ (H1 : Heap) (locs1 : List Loc), Wd s0 D cy (sA S 42 i1 (va_cpy (mA S 42 i) (mA S 42 i1) sp.toNatClampNeg dp.toNatClampNeg n.toNatClampNeg)) s.heap H1 locs1 → W p l e R s m args below meth c H1 locs1 cells slots Q (F0 m (pc + 3) ls rest)) : W p l e R s m args below meth c H locs cells slots Q (F0 m pc ls (.int n :: .int dp :: .ref (gG S 42 i1) :: .int sp :: .ref (gG S 42 i) :: rest)) := by
  obtain ⟨ws, q0, hP, hD, hq, hm⟩ := w.at hV
  obtain ⟨q1, hq1⟩ := List.getElem?_of_mem (hm 42 i1 hV1)
  have hq' := hq1
  rw [cell_arr (by decide) rfl] at hq
  rw [cell_arr (by decide) rfl] at hq1
  refine va_copyi (t0 := 3) (t1 := 3) (ty := .byte) X.1 X.2.1 (X.2.2.1.trans hlv.symm) X.2.2.2.1 (X.2.2.2.2.1 _ hlink) (Gl.nat X.2.2.2.2.2.2.2.2.2 X.2.2.2.2.2.2.2.2.1 wNat_java_lang_System_arraycopy__Ljava_lang_Object_ILjava_lang_Object_II_V) (X.2.2.2.2.1 _ wSt_java_lang_System_arraycopy__Ljava_lang_Object_ILjava_lang_Object_II_V) (X.2.2.2.2.1 _ wI_J10) X.2.2.2.2.2.2.2.1 hP hD w.2 q0 q1 hq hq1 rfl rfl rfl h1 h2 h3 h4 h5 (fun j _ => hf _) hframes hlocals hdg (fun H1 locs1 a b c' => ?_)
  refine kk H1 locs1 ⟨WP.put w.1.2 hD hV1 hq' hm a b rfl rfl ?_ (fun t' i' h => cell_sA h), c'⟩
  rw [cell_arr (by decide) rfl]
  exact congrArg (fun f => (Sum.inl (cy (ak 42), mN S 42 i1, Sum.inl f) : va_E)) (up2_s _ 42 i1 _)
theorem cpy_fit {f g : Nat → Int32} {a b n : Nat} (hf : sb_Fit f) (hg : sb_Fit g) : sb_Fit (va_cpy f g a b n) := fun j => by
  unfold va_cpy
  split
  · exact hf _
  · exact hg _
theorem cpBA {k i1 b w0 : Nat} {dp : Int32} (X : Cx s0 l D cy p s m args meth c cc nL own ret) (w : Wd s0 D cy S s.heap H locs) (hlv : ls.size = nL) (h : BA s0 S k b w0) (hV1 : vV S 42 i1) (hg : sb_Fit (mA S 42 i1)) (hw : w0 < 2 ^ 31)
    (hlink : Cond.methodLink own index arraycopyName ∈ ALLW) (h2 : ¬ dp < 0) (h5 : dp.toNatClampNeg + w0 ≤ mN S 42 i1)
    (hframes : 1 ≤ R.frames) (hlocals : (rest.map fun v => v.category).sum + (nativeFrameWords "java/lang/System" "arraycopy" 5 + 11) ≤ R.locals) (hdg : decode cc pc = .ok (.invokestatic index, 3))
    (kk : ∀ (f : Nat → Int32) (H1 : Heap) (locs1 : List Loc), sb_Fit f → Wd s0 D cy (sA S 42 i1 f) s.heap H1 locs1 → W p l e R s m args below meth c H1 locs1 cells slots Q (F0 m (pc + 3) ls rest)) : W p l e R s m args below meth c H locs cells slots Q (F0 m pc ls (.int (nI w0) :: .int dp :: .ref (gG S 42 i1) :: .int 0 :: .ref b :: rest)) := by
  have ew : (nI w0).toNatClampNeg = w0 := nI_clamp hw
  rcases h with h | ⟨j, -, rfl, hV, hN, hf⟩
  · obtain ⟨f, hf, hT⟩ := cba_at X h
    obtain ⟨ws, q1, hP, hD, hq1, hm⟩ := w.at hV1
    have hq' := hq1
    rw [cell_arr (by decide) rfl] at hq1
    refine vk_copyt (t1 := 3) X.1 X.2.1 (X.2.2.1.trans hlv.symm) X.2.2.2.1 (X.2.2.2.2.1 _ hlink) (Gl.nat X.2.2.2.2.2.2.2.2.2 X.2.2.2.2.2.2.2.2.1 wNat_java_lang_System_arraycopy__Ljava_lang_Object_ILjava_lang_Object_II_V) (X.2.2.2.2.1 _ wSt_java_lang_System_arraycopy__Ljava_lang_Object_ILjava_lang_Object_II_V) (X.2.2.2.2.1 _ wI_J10) X.2.2.2.2.2.2.2.1 hP hD w.2 hT q1 hq1 rfl (by decide) h2 (nI_pos hw) (by rw [ew]; exact Nat.le_of_eq (Nat.zero_add _)) (by rw [ew]; exact h5) (fun i _ => hf _) hframes hlocals hdg (fun H1 locs1 a b c' => ?_)
    refine kk (va_cpy f (mA S 42 i1) (0 : Int32).toNatClampNeg dp.toNatClampNeg (nI w0).toNatClampNeg) H1 locs1 (cpy_fit hf hg) ⟨WP.put w.1.2 hD hV1 hq' hm a b rfl rfl ?_ (fun t' i' h => cell_sA h), c'⟩
    rw [cell_arr (by decide) rfl]
    exact congrArg (fun f => (Sum.inl (cy (ak 42), mN S 42 i1, Sum.inl f) : va_E)) (up2_s _ 42 i1 _)
  · exact cpBB X w hlv hV hV1 hf hlink (by decide) h2 (nI_pos hw) (by rw [ew, hN]; exact Nat.le_of_eq (Nat.zero_add _)) (by rw [ew]; exact h5) hframes hlocals hdg (fun H1 locs1 w => kk (va_cpy (mA S 42 j) (mA S 42 i1) (0 : Int32).toNatClampNeg dp.toNatClampNeg (nI w0).toNatClampNeg) H1 locs1 (cpy_fit hf hg) w)

/-- a private method of the builder's superclass is chosen as it stands -/
theorem Gl.prv {y : MethodName} {A : Array Value} (G : Gl s0 l D cy) (hb : Bs s0 s) (h : Cond.privateMethod y ∈ lw_tbl) : (Cond.privateMethod y).before A s = true := by
  obtain ⟨-, -, b, hts, -⟩ := G
  exact tab_at (A := #[.ref b]) rfl (by rw [Cond.privateMethod_setVm hb.1]; exact hts _ h)
theorem sel5 {y : MethodName} (X : Cx s0 l D cy p s m args meth c cc nL own ret) (hy : y.cls = "java/lang/AbstractStringBuilder") (hp : Cond.privateMethod y ∈ lw_tbl) (hin : Cond.instanceMethod y ∈ ALLW) : (Cond.selects "java/lang/StringBuilder" y y).before args s = true := by
  have hpr := Cond.privateMethod_at (Gl.prv (A := args) X.2.2.2.2.2.2.2.2.2 X.2.2.2.2.2.2.2.2.1 hp)
  obtain ⟨mk, methM, hnamed, hmethM, -, -⟩ := Cond.instanceMethod_spec (X.2.2.2.2.1 _ hin)
  obtain ⟨c2, r2, m2, q1, q2, q3, q4, kP, hkP, hkPi⟩ := Cond.selects_spec (X.2.2.2.2.1 _ wSe_J4_J5_isLatin1_aae02)
  have hfound : s.methodFound? y.cls y.name y.desc = some mk := State.methodFound?_of_named hnamed (by rw [hy]; exact ⟨by decide, by decide⟩)
  have hcls : mk.cls = m2.cls := Option.some.inj ((findClass_of_methodNamed hnamed).symm.trans (by rw [hy]; exact findClass_of_methodNamed q3))
  have hsel : selectMethod {} s.vm c2 mk = .method mk := selectMethod_private hmethM (hpr mk methM hnamed hmethM)
  simp only [Cond.before, Cond.holds, Cond.value, q1, hfound, hnamed, hsel, hcls, hkP]
  simp; exact hkPi
theorem cU {t : Nat} {C : String} {T : u_T} (X : Cx s0 l D cy p s m args meth c cc nL own ret) (w : Wd s0 D cy S s.heap H locs) (hl : lv_has ls nL lv) (hV : vV S t i) (hM : Ctr s0 l D cy y ccy ny rety rm S (.ref (gG S t i) :: As) post) (hY : Cond.code y ccy ny rety ∈ ALLW) (hL : Cond.methodLink own index y ∈ ALLW) (hIn : Cond.instanceMethod y ∈ ALLW) (hsa : Cond.sameMethod y.cls y.cls y.name y.desc ∈ ALLW) (hSe : (Cond.selects C y y).before args s = true) (hI : Cond.initialized y.cls ∈ ALLW) (ht : t < 21) (hc : CL[t]? = some (C, T, nf t)) (hd : okY y nA = true) (hn : As.length = nA) (hst : st = As.reverse ++ .ref (gG S t i) :: rest) (hdg : decode cc pc = .ok (.invokevirtual index, 3)) (hR : rm.frames + 1 ≤ R.frames ∧ 8 + (ny + 11) + rm.locals ≤ R.locals) (hcat : (rest.map fun v => v.category).sum ≤ 8) (hf : cells + rm.cells ≤ R.cells ∧ slots + rm.slots ≤ R.slots)
    (kk : ∀ (v : Option Value) (S' : HS) (H1 : Heap) (locs1 : List Loc), post v S' → Wd s0 D cy S' s.heap H1 locs1 → W p l e R s m args below meth c H1 locs1 (cells + rm.cells) (slots + rm.slots) Q (F0 m (pc + 3) ls (v.toList ++ rest))) : W p l e R s m args below meth c H locs cells slots Q (F0 m pc ls st) :=
  callG (va_runU (C := C) (owner := y.cls) (x := y) (Ts := ALLW) (own := own) (As := As) (rest := rest) ⟨X.1, X.2.1, X.2.2.1, X.2.2.2.1, X.2.2.2.2.1⟩ hM ⟨⟨rfl, rfl, hR.1, hR.2, pay_in X.2.2.2.2.1 (gIn hY), List.mem_cons_self⟩, X.2.2.2.2.1 _ hY, X.2.2.2.2.1 _ hI, ⟨(okY_of hd).1, (okY_of hd).2.1⟩, (fun sig h => by
    have h2 := (okY_of hd).2.2
    rw [h] at h2
    exact (Option.some.inj h2).symm), X.2.2.2.2.1 _ hL, X.2.2.2.2.1 _ hsa, va_Decl.of (X.2.2.2.2.1 _ hIn) (X.2.2.2.2.1 _ hY), hSe, X.2.2.2.2.1 _ hIn⟩ ⟨blindG, recvG X w hV ht hc, preU X.2.2.2.2.2.2.2.2.1 w⟩ rfl hn hl.1 hst (lv_room hcat) hdg hf) X.2.2.2.2.2.2.2.2.1.2.1 w.2 kk
theorem cO {t : Nat} {C : String} {T : u_T} {x : MethodName} (X : Cx s0 l D cy p s m args meth c cc nL own ret) (w : Wd s0 D cy S s.heap H locs) (hl : lv_has ls nL lv) (hV : vV S t i) (hM : Ctr s0 l D cy y ccy ny rety rm S (.ref (gG S t i) :: As) post) (hY : Cond.code y ccy ny rety ∈ ALLW) (hL : Cond.methodLink own index x ∈ ALLW) (hIn : Cond.instanceMethod y ∈ ALLW) (hsa : Cond.sameMethod x.cls x.cls x.name x.desc ∈ ALLW) (hInx : Cond.instanceMethod x ∈ ALLW) {bx : ByteArray} {nx : Nat} {rx : Option FieldType} (hYx : Cond.code x bx nx rx ∈ ALLW) (hSe : Cond.selects C x y ∈ ALLW) (hI : Cond.initialized y.cls ∈ ALLW) (ht : t < 21) (hc : CL[t]? = some (C, T, nf t)) (hd : okY x nA = true) (hn : As.length = nA) (hst : st = As.reverse ++ .ref (gG S t i) :: rest) (hdg : decode cc pc = .ok (.invokevirtual index, 3)) (hR : rm.frames + 1 ≤ R.frames ∧ 8 + (ny + 11) + rm.locals ≤ R.locals) (hcat : (rest.map fun v => v.category).sum ≤ 8) (hf : cells + rm.cells ≤ R.cells ∧ slots + rm.slots ≤ R.slots)
    (kk : ∀ (v : Option Value) (S' : HS) (H1 : Heap) (locs1 : List Loc), post v S' → Wd s0 D cy S' s.heap H1 locs1 → W p l e R s m args below meth c H1 locs1 (cells + rm.cells) (slots + rm.slots) Q (F0 m (pc + 3) ls (v.toList ++ rest))) : W p l e R s m args below meth c H locs cells slots Q (F0 m pc ls st) :=
  callG (va_runU (C := C) (owner := x.cls) (x := x) (Ts := ALLW) (own := own) (As := As) (rest := rest) ⟨X.1, X.2.1, X.2.2.1, X.2.2.2.1, X.2.2.2.2.1⟩ hM ⟨⟨rfl, rfl, hR.1, hR.2, pay_in X.2.2.2.2.1 (gIn hY), List.mem_cons_self⟩, X.2.2.2.2.1 _ hY, X.2.2.2.2.1 _ hI, ⟨(okY_of hd).1, (okY_of hd).2.1⟩, (fun sig h => by
    have h2 := (okY_of hd).2.2
    rw [h] at h2
    exact (Option.some.inj h2).symm), X.2.2.2.2.1 _ hL, X.2.2.2.2.1 _ hsa, va_Decl.of (X.2.2.2.2.1 _ hInx) (X.2.2.2.2.1 _ hYx), X.2.2.2.2.1 _ hSe, X.2.2.2.2.1 _ hIn⟩ ⟨blindG, recvG X w hV ht hc, preU X.2.2.2.2.2.2.2.2.1 w⟩ rfl hn hl.1 hst (lv_room hcat) hdg hf) X.2.2.2.2.2.2.2.2.1.2.1 w.2 kk
theorem cSU {t : Nat} {C : String} {T : u_T} (X : Cx s0 l D cy p s m args meth c cc nL own ret) (w : Wd s0 D cy S s.heap H locs) (hl : lv_has ls nL lv) (hV : vV S t i) (hM : Ctr s0 l D cy y ccy ny rety rm S (.ref (gG S t i) :: As) post) (hY : Cond.code y ccy ny rety ∈ ALLW) (hL : Cond.methodLink own index y ∈ ALLW) (hIn : Cond.instanceMethod y ∈ ALLW) (hsa : Cond.sameMethod y.cls y.cls y.name y.desc ∈ ALLW) (hsu : Cond.superclass own y.cls ∈ ALLW) (hno : y.name ≠ "<init>") (hI : Cond.initialized y.cls ∈ ALLW) (ht : t < 21) (hc : CL[t]? = some (C, T, nf t)) (hd : okY y nA = true) (hn : As.length = nA) (hst : st = As.reverse ++ .ref (gG S t i) :: rest) (hdg : decode cc pc = .ok (.invokespecial index, 3)) (hR : rm.frames + 1 ≤ R.frames ∧ 8 + (ny + 11) + rm.locals ≤ R.locals) (hcat : (rest.map fun v => v.category).sum ≤ 8) (hf : cells + rm.cells ≤ R.cells ∧ slots + rm.slots ≤ R.slots)
    (kk : ∀ (v : Option Value) (S' : HS) (H1 : Heap) (locs1 : List Loc), post v S' → Wd s0 D cy S' s.heap H1 locs1 → W p l e R s m args below meth c H1 locs1 (cells + rm.cells) (slots + rm.slots) Q (F0 m (pc + 3) ls (v.toList ++ rest))) : W p l e R s m args below meth c H locs cells slots Q (F0 m pc ls st) :=
  callG (va_runSU (C := C) (Ts := ALLW) (own := own) (As := As) (rest := rest) (X.2.2.2.2.2.2.2.1.1 t _ hc).2 ⟨X.1, X.2.1, X.2.2.1, X.2.2.2.1, X.2.2.2.2.1⟩ hM ⟨⟨rfl, rfl, hR.1, hR.2, pay_in X.2.2.2.2.1 (gIn hY), List.mem_cons_self⟩, X.2.2.2.2.1 _ hL, X.2.2.2.2.1 _ hsa, X.2.2.2.2.1 _ hsu, X.2.2.2.2.1 _ hIn, X.2.2.2.2.1 _ hI, X.2.2.2.2.1 _ hY, hno, (fun sig h => by
    have h2 := (okY_of hd).2.2
    rw [h] at h2
    exact (Option.some.inj h2).symm)⟩ ⟨blindG, recvG X w hV ht hc, preU X.2.2.2.2.2.2.2.2.1 w⟩ rfl hn hl.1 hst (lv_room hcat) hdg hf) X.2.2.2.2.2.2.2.2.1.2.1 w.2 kk
/-- statics of the JDK's texts: what they hold -/
theorem X_cs {s0 s : State} {l : Launch} {D : va_G} {cy : Nat → ClassId} (G : Gl s0 l D cy) (h : Bs s0 s) : va_Z "java/lang/String" "COMPACT_STRINGS" "Z" (.int 1) (A0 s0) s s.heap := by
  obtain ⟨-, -, b, hts, hgv⟩ := G
  have hs := flat_of_before _ hgv
  have h1 : (Cond.eq (.static "java/lang/String" "COMPACT_STRINGS" "Z") (.int 1)).before #[.ref b] s0 = true := hs _ (by decide +kernel)
  exact ((va_Zof (hts _ wLS_J0_COMPACT_STRINGS) (hts _ (List.mem_filter.mp wI_J0).1) (va_eqi h1) (fun a ha => Nat.not_le.mpr ha)).moved h.1).kept h.same
end STR

