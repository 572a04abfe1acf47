/-! the law: methods with a table of handlers; what holds between the calls -/
def CtrH (s0 : State) (l : Launch) (D : va_G) (cy : Nat → ClassId) (y : MethodName) (cc : ByteArray) (n : Nat) (hh : List (Nat × Nat × Nat × Nat)) (ret : Option FieldType) (rm : Room) (S : HS) (As : List Value) (post : Option Value → HS → Prop) : Prop :=
  Met l y (Cond.codeWith y cc n ret hh :: ALLW) rm (va_Pc As (fun U => Bs s0 U ∧ WP s0 D cy S U.heap)) (GQ s0 D cy post) rm.cells rm.slots (A0 s0)
theorem proH {s0 : State} {l : Launch} {D : va_G} {cy : Nat → ClassId} {y : MethodName} {cc : ByteArray} {n : Nat} {hh : List (Nat × Nat × Nat × Nat)} {ret : Option FieldType} {rm : Room} {S : HS} {As : List Value} {post : Option Value → HS → Prop} (own : String) (G : Gl s0 l D cy) (hy : plainName y.cls = true) (hown : y.cls = own) (hlen : (lg_sl As).length ≤ n)
    (body : ∀ (p : Program) (e : Env) (s : State) (m : MethodId) (below : List Frame) (meth : Method) (c : Code) (ls : Array Slot), Cx s0 l D cy p s m As.toArray meth c cc n own ret → Wd s0 D cy S s.heap s.heap [] → c.exceptionTable.toList = tableOf hh → lv_has ls n (lv_args 0 As) →
      W p l e rm s m As.toArray below meth c s.heap [] 0 0 (MQ below (GQ s0 D cy post) As.toArray s rm.cells rm.slots (A0 s0)) (F0 m 0 ls [])) : CtrH s0 l D cy y cc n hh ret rm S As post := by
  unfold CtrH Met
  refine MetFree.of_bodyS (code := cc) (maxLocals := n) (ret := ret) hy ?_ ?_
  · intro args s m h hn
    obtain ⟨m9, meth, c, hn9, h1, h2, h3, h4, -, h5, h6, -⟩ := Cond.codeWith_spec (atoms_spec (ws := Cond.codeWith y cc n ret hh :: ALLW) h _ List.mem_cons_self)
    cases hn.symm.trans hn9
    exact ⟨meth, c, h1, h2, h3, h4, h5, h6⟩
  · intro p e s m args below meth c s₁ B hml hv _
    obtain ⟨rfl, hBs, hWP⟩ := hv
    have hh0 : s₁.heap = s.heap := by rw [B.state]; rfl
    have ht0 := atoms_spec (ws := Cond.codeWith y cc n ret hh :: ALLW) B.pre
    have htab : c.exceptionTable.toList = tableOf hh := vx_table (x := y) B (ht0 _ List.mem_cons_self)
    have hl := lv_entry As (n := n) hlen
    obtain ⟨t, a1, o, b1, b2, b3, b4⟩ := body p e s m below meth c (lg_sl As ++ List.replicate (n - (lg_sl As).length) Slot.unset).toArray ⟨B.exec, B.bytes, hml, by rw [← hown]; exact findClass_of_methodNamed B.named, fun w h => ht0 w (List.mem_cons_of_mem _ h), B.returns, B.notSynchronized, G.at hBs, hBs, G⟩ ⟨hWP, va_S.rf⟩ htab hl s₁ hh0 (Stand.of_body B)
    exact ⟨t, o, by rw [← lg_entry_eq] at a1; exact a1, b1, b2, b3, b4⟩

section LAWR
variable {p : Program} {l : Launch} {e : Env} {R : Room} {s : State} {m : MethodId} {args : Array Value} {below : List Frame} {meth : Method} {c : Code} {H : Heap} {locs : List Loc} {cells slots : Nat} {Q : State → Prop} {cc : ByteArray} {pc nL : Nat} {ls : Array Slot} {rest : List Value} {s0 : State} {D : va_G} {cy : Nat → ClassId} {S S' : HS} {own : String} {ret : Option FieldType} {post : Option Value → HS → Prop} {i index : Nat}
variable {y : MethodName} {ccy : ByteArray} {ny nA : Nat} {rety : Option FieldType} {rm : Room} {As st : List Value} {lv : List (Nat × Value)}

theorem cSW {hh : List (Nat × Nat × Nat × Nat)} (X : Cx s0 l D cy p s m args meth c cc nL own ret) (w : Wd s0 D cy S s.heap H locs) (hl : lv_has ls nL lv) (hM : CtrH s0 l D cy y ccy ny hh rety rm S As post) (hY : Cond.codeWith y ccy ny rety hh ∈ ALLW) (hL : Cond.methodLink own index y ∈ ALLW) (hSt : Cond.static y ∈ ALLW) (hI : Cond.initialized y.cls ∈ ALLW) (hd : okY y nA = true) (hn : As.length = nA) (hst : st = As.reverse ++ rest) (hdg : decode cc pc = .ok (.invokestatic index, 3)) (hR : rm.frames + 1 ≤ R.frames ∧ 8 + (ny + 11) + rm.locals ≤ R.locals) (hcat : (rest.map fun v => v.category).sum ≤ 8) (hf : cells + rm.cells ≤ R.cells ∧ slots + rm.slots ≤ R.slots)
    (kk : ∀ (v : Option Value) (S' : HS) (H1 : Heap) (locs1 : List Loc), post v S' → Wd s0 D cy S' s.heap H1 locs1 → W p l e R s m args below meth c H1 locs1 (cells + rm.cells) (slots + rm.slots) Q (F0 m (pc + 3) ls (v.toList ++ rest))) : W p l e R s m args below meth c H locs cells slots Q (F0 m pc ls st) := by
  have hT : GoodIn ALLW (va_wsS own index y (Cond.codeWith y ccy ny rety hh :: ALLW)) := by
    intro v hv
    rcases List.mem_append.mp hv with h | h
    · simp only [List.mem_cons, List.not_mem_nil, or_false] at h
      rcases h with rfl | rfl | rfl
      · exact gAll hL
      · exact gAll hSt
      · exact gAll hI
    · exact gIn hY v h
  exact callG (vx_runSW (Ts := ALLW) (own := own) (As := As) (rest := rest) ⟨X.1, X.2.1, X.2.2.1, X.2.2.2.1, X.2.2.2.2.1⟩ hM (vx_cwSW nA X.2.2.2.2.1 hT rfl rfl rfl (okY_of hd) hR) ⟨blindG, preU X.2.2.2.2.2.2.2.2.1 w⟩ rfl hn hl.1 hst (lv_room hcat) hdg hf) X.2.2.2.2.2.2.2.2.1.2.1 w.2 kk
theorem cVX {t : Nat} {C : String} {T : u_T} {px : String → HS → Prop} (X : Cx s0 l D cy p s m args meth c cc nL own ret) (w : Wd s0 D cy S s.heap H locs) (hl : lv_has ls nL lv) (hV : vV S t i) (hM : CtX s0 l D cy y ccy ny rety rm S (.ref (gG S t i) :: As) post px) (hY : Cond.code y ccy ny rety ∈ ALLW) (hL : Cond.methodLink own index y ∈ ALLW) (hIn : Cond.instanceMethod y ∈ ALLW) (hSe : Cond.selects C y y ∈ ALLW) (hI : Cond.initialized y.cls ∈ ALLW) (ht : t < 21) (hc : CL[t]? = some (C, T, nf t)) (hd : okY y nA = true) (hn : As.length = nA) (hst : st = As.reverse ++ .ref (gG S t i) :: rest) (hdg : decode cc pc = .ok (.invokevirtual index, 3)) (hR : rm.frames + 1 ≤ R.frames ∧ 8 + (ny + 11) + rm.locals ≤ R.locals) (hcat : (rest.map fun v => v.category).sum ≤ 8) (hf : cells + rm.cells ≤ R.cells ∧ slots + rm.slots ≤ R.slots)
    (kx : ∀ (E : String) (S' : HS) (H1 : Heap) (locs1 : List Loc) (q9 : Nat) (ce : Cell), px E S' → Wd s0 D cy S' s.heap H1 locs1 → H1[q9]? = some ce → ce.vm = .none → s.vm.findClass E = some ce.cls → vx_W p l e R s m args below meth c H1 locs1 (cells + rm.cells) (slots + rm.slots) Q (F0 m pc ls rest) q9)
    (kk : ∀ (v : Option Value) (S' : HS) (H1 : Heap) (locs1 : List Loc), post v S' → Wd s0 D cy S' s.heap H1 locs1 → W p l e R s m args below meth c H1 locs1 (cells + rm.cells) (slots + rm.slots) Q (F0 m (pc + 3) ls (v.toList ++ rest))) : W p l e R s m args below meth c H locs cells slots Q (F0 m pc ls st) := by
  have hr : vx_Run p l e R s m args below meth c H locs cells slots rm.cells rm.slots (F0 m pc ls st) rest (GQ s0 D cy post (Value.ref (gG S t i) :: As).toArray) (GX s0 D cy px) (A0 s0) := vx_runV (C := C) (Ts := ALLW) (own := own) (As := As) (rest := rest) (g := F0 m pc ls st) ⟨X.1, X.2.1, X.2.2.1, X.2.2.2.1, X.2.2.2.2.1⟩ hM ⟨callB_of nA X.2.2.2.2.1 (gIn hY) rfl rfl rfl (X.2.2.2.2.1 _ hI) (X.2.2.2.2.1 _ hL) (okY_of hd) hR, X.2.2.2.2.1 _ hIn, X.2.2.2.2.1 _ hSe⟩ ⟨blindG, recvG X w hV ht hc, preU X.2.2.2.2.2.2.2.2.1 w⟩ rfl hn hl.1 hst (lv_room hcat) hdg hf
  intro T hT X9
  rcases hr T hT X9 with ⟨v, st₀, t, T', L, h1, X', hL, e1, e2, ⟨⟨v', S', hv, hp, hw⟩, hz, hk⟩, st⟩ | ⟨q, st₀, t, T', L, E, ce, h1, X', hL, e1, e2, ⟨⟨S', hp, hw⟩, hz, hk⟩, hce, hcv, hcl, st⟩
  · have hv' : v' = v := by injection hv with h; exact h.symm
    subst hv'
    rw [h1] at hz hk
    obtain ⟨t2, a1, b1⟩ := kk v' S' T'.heap (locs ++ L) hp ⟨by rw [e1]; exact hw, ⟨Nat.le_trans w.2.1 (by rw [e1]; exact hz), fun q h1 h2 => by rw [e1, hk q (Nat.lt_of_lt_of_le h1 w.2.1) h2]; exact w.2.2.1 q h1 h2, fun q hq => by
        rcases List.mem_append.mp hq with h | h
        · exact w.2.2.2 q h
        · exact hL q h⟩⟩ T' rfl X'
    exact ⟨t2, st t2 a1, b1⟩
  · rw [h1] at hz hk
    obtain ⟨t2, a1, b1⟩ := kx E S' T'.heap (locs ++ L) q ce hp ⟨by rw [e1]; exact hw, ⟨Nat.le_trans w.2.1 (by rw [e1]; exact hz), fun q h1 h2 => by rw [e1, hk q (Nat.lt_of_lt_of_le h1 w.2.1) h2]; exact w.2.2.1 q h1 h2, fun q hq => by
        rcases List.mem_append.mp hq with h | h
        · exact w.2.2.2 q h
        · exact hL q h⟩⟩ (by rw [e1]; exact hce) hcv hcl T' rfl X'
    exact ⟨t2, st.trans a1, b1⟩
theorem nc_of {p9 : List Bool} {E T9 : String} (X : Cx s0 l D cy p s m args meth c cc nL own ret) (h : subC GNC p9 = some (Cond.not (.castable E T9))) : va_Nc E T9 s := by
  obtain ⟨-, -, b, -, hgv⟩ := X.2.2.2.2.2.2.2.2.2
  exact (va_Nc.of (subC_at p9 _ _ hgv h)).moved X.2.2.2.2.2.2.2.2.1.1
theorem ca_of {E : String} (X : Cx s0 l D cy p s m args meth c cc nL own ret) (h : Cond.castable E E ∈ NSTW) : (Cond.castable E E).before args s = true := va_Nw.use (nst_tab (List.mem_filter.mp h).2) (X.2.2.2.2.2.2.2.2.1.2.2.2.1 _ h)
/-- the world behind a store that only what is told of may feel -/
theorem WP.putV {H1 : Heap} {ws : va_W} {t i k : Nat} {e1 : va_E} (inj : ∀ t i t' i', vV S t i → vV S t' i' → gG S t i = gG S t' i' → t = t' ∧ i = i') (hV : vV S t i) (hk : ws[k]? = some (gG S t i, cellM cy S t i)) (hm : ∀ t i, vV S t i → (gG S t i, cellM cy S t i) ∈ ws)
    (hP1 : va_P D CL (ws.set k (gG S t i, e1)) H1) (hD1 : va_D (A0 s0) (ws.set k (gG S t i, e1))) (eV : vV S' = vV S) (eG : gG S' = gG S) (he : cellM cy S' t i = e1) (ho : ∀ t' i', vV S t' i' → ¬ (t' = t ∧ i' = i) → cellM cy S' t' i' = cellM cy S t' i') : WP s0 D cy S' H1 := by
  refine ⟨⟨_, hP1, hD1, fun t' i' h => ?_⟩, fun a b a' b' h h' hg => ?_⟩
  · rw [eV] at h
    rw [eG]
    by_cases q : t' = t ∧ i' = i
    · obtain ⟨rfl, rfl⟩ := q
      rw [he]
      exact List.mem_of_getElem? (List.getElem?_set_self (List.getElem?_eq_some_iff.mp hk).1)
    · rw [ho t' i' h q]
      obtain ⟨k', hk'⟩ := List.getElem?_of_mem (hm t' i' h)
      refine List.mem_of_getElem? (i := k') ?_
      rw [List.getElem?_set_ne ?_]
      · exact hk'
      · intro z
        subst z
        have := hk.symm.trans hk'
        have e1 : gG S t i = gG S t' i' := congrArg (fun q => q.1) (Option.some.inj this)
        obtain ⟨rfl, rfl⟩ := inj t i t' i' hV h e1
        exact q ⟨rfl, rfl⟩
  · rw [eV] at h h'
    rw [eG] at hg
    exact inj a b a' b' h h' hg
end LAWR

section PNO
variable {p : Program} {l : Launch} {e : Env} {R : Room} {s : State} {m : MethodId} {args : Array Value} {below : List Frame} {meth : Method} {c : Code} {H : Heap} {locs : List Loc} {cells slots : Nat} {Q : State → Prop} {cc : ByteArray} {pc nL : Nat} {ls : Array Slot} {rest : List Value} {s0 : State} {D : va_G} {cy : Nat → ClassId} {S S' : HS} {own : String} {ret : Option FieldType} {post : Option Value → HS → Prop} {i index : Nat}
variable {y : MethodName} {ccy : ByteArray} {ny nA : Nat} {rety : Option FieldType} {rm : Room} {As st : List Value} {lv : List (Nat × Value)}

theorem pN11 {k : Nat} {host nm ds : String} {v : Value} {ty : FieldType} (X : Cx s0 l D cy p s m args meth c cc nL own ret) (w : Wd s0 D cy S s.heap H locs) (hV : vV S 11 0) (h1 : ∀ j, vV S 11 j → j = 0) (hk : k < 3) (h3 : (TX11 k).2.1 = nm) (h4 : (TX11 k).2.2.1 = ds) (h5 : (TX11 k).1 = "CavershamShiftLaw$Out") (hfin : (TX11 k).2.2.2 = false) (hl : Cond.fieldLinkNest own index "CavershamShiftLaw$Out" nm ds host ∈ NSTW) (hd : parseFieldDescriptor (TX11 k).2.2.1 = some ty) (hn : narrow ty v = v) (hfit : fits ty v = true)
    (ho : ∀ f j, ¬ (f = 176 + k) → fval S' f j = fval S f j) (hs : fval S' (176 + k) 0 = v) (hSame : vV S' = vV S ∧ gG S' = gG S ∧ mN S' = mN S ∧ mA S' = mA S ∧ mB S' = mB S) (hdg : decode cc pc = .ok (.putfield index, 3))
    (kk : ∀ (H1 : Heap) (locs1 : List Loc), Wd s0 D cy S' s.heap H1 locs1 → W p l e R s m args below meth c H1 locs1 cells slots Q (F0 m (pc + 3) ls rest)) : W p l e R s m args below meth c H locs cells slots Q (F0 m pc ls (v :: .ref (gG S 11 0) :: rest)) := by
  obtain ⟨ws, q0, hP, hD, hq, hm⟩ := w.at hV
  have hq' := hq
  rw [cell_obj (by decide)] at hq
  subst h3; subst h4
  have hlk := va_Nw.use (A := args) (nst_tab (List.mem_filter.mp hl).2) (X.2.2.2.2.2.2.2.2.1.2.2.2.1 _ hl)
  refine va_putN X.1 X.2.1 X.2.2.2.2.1 in_11 tyX11 tyX11_ok nmX11 X.2.2.2.1 X.2.2.2.2.2.2.2.1 hP hD w.2 q0 hq (rfl : CL[11]? = some (RX11, TX11, 3)) k hk hlk (fun _ h => by rw [h5] at h; exact h) hfin hd hn hfit (by have e : nf 11 = 3 := rfl; simpa [e] using hk) hdg (fun H1 locs1 a b c' => ?_)
  refine kk H1 locs1 ⟨WP.putV w.1.2 hV hq' hm a b hSame.1 hSame.2.1 ?_ (fun t' i' hv h => ?_), c'⟩
  · rw [cell_obj (by decide), ← hs, rng_set (fun k => fval S (16 * 11 + k) 0) (fun k => fval S' (16 * 11 + k) 0) (fun j hj h => ho _ _ (fun z => h (by omega)))]
  · unfold cellM
    rw [hSame.2.2.1, hSame.2.2.2.1, hSame.2.2.2.2]
    by_cases h21 : t' < 21
    · rw [if_pos h21, if_pos h21]
      congr 2
      apply List.map_congr_left
      intro j hj
      have hj16 : j < 16 := Nat.lt_of_lt_of_le (List.mem_range.mp hj) (nf_le t')
      refine ho _ _ (fun z => h ?_)
      have e11 : t' = 11 := by omega
      subst e11
      exact ⟨rfl, h1 i' hv⟩
    · rw [if_neg h21, if_neg h21]
theorem fv_sL {f g j : Nat} {v : Int64} (h : ¬ (g = f)) : fval (sL S f v) g j = fval S g j := by
  unfold fval
  have e : mL (sL S f v) g = mL S g := if_neg h
  rw [e]; rfl
theorem fv_sD {f g j : Nat} {v : UInt64} (h : ¬ (g = f)) : fval (sD S f v) g j = fval S g j := by
  unfold fval
  have e : mD (sD S f v) g = mD S g := if_neg h
  rw [e]; rfl
theorem pN_n {x : Int64} {host : String} (X : Cx s0 l D cy p s m args meth c cc nL own ret) (w : Wd s0 D cy S s.heap H locs) (hV : vV S 11 0) (h1 : ∀ j, vV S 11 j → j = 0) (hl : Cond.fieldLinkNest own index "CavershamShiftLaw$Out" "n" "J" host ∈ NSTW) (hdg : decode cc pc = .ok (.putfield index, 3))
    (kk : ∀ (H1 : Heap) (locs1 : List Loc), Wd s0 D cy (sL S 176 x) s.heap H1 locs1 → W p l e R s m args below meth c H1 locs1 cells slots Q (F0 m (pc + 3) ls rest)) : W p l e R s m args below meth c H locs cells slots Q (F0 m pc ls (.long x :: .ref (gG S 11 0) :: rest)) :=
  pN11 (k := 0) X w hV h1 (by decide) rfl rfl rfl rfl hl (ty := .long) (by decide +kernel) rfl rfl (fun f j h => fv_sL h) rfl ⟨rfl, rfl, rfl, rfl, rfl⟩ hdg kk
theorem pN_d {x : UInt64} {host : String} (X : Cx s0 l D cy p s m args meth c cc nL own ret) (w : Wd s0 D cy S s.heap H locs) (hV : vV S 11 0) (h1 : ∀ j, vV S 11 j → j = 0) (hl : Cond.fieldLinkNest own index "CavershamShiftLaw$Out" "d" "D" host ∈ NSTW) (hdg : decode cc pc = .ok (.putfield index, 3))
    (kk : ∀ (H1 : Heap) (locs1 : List Loc), Wd s0 D cy (sD S 177 x) s.heap H1 locs1 → W p l e R s m args below meth c H1 locs1 cells slots Q (F0 m (pc + 3) ls rest)) : W p l e R s m args below meth c H locs cells slots Q (F0 m pc ls (.double x :: .ref (gG S 11 0) :: rest)) :=
  pN11 (k := 1) X w hV h1 (by decide) rfl rfl rfl rfl hl (ty := .double) (by decide +kernel) rfl rfl (fun f j h => fv_sD h) rfl ⟨rfl, rfl, rfl, rfl, rfl⟩ hdg kk
theorem pN_s {x : Nat} {host : String} (X : Cx s0 l D cy p s m args meth c cc nL own ret) (w : Wd s0 D cy S s.heap H locs) (hV : vV S 11 0) (h1 : ∀ j, vV S 11 j → j = 0) (hl : Cond.fieldLinkNest own index "CavershamShiftLaw$Out" "s" "Ljava/lang/String;" host ∈ NSTW) (hdg : decode cc pc = .ok (.putfield index, 3))
    (kk : ∀ (H1 : Heap) (locs1 : List Loc), Wd s0 D cy (sR S 178 0 (some x)) s.heap H1 locs1 → W p l e R s m args below meth c H1 locs1 cells slots Q (F0 m (pc + 3) ls rest)) : W p l e R s m args below meth c H locs cells slots Q (F0 m pc ls (.ref x :: .ref (gG S 11 0) :: rest)) :=
  pN11 (k := 2) X w hV h1 (by decide) rfl rfl rfl rfl hl (ty := .object "java/lang/String") (by decide +kernel) rfl rfl (fun f j h => fv_sR_ne (fun z => h z.1)) rfl ⟨rfl, rfl, rfl, rfl, rfl⟩ hdg kk
end PNO
/-- one Out -/
def OneO (S : HS) : Prop := vV S 11 0 ∧ ∀ j, vV S 11 j → j = 0
/-- what holds between the calls: the class and the reference in order, what is told the same; where the three lie -/
def LI (s0 : State) (S : HS) (gC : Nat) (cn : Cn) (ax am ao : Nat) : Prop := CX (eaOf s0) S cn ∧ RX s0 S cn ∧ mI S 165 0 = mI S 260 0 ∧ OneO S ∧ Zs S ∧ (cn.2.2.2.2.2.1 = gC ∧ gC ≤ 720) ∧ gG S 10 0 = ax ∧ gG S 16 0 = am ∧ gG S 11 0 = ao
def StpL (s0 : State) (cn : Cn) (S S' : HS) : Prop := ∀ gC ax am ao, LI s0 S gC cn ax am ao → LI s0 S' gC cn ax am ao
/-- only Out's fields differ -/
def OutW (T S' : HS) : Prop := S' = T ∨ (∃ x, S' = sL T 176 x) ∨ (∃ x, S' = sD T 177 x) ∨ ∃ x, S' = sR T 178 0 (some x)
theorem StpL.tr {s0 : State} {cn : Cn} {S T U : HS} (a : StpL s0 cn S T) (b : StpL s0 cn T U) : StpL s0 cn S U := fun gC ax am ao h => b gC ax am ao (a gC ax am ao h)
theorem RF.keepB {s0 : State} {S T A : HS} {nq nt : Nat} (h : RF s0 S A nq nt) (k : KeepB S T) : RF s0 T A nq nt := by
  refine ⟨fun f c j => ?_, fun t c j => ?_, h.2.2.1, fun i hi => ?_⟩
  · have e : clsB f j = false := by
      rcases inF_mem c with rfl | rfl | rfl | rfl | rfl | rfl | rfl | rfl | rfl | rfl | rfl | rfl | rfl | rfl | rfl | rfl | rfl | rfl | rfl | rfl | rfl | rfl | rfl | rfl | rfl | rfl | rfl | rfl | rfl <;> rfl
    exact (k.I e).trans (h.1 f c j)
  · have e : clsT t j = false := by
      have z : t = 33 ∨ t = 34 ∨ t = 35 ∨ t = 36 ∨ t = 37 := by
        unfold inT at c
        simp only [Bool.and_eq_true, Nat.ble_eq] at c
        omega
      rcases z with rfl | rfl | rfl | rfl | rfl <;> rfl
    exact (k.1 t j e).2.2.2.2.trans (h.2.1 t c j)
  · obtain ⟨g, h1, h2, h3⟩ := h.2.2.2 i hi
    exact ⟨g, h1, h2, by rw [show mB T 30 11 = mB S 30 11 from (k.1 30 11 rfl).2.2.2.1]; exact h3⟩
theorem RX.keepB {s0 : State} {S T : HS} {cn : Cn} (h : RX s0 S cn) (k : KeepB S T) : RX s0 T cn := by
  obtain ⟨nq, h, q, z, hF, hg⟩ := h
  refine ⟨nq, h.keepB k, ⟨fun j hj => ?_, ?_⟩, ?_, ?_, ?_⟩
  · rw [show mB T 30 11 = mB S 30 11 from (k.1 30 11 rfl).2.2.2.1]; exact q.1 j hj
  · refine Nat.le_trans q.2 (cntB_mono _ (fun j _ hj => ?_))
    rw [show mI T 253 j = mI S 253 j from k.I rfl]; exact hj
  · refine ⟨?_, fun i => ?_⟩
    · rw [show vV T 17 12 = vV S 17 12 from k.V rfl, show vV T 30 12 = vV S 30 12 from k.V rfl]; exact z.1
    · rw [show vV T 39 i = vV S 39 i from k.V rfl, show vV T 40 i = vV S 40 i from k.V rfl]; exact z.2 i
  · exact hF.keepB k
  · rw [show mI T 257 0 = mI S 257 0 from k.I rfl]; exact hg
theorem RH_vwB {S : HS} {nt : Nat} : RH (vwS refU refB refR S) nt ↔ RH S nt := Iff.rfl
theorem RK_vwB {S A : HS} {ns nj nm nt nr nc : Nat} : RK (vwS refU refB refR S) A ns nj nm nt nr nc ↔ RK S A ns nj nm nt nr nc := Iff.rfl
theorem CX.keepB {ea : Nat} {S T : HS} {cn : Cn} (h : CX ea S cn) (k : KeepRB S T) : CX ea T cn := by
  obtain ⟨nc, h, r, a, g, g7, a7, ds⟩ := h
  exact ⟨nc, h.keepB k, by rw [← RH_vwB, k.eqv, RH_vwB]; exact r, by rw [← RK_vwB, k.eqv, RK_vwB]; exact a, (show mI T 164 0 = mI S 164 0 from k.I rfl).trans g, g7, a7, ds⟩
theorem CX.outL {ea : Nat} {S : HS} {cn : Cn} {x : Int64} (h : CX ea S cn) : CX ea (sL S 176 x) cn := h
theorem RX.outL {s0 : State} {S : HS} {cn : Cn} {x : Int64} (h : RX s0 S cn) : RX s0 (sL S 176 x) cn := h
theorem zV_c {t j : Nat} (h : zV t j = true) : clsT t j = false := by
  unfold zV at h
  rw [Bool.or_eq_true, Bool.or_eq_true, Bool.or_eq_true] at h
  rcases h with h | h | h | h <;> (rw [show t = _ from by simpa using h]; rfl)
theorem zV_r {t j : Nat} (h : zV t j = true) : refT t j = false := by
  unfold zV at h
  rw [Bool.or_eq_true, Bool.or_eq_true, Bool.or_eq_true] at h
  rcases h with h | h | h | h <;> (rw [show t = _ from by simpa using h]; rfl)
theorem zV_u {t j : Nat} (h : zV t j = true) : refU t j = false := by
  unfold zV at h
  rw [Bool.or_eq_true, Bool.or_eq_true, Bool.or_eq_true] at h
  rcases h with h | h | h | h <;> (rw [show t = _ from by simpa using h]; rfl)
theorem OneO.keepB {S T : HS} (h : OneO S) (k : KeepB S T) : OneO T := ⟨by rw [k.V (t := 11) (i := 0) rfl]; exact h.1, fun j hj => h.2 j (by rw [k.V (t := 11) (i := j) rfl] at hj; exact hj)⟩
theorem OneO.keepRB {S T : HS} (h : OneO S) (k : KeepRB S T) : OneO T := ⟨by rw [k.V (t := 11) (i := 0) rfl]; exact h.1, fun j hj => h.2 j (by rw [k.V (t := 11) (i := j) rfl] at hj; exact hj)⟩
/-- behind a step of the class, of the reference, that leaves what is told as it is -/
theorem LI.ofC {s0 : State} {S T : HS} {gC : Nat} {cn : Cn} {ax am ao : Nat} (h : LI s0 S gC cn ax am ao) (hC : CX (eaOf s0) T cn) (k : KeepB S T) : LI s0 T gC cn ax am ao := by
  obtain ⟨-, h2, h3, h4, h5, h6, h8, h9, h10⟩ := h
  refine ⟨hC, h2.keepB k, ?_, h4.keepB k, fun t j hz => ?_, h6, (k.G (t := 10) (i := 0) rfl).trans h8, (k.G (t := 16) (i := 0) rfl).trans h9, (k.G (t := 11) (i := 0) rfl).trans h10⟩
  · rw [show mI T 165 0 = mI S 165 0 from k.I rfl, show mI T 260 0 = mI S 260 0 from k.I rfl]; exact h3
  · rw [k.V (zV_c hz)]; exact h5 t j hz
theorem LI.ofR {s0 : State} {S T : HS} {gC : Nat} {cn : Cn} {ax am ao : Nat} (h : LI s0 S gC cn ax am ao) (hR : RX s0 T cn) (k : KeepRB S T) : LI s0 T gC cn ax am ao := by
  obtain ⟨h1, -, h3, h4, h5, h6, h8, h9, h10⟩ := h
  refine ⟨h1.keepB k, hR, ?_, h4.keepRB k, fun t j hz => ?_, h6, (k.G (t := 10) (i := 0) rfl).trans h8, (k.G (t := 16) (i := 0) rfl).trans h9, (k.G (t := 11) (i := 0) rfl).trans h10⟩
  · rw [show mI T 165 0 = mI S 165 0 from k.I rfl, show mI T 260 0 = mI S 260 0 from k.I rfl]; exact h3
  · rw [k.V (zV_u hz)]; exact h5 t j hz
theorem LI.out {s0 : State} {T S' : HS} {gC : Nat} {cn : Cn} {ax am ao : Nat} (h : LI s0 T gC cn ax am ao) (o : OutW T S') : LI s0 S' gC cn ax am ao := by
  rcases o with rfl | ⟨x, rfl⟩ | ⟨x, rfl⟩ | ⟨x, rfl⟩ <;> exact h
/-- ahead of the reference's call: the class has told, Out has its answer -/
theorem LI.mid {s0 : State} {S T : HS} {gC : Nat} {cn : Cn} {ax am ao : Nat} (x : Int64) (h : LI s0 S gC cn ax am ao) (k : KeepB S T) : RX s0 (sL T 176 x) cn ∧ gG (sL T 176 x) 10 0 = ax ∧ gG (sL T 176 x) 16 0 = am ∧ gG (sL T 176 x) 11 0 = ao := by
  obtain ⟨-, h2, -, -, -, -, h8, h9, h10⟩ := h
  exact ⟨(h2.keepB k).outL, (k.G (t := 10) (i := 0) rfl).trans h8, (k.G (t := 16) (i := 0) rfl).trans h9, (k.G (t := 11) (i := 0) rfl).trans h10⟩
/-- behind both calls of what is told -/
theorem LI.told {s0 : State} {S T U : HS} {gC gN : Nat} {cn cn' : Cn} {ax am ao : Nat} {x : Int64} (h : LI s0 S gC cn ax am ao) (hC : CX (eaOf s0) T cn') (k1 : KeepB S T) (hR : RX s0 U cn') (k : KeepRB (sL T 176 x) U) (hN : cn'.2.2.2.2.2.1 = gN ∧ gN ≤ 720) : LI s0 U gN cn' ax am ao ∧ mL U 176 = x := by
  obtain ⟨-, -, h3, h4, h5, -, h8, h9, h10⟩ := h
  refine ⟨⟨hC.outL.keepB k, hR, ?_, ⟨?_, fun j hj => h4.2 j ?_⟩, fun t j hz => ?_, hN, (k.G (t := 10) (i := 0) rfl).trans ((k1.G (t := 10) (i := 0) rfl).trans h8), (k.G (t := 16) (i := 0) rfl).trans ((k1.G (t := 16) (i := 0) rfl).trans h9), (k.G (t := 11) (i := 0) rfl).trans ((k1.G (t := 11) (i := 0) rfl).trans h10)⟩, (k.2.2.2 176 rfl).1⟩
  · rw [show mI U 165 0 = mI T 165 0 from k.I rfl, show mI T 165 0 = mI S 165 0 from k1.I rfl, show mI U 260 0 = mI T 260 0 from k.I rfl, show mI T 260 0 = mI S 260 0 from k1.I rfl]; exact h3
  · rw [show vV U 11 0 = vV T 11 0 from k.V rfl, show vV T 11 0 = vV S 11 0 from k1.V rfl]; exact h4.1
  · rw [show vV U 11 j = vV T 11 j from k.V rfl, show vV T 11 j = vV S 11 j from k1.V rfl] at hj; exact hj
  · rw [show vV U t j = vV T t j from k.V (zV_u hz), show vV T t j = vV S t j from k1.V (zV_c hz)]; exact h5 t j hz
/-- behind a call of the class, of the reference: nothing is told -/
theorem StpL.ofC {s0 : State} {cn : Cn} {S T S' : HS} (hC : CX (eaOf s0) T cn) (k : Keep S T) (o : OutW T S') : StpL s0 cn S S' := fun gC ax am ao h => (h.ofC hC (Kq.cB k)).out o
theorem StpL.ofR {s0 : State} {cn : Cn} {S T : HS} (hR : RX s0 T cn) (k : KeepR S T) : StpL s0 cn S T := fun gC ax am ao h => h.ofR hR (Kq.rB k)
def PKs (ea : Nat) (S : HS) (cn : Cn) : Option Value → HS → Prop := fun v S' => (∃ b, some (.ref b) = v) ∧ CX ea S' cn ∧ Keep S S'
/-- a wrapper returns a number -/
def PW (s0 : State) (S : HS) (cn : Cn) : Option Value → HS → Prop := fun v S' => (∃ k : Int32, some (.int k) = v) ∧ StpL s0 cn S S'
theorem k_X10_tell {s0 : State} {l : Launch} {D : va_G} {cy : Nat → ClassId} (G : Gl s0 l D cy) (S : HS) {cn : Cn} (hC : CX (eaOf s0) S cn) (hZs : Zs S) (a : Int32) : CtX s0 l D cy yX10_tell cX10_tell 5 (some (.object "java/lang/String")) rm_m_X10_tell S [.ref (gG S 10 0), .int a] (PKs (eaOf s0) S cn) (XK (eaOf s0) S cn ["java/lang/IndexOutOfBoundsException"]) := by
  obtain ⟨ns, nj, nm, nr, nt, g0, A⟩ := cn
  obtain ⟨nc, h, hr, hA, hg, hg7, hA7, hds⟩ := hC
  have h : CI (eaOf s0) S ns nj nm nt nr nc := h
  have hr : RH S nt := hr
  have hA : RK S A ns nj nm nt nr nc := hA
  have hg : mI S 164 0 = nI g0 := hg
  have hA7 : mI A 257 0 = nI g0 := hA7
  have hds : DS A nt := hds
  exact (m_X10_tell G S (eaOf s0) ns nj nm nt nr nc h a hZs).post (fun v S' ⟨e, e2⟩ => by subst e2; exact ⟨e, ⟨nc, h, hr, hA, hg, hg7, hA7, hds⟩, Kq.rf⟩) (fun E S' ⟨e, k⟩ => by subst e; exact ⟨k, ⟨nc, h, hr, hA, hg, hg7, hA7, hds⟩, Kq.rf⟩)

theorem k_X16_wouldSend {s0 : State} {l : Launch} {D : va_G} {cy : Nat → ClassId} (G : Gl s0 l D cy) (S : HS) {cn : Cn} (hR : RX s0 S cn) : Ctr s0 l D cy yX16_wouldSend cX16_wouldSend 1 (some .int) rm_m_X16_wouldSend S [.ref (gG S 16 0)] (PRi s0 S cn) := by
  obtain ⟨ns, nj, nm, nr, nt, g0, A⟩ := cn
  obtain ⟨nq, h, hQ, hZr, hE, hg⟩ := hR
  exact m_X16_wouldSend G S (eaOf s0) ns nj nm nt nr nq h rfl hQ hZr A g0 hE hg
theorem k_X16_isSound {s0 : State} {l : Launch} {D : va_G} {cy : Nat → ClassId} (G : Gl s0 l D cy) (S : HS) {cn : Cn} (hR : RX s0 S cn) : Ctr s0 l D cy yX16_isSound cX16_isSound 1 (some .boolean) rm_m_X16_isSound S [.ref (gG S 16 0)] (PRz s0 S cn) := by
  obtain ⟨ns, nj, nm, nr, nt, g0, A⟩ := cn
  obtain ⟨nq, h, hQ, hZr, hE, hg⟩ := hR
  exact m_X16_isSound G S (eaOf s0) ns nj nm nt nr nq h rfl hQ hZr A g0 hE hg
theorem k_X16_digest {s0 : State} {l : Launch} {D : va_G} {cy : Nat → ClassId} (G : Gl s0 l D cy) (S : HS) {cn : Cn} (hR : RX s0 S cn) : Ctr s0 l D cy yX16_digest cX16_digest 6 (some .long) rm_m_X16_digest S [.ref (gG S 16 0)] (PRl s0 S cn) := by
  obtain ⟨ns, nj, nm, nr, nt, g0, A⟩ := cn
  obtain ⟨nq, h, hQ, hZr, hE, hg⟩ := hR
  exact m_X16_digest G S (eaOf s0) ns nj nm nt nr nq h rfl hQ hZr A g0 hE hg
theorem k_X16_tell {s0 : State} {l : Launch} {D : va_G} {cy : Nat → ClassId} (G : Gl s0 l D cy) (S : HS) {cn : Cn} (hR : RX s0 S cn) (hZs : Zs S) (a : Int32) : Ctr s0 l D cy yX16_tell cX16_tell 5 (some (.object "java/lang/String")) rm_m_X16_tell S [.ref (gG S 16 0), .int a] (PRs s0 S cn) := by
  obtain ⟨ns, nj, nm, nr, nt, g0, A⟩ := cn
  obtain ⟨nq, h, hQ, hZr, hE, hg⟩ := hR
  exact m_X16_tell G S (eaOf s0) ns nj nm nt nr nq h rfl hQ hZr A g0 hE hg hZs a
theorem k_X16_partner {s0 : State} {l : Launch} {D : va_G} {cy : Nat → ClassId} (G : Gl s0 l D cy) (S : HS) {cn : Cn} (hR : RX s0 S cn) (a : Int32) : Ctr s0 l D cy yX16_partner cX16_partner 3 (some .int) rm_m_X16_partner S [.ref (gG S 16 0), .int a] (PF s0 S cn (paK a) (mI cn.2.2.2.2.2.2 259 0) (cn.1, cn.2.1, cn.2.2.1, cn.2.2.2.1, cn.2.2.2.2.1, cn.2.2.2.2.2.1, sI cn.2.2.2.2.2.2 259 0 a)) := by
  obtain ⟨ns, nj, nm, nr, nt, g0, A⟩ := cn
  obtain ⟨nq, h, hQ, hZr, hE, hg⟩ := hR
  exact m_X16_partner G S (eaOf s0) ns nj nm nt nr nq h rfl hQ hZr A g0 hE hg a
theorem k_X16_drift {s0 : State} {l : Launch} {D : va_G} {cy : Nat → ClassId} (G : Gl s0 l D cy) (S : HS) {cn : Cn} (hR : RX s0 S cn) (a b : Int32) : Ctr s0 l D cy yX16_drift cX16_drift 4 (some .int) rm_m_X16_drift S [.ref (gG S 16 0), .int a, .int b] (PF s0 S cn (dK cn.1 99 a b) (mI cn.2.2.2.2.2.2 229 a.toNatClampNeg) (cn.1, cn.2.1, cn.2.2.1, cn.2.2.2.1, cn.2.2.2.2.1, cn.2.2.2.2.2.1, sI cn.2.2.2.2.2.2 229 a.toNatClampNeg b)) := by
  obtain ⟨ns, nj, nm, nr, nt, g0, A⟩ := cn
  obtain ⟨nq, h, hQ, hZr, hE, hg⟩ := hR
  exact m_X16_drift G S (eaOf s0) ns nj nm nt nr nq h rfl hQ hZr A g0 hE hg a b
theorem k_X16_jam {s0 : State} {l : Launch} {D : va_G} {cy : Nat → ClassId} (G : Gl s0 l D cy) (S : HS) {cn : Cn} (hR : RX s0 S cn) (a b : Int32) : Ctr s0 l D cy yX16_jam cX16_jam 4 (some .int) rm_m_X16_jam S [.ref (gG S 16 0), .int a, .int b] (PF s0 S cn (dK cn.2.1 9 a b) (mA cn.2.2.2.2.2.2 33 a.toNatClampNeg 1) (cn.1, cn.2.1, cn.2.2.1, cn.2.2.2.1, cn.2.2.2.2.1, cn.2.2.2.2.2.1, jaA cn.2.2.2.2.2.2 a.toNatClampNeg b)) := by
  obtain ⟨ns, nj, nm, nr, nt, g0, A⟩ := cn
  obtain ⟨nq, h, hQ, hZr, hE, hg⟩ := hR
  exact m_X16_jam G S (eaOf s0) ns nj nm nt nr nq h rfl hQ hZr A g0 hE hg a b
theorem k_X16_print {s0 : State} {l : Launch} {D : va_G} {cy : Nat → ClassId} (G : Gl s0 l D cy) (S : HS) {cn : Cn} (hR : RX s0 S cn) (a b : Int32) : Ctr s0 l D cy yX16_print cX16_print 4 (some .int) rm_m_X16_print S [.ref (gG S 16 0), .int a, .int b] (PF s0 S cn (prK cn.2.2.2.2.1 a b (mI cn.2.2.2.2.2.2 246 a.toNatClampNeg)) (prF cn.2.2.2.2.2.2 a.toNatClampNeg b) (cn.1, cn.2.1, cn.2.2.1, cn.2.2.2.1, cn.2.2.2.2.1, cn.2.2.2.2.2.1, prA cn.2.2.2.2.2.2 a.toNatClampNeg b)) := by
  obtain ⟨ns, nj, nm, nr, nt, g0, A⟩ := cn
  obtain ⟨nq, h, hQ, hZr, hE, hg⟩ := hR
  exact m_X16_print G S (eaOf s0) ns nj nm nt nr nq h rfl hQ hZr A g0 hE hg a b
theorem k_X16_ask {s0 : State} {l : Launch} {D : va_G} {cy : Nat → ClassId} (G : Gl s0 l D cy) (S : HS) {cn : Cn} (hR : RX s0 S cn) (a b d : Int32) : Ctr s0 l D cy yX16_ask cX16_ask 6 (some .int) rm_m_X16_ask S [.ref (gG S 16 0), .int a, .int b, .int d] (PF s0 S cn (asK cn.2.2.2.1 a b d) (asF (asA cn.2.2.2.2.2.2 a.toNatClampNeg b d) a.toNatClampNeg cn.2.2.2.2.1) (cn.1, cn.2.1, cn.2.2.1, cn.2.2.2.1, cn.2.2.2.2.1, cn.2.2.2.2.2.1, asA cn.2.2.2.2.2.2 a.toNatClampNeg b d)) := by
  obtain ⟨ns, nj, nm, nr, nt, g0, A⟩ := cn
  obtain ⟨nq, h, hQ, hZr, hE, hg⟩ := hR
  exact m_X16_ask G S (eaOf s0) ns nj nm nt nr nq h rfl hQ hZr A g0 hE hg a b d
theorem k_X16_shift {s0 : State} {l : Launch} {D : va_G} {cy : Nat → ClassId} (G : Gl s0 l D cy) (S : HS) {cn : Cn} (hR : RX s0 S cn) (a b d e_ : Int32) : Ctr s0 l D cy yX16_shift cX16_shift 6 (some .int) rm_m_X16_shift S [.ref (gG S 16 0), .int a, .int b, .int d, .int e_] (PF s0 S cn (shK cn.1 cn.2.2.1 a b d e_ (rElse cn.2.2.2.2.2.2 a b e_)) (mA cn.2.2.2.2.2.2 36 a.toNatClampNeg b.toNatClampNeg) (cn.1, cn.2.1, cn.2.2.1, cn.2.2.2.1, cn.2.2.2.2.1, cn.2.2.2.2.2.1, shA cn.2.2.2.2.2.2 a.toNatClampNeg b.toNatClampNeg d e_)) := by
  obtain ⟨ns, nj, nm, nr, nt, g0, A⟩ := cn
  obtain ⟨nq, h, hQ, hZr, hE, hg⟩ := hR
  exact m_X16_shift G S (eaOf s0) ns nj nm nt nr nq h rfl hQ hZr A g0 hE hg a b d e_
theorem k_X16_station {s0 : State} {l : Launch} {D : va_G} {cy : Nat → ClassId} (G : Gl s0 l D cy) (S : HS) {cn : Cn} (hR : RX s0 S cn) (a b d g e_ f : Int32) : Ctr s0 l D cy yX16_station cX16_station 7 (some .int) rm_m_X16_station S [.ref (gG S 16 0), .int a, .int b, .int d, .int g, .int e_, .int f] (PF s0 S cn (stK cn.1 a b d g e_ f) (nI cn.1) ((cn.1 + 1), cn.2.1, cn.2.2.1, cn.2.2.2.1, cn.2.2.2.2.1, cn.2.2.2.2.2.1, stA cn.2.2.2.2.2.2 cn.1 a b d g e_ f)) := by
  obtain ⟨ns, nj, nm, nr, nt, g0, A⟩ := cn
  obtain ⟨nq, h, hQ, hZr, hE, hg⟩ := hR
  exact m_X16_station G S (eaOf s0) ns nj nm nt nr nq h rfl hQ hZr A g0 hE hg a b d g e_ f
theorem k_X16_jammer {s0 : State} {l : Launch} {D : va_G} {cy : Nat → ClassId} (G : Gl s0 l D cy) (S : HS) {cn : Cn} (hR : RX s0 S cn) (a b : Int32) : Ctr s0 l D cy yX16_jammer cX16_jammer 3 (some .int) rm_m_X16_jammer S [.ref (gG S 16 0), .int a, .int b] (PF s0 S cn (jmK cn.2.1 a b) (nI cn.2.1) (cn.1, (cn.2.1 + 1), cn.2.2.1, cn.2.2.2.1, cn.2.2.2.2.1, cn.2.2.2.2.2.1, jmA cn.2.2.2.2.2.2 cn.2.1 a b)) := by
  obtain ⟨ns, nj, nm, nr, nt, g0, A⟩ := cn
  obtain ⟨nq, h, hQ, hZr, hE, hg⟩ := hR
  exact m_X16_jammer G S (eaOf s0) ns nj nm nt nr nq h rfl hQ hZr A g0 hE hg a b
theorem k_X16_monitor {s0 : State} {l : Launch} {D : va_G} {cy : Nat → ClassId} (G : Gl s0 l D cy) (S : HS) {cn : Cn} (hR : RX s0 S cn) (a : Int32) : Ctr s0 l D cy yX16_monitor cX16_monitor 5 (some .int) rm_m_X16_monitor S [.ref (gG S 16 0), .int a] (PF s0 S cn (moK cn.2.2.1 a) (nI cn.2.2.1) (cn.1, cn.2.1, (cn.2.2.1 + 1), cn.2.2.2.1, cn.2.2.2.2.1, cn.2.2.2.2.2.1, moC cn.2.2.2.2.2.2 cn.2.2.1 a)) := by
  obtain ⟨ns, nj, nm, nr, nt, g0, A⟩ := cn
  obtain ⟨nq, h, hQ, hZr, hE, hg⟩ := hR
  exact m_X16_monitor G S (eaOf s0) ns nj nm nt nr nq h rfl hQ hZr A g0 hE hg a
theorem k_X16_reader {s0 : State} {l : Launch} {D : va_G} {cy : Nat → ClassId} (G : Gl s0 l D cy) (S : HS) {cn : Cn} (hR : RX s0 S cn) (a b : Int32) : Ctr s0 l D cy yX16_reader cX16_reader 4 (some .int) rm_m_X16_reader S [.ref (gG S 16 0), .int a, .int b] (PF s0 S cn (reK cn.2.2.2.1 a b) (nI cn.2.2.2.1) (cn.1, cn.2.1, cn.2.2.1, (cn.2.2.2.1 + 1), cn.2.2.2.2.1, cn.2.2.2.2.2.1, reC cn.2.2.2.2.2.2 cn.2.2.2.1 a b)) := by
  obtain ⟨ns, nj, nm, nr, nt, g0, A⟩ := cn
  obtain ⟨nq, h, hQ, hZr, hE, hg⟩ := hR
  exact m_X16_reader G S (eaOf s0) ns nj nm nt nr nq h rfl hQ hZr A g0 hE hg a b
theorem k_X16_talk {s0 : State} {l : Launch} {D : va_G} {cy : Nat → ClassId} (G : Gl s0 l D cy) (S : HS) {cn : Cn} (hR : RX s0 S cn) (a b d g e_ f : Int32) : Ctr s0 l D cy yX16_talk cX16_talk 9 (some .int) rm_m_X16_talk S [.ref (gG S 16 0), .int a, .int b, .int d, .int g, .int e_, .int f] (PF s0 S cn (taK cn.1 cn.2.2.2.2.1 (nI cn.2.2.2.2.2.1) a b d g e_ f (sIn (mI cn.2.2.2.2.2.2 228 a.toNatClampNeg) (b - b / 24 * 24)) (rHas cn.2.2.2.2.2.2 a b cn.2.2.2.2.1)) (nI cn.2.2.2.2.1) (cn.1, cn.2.1, cn.2.2.1, cn.2.2.2.1, (cn.2.2.2.2.1 + 1), cn.2.2.2.2.2.1, taC cn.2.2.2.2.2.2 cn.2.2.2.2.1 a b d g e_ f)) := by
  obtain ⟨ns, nj, nm, nr, nt, g0, A⟩ := cn
  obtain ⟨nq, h, hQ, hZr, hE, hg⟩ := hR
  exact m_X16_talk G S (eaOf s0) ns nj nm nt nr nq h rfl hQ hZr A g0 hE hg a b d g e_ f
theorem k_X16_ofStation {s0 : State} {l : Launch} {D : va_G} {cy : Nat → ClassId} (G : Gl s0 l D cy) (S : HS) {cn : Cn} (hR : RX s0 S cn) (a b : Int32) : Ctr s0 l D cy yX16_ofStation cX16_ofStation 3 (some .int) rm_m_X16_ofStation S [.ref (gG S 16 0), .int a, .int b] (PF s0 S cn (dK cn.1 8 a b) (rStaNow cn.2.2.2.2.2.2 cn.1 cn.2.1 cn.2.2.2.2.1 a.toNatClampNeg b.toNatClampNeg) cn) := by
  obtain ⟨ns, nj, nm, nr, nt, g0, A⟩ := cn
  obtain ⟨nq, h, hQ, hZr, hE, hg⟩ := hR
  exact m_X16_ofStation G S (eaOf s0) ns nj nm nt nr nq h rfl hQ hZr A g0 hE hg a b
theorem k_X16_ofMonitor {s0 : State} {l : Launch} {D : va_G} {cy : Nat → ClassId} (G : Gl s0 l D cy) (S : HS) {cn : Cn} (hR : RX s0 S cn) (a b : Int32) : Ctr s0 l D cy yX16_ofMonitor cX16_ofMonitor 3 (some .int) rm_m_X16_ofMonitor S [.ref (gG S 16 0), .int a, .int b] (PF s0 S cn (dK cn.2.2.1 8 a b) (rMonNow cn.2.2.2.2.2.2 a.toNatClampNeg b.toNatClampNeg) cn) := by
  obtain ⟨ns, nj, nm, nr, nt, g0, A⟩ := cn
  obtain ⟨nq, h, hQ, hZr, hE, hg⟩ := hR
  exact m_X16_ofMonitor G S (eaOf s0) ns nj nm nt nr nq h rfl hQ hZr A g0 hE hg a b
theorem k_X16_ofTalk {s0 : State} {l : Launch} {D : va_G} {cy : Nat → ClassId} (G : Gl s0 l D cy) (S : HS) {cn : Cn} (hR : RX s0 S cn) (a b : Int32) : Ctr s0 l D cy yX16_ofTalk cX16_ofTalk 3 (some .int) rm_m_X16_ofTalk S [.ref (gG S 16 0), .int a, .int b] (PF s0 S cn (dK cn.2.2.2.2.1 7 a b) (rTalkNow cn.2.2.2.2.2.2 a.toNatClampNeg b.toNatClampNeg) cn) := by
  obtain ⟨ns, nj, nm, nr, nt, g0, A⟩ := cn
  obtain ⟨nq, h, hQ, hZr, hE, hg⟩ := hR
  exact m_X16_ofTalk G S (eaOf s0) ns nj nm nt nr nq h rfl hQ hZr A g0 hE hg a b
theorem k_X16_ofReport {s0 : State} {l : Launch} {D : va_G} {cy : Nat → ClassId} (G : Gl s0 l D cy) (S : HS) {cn : Cn} (hR : RX s0 S cn) (a b : Int32) : Ctr s0 l D cy yX16_ofReport cX16_ofReport 3 (some .int) rm_m_X16_ofReport S [.ref (gG S 16 0), .int a, .int b] (PF s0 S cn (dK cn.2.2.2.2.1 11 a b) (if mI cn.2.2.2.2.2.2 247 a.toNatClampNeg = -1 then -2 else rRepNow cn.2.2.2.2.2.2 a.toNatClampNeg b.toNatClampNeg) cn) := by
  obtain ⟨ns, nj, nm, nr, nt, g0, A⟩ := cn
  obtain ⟨nq, h, hQ, hZr, hE, hg⟩ := hR
  exact m_X16_ofReport G S (eaOf s0) ns nj nm nt nr nq h rfl hQ hZr A g0 hE hg a b
theorem k_X16_ofReader {s0 : State} {l : Launch} {D : va_G} {cy : Nat → ClassId} (G : Gl s0 l D cy) (S : HS) {cn : Cn} (hR : RX s0 S cn) (a b : Int32) : Ctr s0 l D cy yX16_ofReader cX16_ofReader 3 (some .int) rm_m_X16_ofReader S [.ref (gG S 16 0), .int a, .int b] (PF s0 S cn (dK cn.2.2.2.1 4 a b) (rReaNow cn.2.2.2.2.2.2 cn.2.2.2.2.1 a.toNatClampNeg b.toNatClampNeg) cn) := by
  obtain ⟨ns, nj, nm, nr, nt, g0, A⟩ := cn
  obtain ⟨nq, h, hQ, hZr, hE, hg⟩ := hR
  exact m_X16_ofReader G S (eaOf s0) ns nj nm nt nr nq h rfl hQ hZr A g0 hE hg a b
theorem k_X16_comes {s0 : State} {l : Launch} {D : va_G} {cy : Nat → ClassId} (G : Gl s0 l D cy) (S : HS) {cn : Cn} (hR : RX s0 S cn) (a b : Int32) : Ctr s0 l D cy yX16_comes cX16_comes 3 (some .int) rm_m_X16_comes S [.ref (gG S 16 0), .int a, .int b] (PF s0 S cn (coK cn.1 a b) (rComes cn.2.2.2.2.2.2 cn.1 cn.2.1 a.toNatClampNeg b) cn) := by
  obtain ⟨ns, nj, nm, nr, nt, g0, A⟩ := cn
  obtain ⟨nq, h, hQ, hZr, hE, hg⟩ := hR
  exact m_X16_comes G S (eaOf s0) ns nj nm nt nr nq h rfl hQ hZr A g0 hE hg a b
theorem k_X16_quality {s0 : State} {l : Launch} {D : va_G} {cy : Nat → ClassId} (G : Gl s0 l D cy) (S : HS) {cn : Cn} (hR : RX s0 S cn) (a b d : Int32) : Ctr s0 l D cy yX16_quality cX16_quality 4 (some .int) rm_m_X16_quality S [.ref (gG S 16 0), .int a, .int b, .int d] (PF s0 S cn (quK cn.1 cn.2.2.1 a b d) (rQual cn.2.2.2.2.2.2 cn.1 cn.2.1 a.toNatClampNeg b.toNatClampNeg d) cn) := by
  obtain ⟨ns, nj, nm, nr, nt, g0, A⟩ := cn
  obtain ⟨nq, h, hQ, hZr, hE, hg⟩ := hR
  exact m_X16_quality G S (eaOf s0) ns nj nm nt nr nq h rfl hQ hZr A g0 hE hg a b d
theorem k_X16_sits {s0 : State} {l : Launch} {D : va_G} {cy : Nat → ClassId} (G : Gl s0 l D cy) (S : HS) {cn : Cn} (hR : RX s0 S cn) (a b z : Int32) : Ctr s0 l D cy yX16_sits cX16_sits 4 (some .int) rm_m_X16_sits S [.ref (gG S 16 0), .int a, .int b, .int z] (PF s0 S cn (siK a b) (if z = 0 then mA cn.2.2.2.2.2.2 36 a.toNatClampNeg b.toNatClampNeg else mA cn.2.2.2.2.2.2 37 a.toNatClampNeg b.toNatClampNeg) cn) := by
  obtain ⟨ns, nj, nm, nr, nt, g0, A⟩ := cn
  obtain ⟨nq, h, hQ, hZr, hE, hg⟩ := hR
  exact m_X16_sits G S (eaOf s0) ns nj nm nt nr nq h rfl hQ hZr A g0 hE hg a b z
theorem k_X16_got {s0 : State} {l : Launch} {D : va_G} {cy : Nat → ClassId} (G : Gl s0 l D cy) (S : HS) {cn : Cn} (hR : RX s0 S cn) (a b : Int32) : Ctr s0 l D cy yX16_got cX16_got 3 (some .int) rm_m_X16_got S [.ref (gG S 16 0), .int a, .int b] (PF s0 S cn (goK cn.2.2.2.1 cn.2.2.2.2.1 a b) (mA cn.2.2.2.2.2.2 35 a.toNatClampNeg b.toNatClampNeg) cn) := by
  obtain ⟨ns, nj, nm, nr, nt, g0, A⟩ := cn
  obtain ⟨nq, h, hQ, hZr, hE, hg⟩ := hR
  exact m_X16_got G S (eaOf s0) ns nj nm nt nr nq h rfl hQ hZr A g0 hE hg a b
theorem k_X16_used {s0 : State} {l : Launch} {D : va_G} {cy : Nat → ClassId} (G : Gl s0 l D cy) (S : HS) {cn : Cn} (hR : RX s0 S cn) (a b d g : Int32) : Ctr s0 l D cy yX16_used cX16_used 5 (some .int) rm_m_X16_used S [.ref (gG S 16 0), .int a, .int b, .int d, .int g] (PF s0 S cn (usK a b) (rUsed cn.2.2.2.2.2.2 cn.2.2.2.2.1 a b d g) cn) := by
  obtain ⟨ns, nj, nm, nr, nt, g0, A⟩ := cn
  obtain ⟨nq, h, hQ, hZr, hE, hg⟩ := hR
  exact m_X16_used G S (eaOf s0) ns nj nm nt nr nq h rfl hQ hZr A g0 hE hg a b d g
theorem k_X16_gone {s0 : State} {l : Launch} {D : va_G} {cy : Nat → ClassId} (G : Gl s0 l D cy) (S : HS) {cn : Cn} (hR : RX s0 S cn) (a : Int32) : Ctr s0 l D cy yX16_gone cX16_gone 2 (some .int) rm_m_X16_gone S [.ref (gG S 16 0), .int a] (PF s0 S cn (laK a 5) (rGone cn.2.2.2.2.2.2 cn.2.2.2.2.1 a 16) cn) := by
  obtain ⟨ns, nj, nm, nr, nt, g0, A⟩ := cn
  obtain ⟨nq, h, hQ, hZr, hE, hg⟩ := hR
  exact m_X16_gone G S (eaOf s0) ns nj nm nt nr nq h rfl hQ hZr A g0 hE hg a
theorem k_X16_first {s0 : State} {l : Launch} {D : va_G} {cy : Nat → ClassId} (G : Gl s0 l D cy) (S : HS) {cn : Cn} (hR : RX s0 S cn) (a : Int32) : Ctr s0 l D cy yX16_first cX16_first 2 (some .int) rm_m_X16_first S [.ref (gG S 16 0), .int a] (PF s0 S cn (laK a 15) (rFirst cn.2.2.2.2.2.2 a cn.2.2.2.2.1) cn) := by
  obtain ⟨ns, nj, nm, nr, nt, g0, A⟩ := cn
  obtain ⟨nq, h, hQ, hZr, hE, hg⟩ := hR
  exact m_X16_first G S (eaOf s0) ns nj nm nt nr nq h rfl hQ hZr A g0 hE hg a
theorem k_X16_clarity {s0 : State} {l : Launch} {D : va_G} {cy : Nat → ClassId} (G : Gl s0 l D cy) (S : HS) {cn : Cn} (hR : RX s0 S cn) (a : Int32) : Ctr s0 l D cy yX16_clarity cX16_clarity 2 (some .double) rm_m_X16_clarity S [.ref (gG S 16 0), .int a] (PFd s0 S cn (laK a 5) (rMean cn.2.2.2.2.2.2 cn.2.2.2.2.1 a) cn) := by
  obtain ⟨ns, nj, nm, nr, nt, g0, A⟩ := cn
  obtain ⟨nq, h, hQ, hZr, hE, hg⟩ := hR
  exact m_X16_clarity G S (eaOf s0) ns nj nm nt nr nq h rfl hQ hZr A g0 hE hg a
theorem k_X16_desk {s0 : State} {l : Launch} {D : va_G} {cy : Nat → ClassId} (G : Gl s0 l D cy) (S : HS) {cn : Cn} (hR : RX s0 S cn) (a : Int32) : Ctr s0 l D cy yX16_desk cX16_desk 2 (some .int) rm_m_X16_desk S [.ref (gG S 16 0), .int a] (PF s0 S cn (laK a 18) (rDesk cn.2.2.2.2.2.2 cn.1 cn.2.1 cn.2.2.1 cn.2.2.2.1 cn.2.2.2.2.1 (mI S 260 0) a.toNatClampNeg) cn) := by
  obtain ⟨ns, nj, nm, nr, nt, g0, A⟩ := cn
  obtain ⟨nq, h, hQ, hZr, hE, hg⟩ := hR
  exact m_X16_desk G S (eaOf s0) ns nj nm nt nr nq h rfl hQ hZr A g0 hE hg a
theorem k_X16_wouldHear {s0 : State} {l : Launch} {D : va_G} {cy : Nat → ClassId} (G : Gl s0 l D cy) (S : HS) {cn : Cn} (hR : RX s0 S cn) (a : Int32) : Ctr s0 l D cy yX16_wouldHear cX16_wouldHear 4 (some .int) rm_m_X16_wouldHear S [.ref (gG S 16 0), .int a] (PF s0 S cn (whK cn.2.2.2.2.1 a (mI cn.2.2.2.2.2.2 241 a.toNatClampNeg) (nI cn.2.2.2.2.2.1)) (whF cn.2.2.2.2.2.2 cn.1 cn.2.1 a.toNatClampNeg (tH cn.2.2.2.2.2.2 a.toNatClampNeg % 24)) cn) := by
  obtain ⟨ns, nj, nm, nr, nt, g0, A⟩ := cn
  obtain ⟨nq, h, hQ, hZr, hE, hg⟩ := hR
  exact m_X16_wouldHear G S (eaOf s0) ns nj nm nt nr nq h rfl hQ hZr A g0 hE hg a
theorem k_X16_best {s0 : State} {l : Launch} {D : va_G} {cy : Nat → ClassId} (G : Gl s0 l D cy) (S : HS) {cn : Cn} (hR : RX s0 S cn) (a : Int32) : Ctr s0 l D cy yX16_best cX16_best 2 (some .int) rm_m_X16_best S [.ref (gG S 16 0), .int a] (PF s0 S cn (laK a 23) (nI (bG (bQ cn.2.2.2.2.2.2 cn.1 cn.2.1 cn.2.2.1 a) 3 nF nF)) cn) := by
  obtain ⟨ns, nj, nm, nr, nt, g0, A⟩ := cn
  obtain ⟨nq, h, hQ, hZr, hE, hg⟩ := hR
  exact m_X16_best G S (eaOf s0) ns nj nm nt nr nq h rfl hQ hZr A g0 hE hg a
theorem k_X16_bestAt {s0 : State} {l : Launch} {D : va_G} {cy : Nat → ClassId} (G : Gl s0 l D cy) (S : HS) {cn : Cn} (hR : RX s0 S cn) (a b z : Int32) : Ctr s0 l D cy yX16_bestAt cX16_bestAt 4 (some .int) rm_m_X16_bestAt S [.ref (gG S 16 0), .int a, .int b, .int z] (PF s0 S cn (siK a b) (if z = 0 then rS (bCk (bQ cn.2.2.2.2.2.2 cn.1 cn.2.1 cn.2.2.1 a) b.toNatClampNeg) else rM (bCk (bQ cn.2.2.2.2.2.2 cn.1 cn.2.1 cn.2.2.1 a) b.toNatClampNeg)) cn) := by
  obtain ⟨ns, nj, nm, nr, nt, g0, A⟩ := cn
  obtain ⟨nq, h, hQ, hZr, hE, hg⟩ := hR
  exact m_X16_bestAt G S (eaOf s0) ns nj nm nt nr nq h rfl hQ hZr A g0 hE hg a b z
theorem CX.snd {ea : Nat} {S : HS} {cn : Cn} (hC : CX ea S cn) : UQ cn.2.2.2.2.2.2 ∧ AQ7 cn.2.2.2.2.2.2 cn.2.2.2.2.1 cn.2.2.2.1 ∧ AQ8 cn.2.2.2.2.2.2 cn.2.2.2.2.1 ∧ AQ9 cn.2.2.2.2.2.2 := by
  obtain ⟨nc, h, hr, hA, -⟩ := hC
  exact ⟨hA.rc.2.2.2.2.2, hA.q7, hA.q8, hA.q9⟩
theorem k_X16_pass_x {s0 : State} {l : Launch} {D : va_G} {cy : Nat → ClassId} (G : Gl s0 l D cy) (S : HS) {cn : Cn} (hR : RX s0 S cn) (a : Int32) (hbad : ¬ psK (nI cn.2.2.2.2.2.1) a = 0) : Ctr s0 l D cy yX16_pass cX16_pass 3 (some .int) rm_m_X16_pass_x S [.ref (gG S 16 0), .int a] (PF s0 S cn (psK (nI cn.2.2.2.2.2.1) a) 0 cn) := by
  obtain ⟨ns, nj, nm, nr, nt, g0, A⟩ := cn
  obtain ⟨nq, h, hQ, hZr, hE, hg⟩ := hR
  exact m_X16_pass_x G S (eaOf s0) ns nj nm nt nr nq h rfl hQ hZr A g0 hE hg a hbad
theorem k_X16_pass_n {s0 : State} {l : Launch} {D : va_G} {cy : Nat → ClassId} (G : Gl s0 l D cy) (S : HS) {cn : Cn} (hR : RX s0 S cn) (n : Nat) (hn1 : 1 ≤ n) (hn : n ≤ 48) (hgn : cn.2.2.2.2.2.1 + n ≤ 720) : Ctr s0 l D cy yX16_pass cX16_pass 3 (some .int) (rm_m_X16_pass_n n) S [.ref (gG S 16 0), .int (nI n)] (fun v S' => some (.int (nI (cn.2.2.2.2.2.1 + n))) = v ∧ RX s0 S' (cn.1, cn.2.1, cn.2.2.1, cn.2.2.2.1, cn.2.2.2.2.1, cn.2.2.2.2.2.1 + n, hoN cn.2.2.2.2.2.2 cn.1 cn.2.1 cn.2.2.1 cn.2.2.2.2.1 cn.2.2.2.1 cn.2.2.2.2.2.1 n) ∧ KeepRB S S' ∧ mI S' 256 0 = 0) := by
  obtain ⟨ns, nj, nm, nr, nt, g0, A⟩ := cn
  obtain ⟨nq, h, hQ, hZr, hE, hg⟩ := hR
  exact m_X16_pass_n G S (eaOf s0) ns nj nm nt nr nq h A hE rfl hQ hZr n g0 hn1 hn hg hgn
theorem k_X16_call {s0 : State} {l : Launch} {D : va_G} {cy : Nat → ClassId} (G : Gl s0 l D cy) (S : HS) {cn : Cn} (hR : RX s0 S cn) : Ctr s0 l D cy yX16_call cX16_call 1 (some .int) rm_m_X16_call S [.ref (gG S 16 0)] (fun v S' => some (.int (mI S 260 0 + 1)) = v ∧ S' = sI (sI S 256 0 0) 260 0 (mI S 260 0 + 1)) := by
  obtain ⟨ns, nj, nm, nr, nt, g0, A⟩ := cn
  obtain ⟨nq, h, hQ, hZr, hE, hg⟩ := hR
  exact m_X16_call G S (eaOf s0) ns nj nm nt nr nq h
theorem LI.call {s0 : State} {S : HS} {gC : Nat} {cn : Cn} {ax am ao : Nat} {x : Int32} (h : LI s0 S gC cn ax am ao) : LI s0 (sI (sI (sI S 165 0 x) 256 0 0) 260 0 x) gC cn ax am ao := by
  obtain ⟨h1, ⟨nq, hI, hQ, hZr, hE, hg⟩, h3, h4, h5, h6, h8, h9, h10⟩ := h
  have h1' : CX (eaOf s0) (sI S 165 0 x) cn := h1.call
  exact ⟨h1', ⟨nq, ((show RI (eaOf s0) (sI S 165 0 x) cn.1 cn.2.1 cn.2.2.1 cn.2.2.2.2.1 cn.2.2.2.1 nq from hI).stI (by decide)).stI (by decide), hQ, hZr, ((RF.oI (f := 165) (i := 0) (v := x) hE rfl).oI rfl).oI rfl, hg⟩, rfl, h4, h5, h6, h8, h9, h10⟩

abbrev rm_m_X16_thr9 : Room := { frames := 0, cells := 0, slots := 0, locals := 0 }
set_option maxHeartbeats 4000000 in
set_option maxRecDepth 100000 in
theorem m_X16_thr9 {s0 : State} {l : Launch} {D : va_G} {cy : Nat → ClassId} (G : Gl s0 l D cy) (S : HS) (hV : vV S 16 0) : Ctr s0 l D cy yX16_thrown cX16_thrown 1 (some .int) rm_m_X16_thr9 S [.ref (gG S 16 0)] (PU S (some (.int (mI S 256 0)))) := by
  refine pro "CavershamShiftModel" G rfl rfl (Nat.le_of_ble_eq_true rfl) (fun p e s m below meth c ls X w hnm hl => ?_)
  have hx := X.1
  have hb := X.2.1
  have hown := X.2.2.2.1
  have hts := X.2.2.2.2.1
  have hl : lv_has ls 1 [(0, .ref (gG S 16 0))] := hl
  refine lv_aload_n hx hb dX16_thrown_0 rfl (lv_at hl 0 rfl) ?_
  refine g_16_0 (S := S) (x := (mI S 256 0)) X w hV wF_X16_43 (rfl) dX16_thrown_1 ?_
  exact rI X w rfl dX16_thrown_4 (by decide) (by decide) (pu_i rfl)

section GNO
variable {p : Program} {l : Launch} {e : Env} {R : Room} {s : State} {m : MethodId} {args : Array Value} {below : List Frame} {meth : Method} {c : Code} {H : Heap} {locs : List Loc} {cells slots : Nat} {Q : State → Prop} {cc : ByteArray} {pc nL : Nat} {ls : Array Slot} {rest : List Value} {s0 : State} {D : va_G} {cy : Nat → ClassId} {S S' : HS} {own : String} {ret : Option FieldType} {post : Option Value → HS → Prop} {i index : Nat}
variable {y : MethodName} {ccy : ByteArray} {ny nA : Nat} {rety : Option FieldType} {rm : Room} {As st : List Value} {lv : List (Nat × Value)}

theorem gN_n {x : Int64} {host : String} (X : Cx s0 l D cy p s m args meth c cc nL own ret) (w : Wd s0 D cy S s.heap H locs) (hV : vV S 11 0) (hl : Cond.fieldLinkNest own index "CavershamShiftLaw$Out" "n" "J" host ∈ NSTW) (hv : mL S 176 = x) (hdg : decode cc pc = .ok (.getfield index, 3))
    (kk : W p l e R s m args below meth c H locs cells slots Q (F0 m (pc + 3) ls (.long x :: rest))) : W p l e R s m args below meth c H locs cells slots Q (F0 m pc ls (.ref (gG S 11 0) :: rest)) := by
  obtain ⟨ws, q0, hP, hD, hq, hm⟩ := w.at hV
  rw [cell_obj (by decide)] at hq
  have hlk := va_Nw.use (A := args) (nst_tab (List.mem_filter.mp hl).2) (X.2.2.2.2.2.2.2.2.1.2.2.2.1 _ hl)
  exact va_getN (v := .long x) X.1 X.2.1 X.2.2.2.2.1 in_11 X.2.2.2.1 X.2.2.2.2.2.2.2.1 hP q0 hq (rfl : CL[11]? = some (RX11, TX11, 3)) 0 (by decide) hlk (fun _ h => h) (by rw [rng_get (fun k => fval S (16 * 11 + k) 0) (show 0 < nf 11 by decide)]; exact congrArg some (congrArg Value.long hv)) hdg kk
end GNO

