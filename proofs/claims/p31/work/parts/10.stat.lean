section FS
variable {p : Program} {l : Launch} {e : Env} {R : Room} {s : State} {m : MethodId} {args : Array Value} {below : List Frame} {meth : Method} {c : Code} {H : Heap} {locs : List Loc} {cells slots : Nat} {Q : State → Prop} {cc : ByteArray} {pc nL : Nat} {ls : Array Slot} {rest : List Value} {s0 : State} {D : va_G} {cy : Nat → ClassId} {S : HS} {own : String} {ret : Option FieldType}
theorem gFs {t k i index : Nat} {ref nm ds C : String} {T : u_T} {v : Value} (X : Cx s0 l D cy p s m args meth c cc nL own ret) (w : Wd s0 D cy S s.heap H locs) (hV : vV S t i) (ht : t < 21) (hc : CL[t]? = some (C, T, nf t)) (hk : k < nf t) (hin : ∀ w ∈ u_ws C T (nf t), w ∈ ALLW) (h1 : ∀ x, s.fieldFound? (T k).1 (T k).2.1 (T k).2.2.1 = some x → s.fieldFound? ref (T k).2.1 (T k).2.2.1 = some x) (h2 : (T k).2.1 = nm) (h3 : (T k).2.2.1 = ds) (hl : Cond.fieldLink own index ref nm ds ∈ ALLW) (hv : fval S (16 * t + k) i = v) (hdg : decode cc pc = .ok (.getfield index, 3))
    (kk : W p l e R s m args below meth c H locs cells slots Q (F0 m (pc + 3) ls (v :: rest))) : W p l e R s m args below meth c H locs cells slots Q (F0 m pc ls (.ref (gG S t i) :: rest)) := by
  obtain ⟨ws, q0, hP, hD, hq, hm⟩ := w.at hV
  rw [cell_obj ht] at hq
  subst h2; subst h3
  exact va_get X.1 X.2.1 X.2.2.2.2.1 hin X.2.2.2.1 X.2.2.2.2.2.2.2.1 hP q0 hq hc k hk (X.2.2.2.2.1 _ hl) h1 (by rw [rng_get _ hk, hv]) hdg kk
theorem pFs {t k i index : Nat} {ref nm ds C : String} {T : u_T} {S' : HS} {v : Value} {ty : FieldType} (X : Cx s0 l D cy p s m args meth c cc nL own ret) (w : Wd s0 D cy S s.heap H locs) (hV : vV S t i) (ht : t < 21) (hc : CL[t]? = some (C, T, nf t)) (hk : k < nf t) (hin : ∀ w ∈ u_ws C T (nf t), w ∈ ALLW) (h1 : ∀ x, s.fieldFound? (T k).1 (T k).2.1 (T k).2.2.1 = some x → s.fieldFound? ref (T k).2.1 (T k).2.2.1 = some x) (h2 : (T k).2.1 = nm) (h3 : (T k).2.2.1 = ds) (hfin : (T k).2.2.2 = false) (hl : Cond.fieldLink own index ref nm ds ∈ ALLW) (ty0 : Nat → FieldType) (hty : ∀ k, k < nf t → parseFieldDescriptor (T k).2.2.1 = some (ty0 k)) (hnm : ∀ a, a < nf t → ∀ b, b < nf t → a ≠ b → (T a).2.1 ≠ (T b).2.1) (hd : parseFieldDescriptor (T k).2.2.1 = some ty) (hn : narrow ty v = v) (hfit : fits ty v = true)
    (ho : ∀ f j, ¬ (f = 16 * t + k ∧ j = i) → fval S' f j = fval S f j) (hs : fval S' (16 * t + k) i = v) (hdg : decode cc pc = .ok (.putfield index, 3))
    (kk : ∀ (H1 : Heap) (locs1 : List Loc), Wd s0 D cy S' s.heap H1 locs1 → W p l e R s m args below meth c H1 locs1 cells slots Q (F0 m (pc + 3) ls rest)) (hSame : vV S' = vV S ∧ gG S' = gG S ∧ mN S' = mN S ∧ mA S' = mA S ∧ mB S' = mB S := by exact ⟨rfl, rfl, rfl, rfl, rfl⟩) : W p l e R s m args below meth c H locs cells slots Q (F0 m pc ls (v :: .ref (gG S t i) :: rest)) := by
  obtain ⟨ws, q0, hP, hD, hq, hm⟩ := w.at hV
  have hq' := hq
  rw [cell_obj ht] at hq
  subst h2; subst h3
  refine va_put X.1 X.2.1 X.2.2.2.2.1 hin ty0 hty hnm X.2.2.2.1 X.2.2.2.2.2.2.2.1 hP hD w.2 q0 hq hc k hk (X.2.2.2.2.1 _ hl) h1 hfin hd hn hfit (by simpa using hk) hdg (fun H1 locs1 a b c' => ?_)
  refine kk H1 locs1 ⟨WP.put w.1.2 hD hV hq' hm a b hSame.1 hSame.2.1 ?_ (fun t' i' h => ?_), c'⟩
  · rw [cell_obj ht, ← hs, rng_set (fun k => fval S (16 * t + k) i) (fun k => fval S' (16 * t + k) i) (fun j hj h => ho _ _ (fun z => h (by omega)))]
  · unfold cellM
    rw [hSame.2.2.1, hSame.2.2.2.1, hSame.2.2.2.2]
    by_cases h21 : t' < 21
    · rw [if_pos h21, if_pos h21]
      congr 2
      apply List.map_congr_left
      intro j hj
      have hj16 : j < 16 := Nat.lt_of_lt_of_le (List.mem_range.mp hj) (nf_le t')
      have hk16 : k < 16 := Nat.lt_of_lt_of_le hk (nf_le t)
      exact ho _ _ (fun z => h ⟨by omega, z.2⟩)
    · rw [if_neg h21, if_neg h21]
end FS
section MC
variable {p : Program} {l : Launch} {e : Env} {R : Room} {s : State} {m : MethodId} {args : Array Value} {below : List Frame} {meth : Method} {c : Code} {H : Heap} {locs : List Loc} {cells slots : Nat} {Q : State → Prop} {cc : ByteArray} {pc nL : Nat} {ls : Array Slot} {rest : List Value} {s0 : State} {D : va_G} {cy : Nat → ClassId} {S : HS} {own : String} {ret : Option FieldType}
variable {i index : Nat}
theorem gS_17_0 {x : Int32} (X : Cx s0 l D cy p s m args meth c cc nL own ret) (w : Wd s0 D cy S s.heap H locs) (hV : vV S 17 i) (hl : Cond.fieldLink own index "java/util/ArrayList" "modCount" "I" ∈ ALLW) (hv : mI S 272 i = x) (hdg : decode cc pc = .ok (.getfield index, 3)) (kk : W p l e R s m args below meth c H locs cells slots Q (F0 m (pc + 3) ls (.int x :: rest))) : W p l e R s m args below meth c H locs cells slots Q (F0 m pc ls (.ref (gG S 17 i) :: rest)) := gFs (t := 17) (k := 0) X w hV (by decide) rfl (by decide) in_17 (fun x9 h9 => u_same (X.2.2.2.2.1 _ wZ_73) x9 h9) rfl rfl hl (congrArg Value.int hv) hdg kk
theorem pS_17_0 {x : Int32} (X : Cx s0 l D cy p s m args meth c cc nL own ret) (w : Wd s0 D cy S s.heap H locs) (hV : vV S 17 i) (hl : Cond.fieldLink own index "java/util/ArrayList" "modCount" "I" ∈ ALLW) (hdg : decode cc pc = .ok (.putfield index, 3)) (kk : ∀ (H1 : Heap) (locs1 : List Loc), Wd s0 D cy (sI S 272 i x) s.heap H1 locs1 → W p l e R s m args below meth c H1 locs1 cells slots Q (F0 m (pc + 3) ls rest)) : W p l e R s m args below meth c H locs cells slots Q (F0 m pc ls (.int x :: .ref (gG S 17 i) :: rest)) := pFs (t := 17) (k := 0) X w hV (by decide) rfl (by decide) in_17 (fun x9 h9 => u_same (X.2.2.2.2.1 _ wZ_73) x9 h9) rfl rfl rfl hl tyJx4a65c tyJx4a65c_ok nmJx4a65c (by rfl) (by rfl) (by rfl) (fun t' i' h => fv_sI_ne h) (fv_sI rfl) hdg kk
theorem p_17_0 {x : Int32} (X : Cx s0 l D cy p s m args meth c cc nL own ret) (w : Wd s0 D cy S s.heap H locs) (hV : vV S 17 i) (hl : Cond.fieldLink own index "java/util/AbstractList" "modCount" "I" ∈ ALLW) (hdg : decode cc pc = .ok (.putfield index, 3)) (kk : ∀ (H1 : Heap) (locs1 : List Loc), Wd s0 D cy (sI S 272 i x) s.heap H1 locs1 → W p l e R s m args below meth c H1 locs1 cells slots Q (F0 m (pc + 3) ls rest)) : W p l e R s m args below meth c H locs cells slots Q (F0 m pc ls (.int x :: .ref (gG S 17 i) :: rest)) := pF (t := 17) (k := 0) X w hV (by decide) rfl (by decide) in_17 rfl rfl rfl rfl hl tyJx4a65c tyJx4a65c_ok nmJx4a65c (by rfl) (by rfl) (by rfl) (fun t' i' h => fv_sI_ne h) (fv_sI rfl) hdg kk
end MC
/-! statics that nobody writes: the empty row of ArrayList -/
def tmE : Term := .static "java/util/ArrayList" "DEFAULTCAPACITY_EMPTY_ELEMENTDATA" "[Ljava/lang/Object;"
def eaOf (s0 : State) : Nat := match tmE.eval #[] s0 none [] s0 with
  | some (.ref a) => a
  | _ => 0
theorem G_ea {s0 : State} {l : Launch} {D : va_G} {cy : Nat → ClassId} (G : Gl s0 l D cy) : va_Z "java/util/ArrayList" "DEFAULTCAPACITY_EMPTY_ELEMENTDATA" "[Ljava/lang/Object;" (.ref (eaOf s0)) (A0 s0) s0 s0.heap ∧ va_T (.object "java/lang/Object") (eaOf s0) 0 (fun _ => .null) (A0 s0) s0 s0.heap := by
  obtain ⟨-, -, b, hts, hgv⟩ := G
  have hs := flat_of_before _ hgv
  have harr : (Cond.arrayOf tmE (.object "java/lang/Object")).before #[.ref b] s0 = true := hs _ (by decide +kernel)
  have hlen : (Cond.eq (.length tmE) (.int 0)).before #[.ref b] s0 = true := hs _ (by decide +kernel)
  obtain ⟨t, ht, hT⟩ := va_Tof (N := 0) (f := fun _ => .null) (A := A0 s0) (by decide) harr (va_eqt hlen) (fun j hj => absurd hj (Nat.not_lt_zero j)) (fun a ha => Nat.not_le.mpr ha)
  have e : eaOf s0 = t := by
    unfold eaOf
    rw [show tmE.eval #[] s0 none [] s0 = tmE.eval #[Value.ref b] s0 none [] s0 from rfl, ht]
  rw [e]
  exact ⟨va_Zof (hts _ wLS_Jx4a65c_DEFAULTCAPACITY_EMPTY_ELEMENTDATA) (hts _ (List.mem_filter.mp wI_Jx4a65c).1) ht (fun a ha => Nat.not_le.mpr ha), hT⟩
theorem Bs.same {s0 s : State} (h : Bs s0 s) : ∀ a : Nat, a < s0.heap.size → ¬ A0 s0 a → s.heap[a]? = s0.heap[a]? := fun a ha _ => h.2.2.1 a ha
theorem X_ea {s0 s : State} {l : Launch} {D : va_G} {cy : Nat → ClassId} (G : Gl s0 l D cy) (h : Bs s0 s) : va_Z "java/util/ArrayList" "DEFAULTCAPACITY_EMPTY_ELEMENTDATA" "[Ljava/lang/Object;" (.ref (eaOf s0)) (A0 s0) s s.heap ∧ va_T (.object "java/lang/Object") (eaOf s0) 0 (fun _ => .null) (A0 s0) s s.heap :=
  ⟨((G_ea G).1.moved h.1).kept h.same, ((G_ea G).2.moved h.1).kept h.same⟩
/-! calls of a list by its interface -/
def FwT (C : String) (x y : MethodName) : Prop := Cond.declares x ∈ lw_tbl ∧ Cond.interfaceMethod x.cls x.cls x.name x.desc ∈ lw_tbl ∧ Cond.publicMethod y ∈ lw_tbl ∧ Cond.unhidden C x.name x.desc ∈ lw_tbl ∧ Cond.castable C x.cls ∈ lw_tbl
theorem FwT.at {s0 s : State} {l : Launch} {D : va_G} {cy : Nat → ClassId} {C : String} {x y : MethodName} (G : Gl s0 l D cy) (h : Bs s0 s) (hF : FwT C x y) (hx : x.cls ≠ "java/lang/invoke/MethodHandle" ∧ x.cls ≠ "java/lang/invoke/VarHandle") : va_Fw C x y s := by
  obtain ⟨-, -, b, hts, -⟩ := G
  exact va_Fw.moved hx h.1 (va_Fw.of (hts _ hF.1) (hts _ hF.2.1) (hts _ hF.2.2.1) (hts _ hF.2.2.2.1) (hts _ hF.2.2.2.2))
section CF
variable {p : Program} {l : Launch} {e : Env} {R : Room} {s : State} {m : MethodId} {args : Array Value} {below : List Frame} {meth : Method} {c : Code} {H : Heap} {locs : List Loc} {cells slots : Nat} {Q : State → Prop} {cc : ByteArray} {pc nL : Nat} {ls : Array Slot} {rest : List Value} {s0 : State} {D : va_G} {cy : Nat → ClassId} {S : HS} {own : String} {ret : Option FieldType} {post : Option Value → HS → Prop} {mc ms : Nat}
theorem callG5 {pc : Nat} {st0 : List Value} {a : Array Value} (hr : va_Run5 p l e R s m args below meth c H locs cells slots mc ms (F0 m pc ls st0) rest (GQ s0 D cy post a) (A0 s0)) (h0 : s0.heap.size ≤ s.heap.size) (w : va_S (A0 s0) s.heap H locs)
    (kk : ∀ (v : Option Value) (S' : HS) (H1 : Heap) (locs1 : List Loc), post v S' → Wd s0 D cy S' s.heap H1 locs1 → W p l e R s m args below meth c H1 locs1 (cells + mc) (slots + ms) Q (F0 m (pc + 5) ls (v.toList ++ rest))) : W p l e R s m args below meth c H locs cells slots Q (F0 m pc ls st0) := by
  intro T hT X
  obtain ⟨v, st₀, t, T', L, h1, X', hL, e1, e2, ⟨⟨v', S', hv, hp, hw⟩, hz, hk⟩, st⟩ := hr T hT X
  have hv' : v' = v := by injection hv with h; exact h.symm
  subst hv'
  rw [h1] at hz hk
  obtain ⟨t2, a1, b1⟩ := kk v' S' T'.heap (locs ++ L) hp ⟨by rw [e1]; exact hw, ⟨Nat.le_trans w.1 (by rw [e1]; exact hz), fun q h1 h2 => by rw [e1, hk q (Nat.lt_of_lt_of_le h1 w.1) h2]; exact w.2.1 q h1 h2, fun q hq => by
      rcases List.mem_append.mp hq with h | h
      · exact w.2.2 q h
      · exact hL q h⟩⟩ T' rfl X'
  exact ⟨t2, st t2 a1, b1⟩
theorem cF {x y : MethodName} {ccy : ByteArray} {ny nA index count : Nat} {rety : Option FieldType} {rm : Room} {As st : List Value} {lv : List (Nat × Value)} {t i : Nat} {C : String} {T : u_T} (X : Cx s0 l D cy p s m args meth c cc nL own ret) (w : Wd s0 D cy S s.heap H locs) (hl : lv_has ls nL lv) (hV : vV S t i) (hM : Ctr s0 l D cy y ccy ny rety rm S (.ref (gG S t i) :: As) post) (hY : Cond.code y ccy ny rety ∈ ALLW) (hL : Cond.methodLink own index x ∈ ALLW) (hIn : Cond.instanceMethod y ∈ ALLW) (hSe : Cond.selects C x y ∈ ALLW) (hI : Cond.initialized y.cls ∈ ALLW) (hF : FwT C x y) (ht : t < 21) (hc : CL[t]? = some (C, T, nf t)) (hd : okY x nA = true) (hn : As.length = nA) (hst : st = As.reverse ++ .ref (gG S t i) :: rest) (hdg : decode cc pc = .ok (.invokeinterface index count, 5)) (hR : rm.frames + 1 ≤ R.frames ∧ 8 + (ny + 11) + rm.locals ≤ R.locals) (hcat : (rest.map fun v => v.category).sum ≤ 8) (hf : cells + rm.cells ≤ R.cells ∧ slots + rm.slots ≤ R.slots)
    (kk : ∀ (v : Option Value) (S' : HS) (H1 : Heap) (locs1 : List Loc), post v S' → Wd s0 D cy S' s.heap H1 locs1 → W p l e R s m args below meth c H1 locs1 (cells + rm.cells) (slots + rm.slots) Q (F0 m (pc + 5) ls (v.toList ++ rest))) : W p l e R s m args below meth c H locs cells slots Q (F0 m pc ls st) := by
  have hT : GoodIn ALLW (va_wsF own index C x y (Cond.code y ccy ny rety :: ALLW)) := by
    intro v hv
    rcases List.mem_append.mp hv with h | h
    · simp only [List.mem_cons, List.not_mem_nil, or_false] at h
      rcases h with rfl | rfl | rfl | rfl
      · exact gAll hL
      · exact gAll hSe
      · exact gAll hIn
      · exact gAll hI
    · exact gIn hY v h
  have hok := okY_of hd
  exact callG5 (va_runF (C := C) (Ts := ALLW) (own := own) (As := As) (rest := rest) (X.2.2.2.2.2.2.2.1.1 t _ hc).2 ⟨X.1, X.2.1, X.2.2.1, X.2.2.2.1, X.2.2.2.2.1⟩ hM (va_cwF nA X.2.2.2.2.1 hT rfl rfl rfl (hF.at X.2.2.2.2.2.2.2.2.2 X.2.2.2.2.2.2.2.2.1 ⟨hok.1, hok.2.1⟩) hok hR) ⟨blindG, recvG X w hV ht hc, preU X.2.2.2.2.2.2.2.2.1 w⟩ rfl hn hl.1 hst (lv_room hcat) hdg hf) X.2.2.2.2.2.2.2.2.1.2.1 w.2 kk
end CF

