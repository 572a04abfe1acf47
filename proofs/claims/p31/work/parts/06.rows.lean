/-! prologue, returns, calls -/
theorem nst_tab {w : Cond} (g : isNst w = true) : w.onTables = true := by
  cases w <;> first | rfl | exact absurd g Bool.false_ne_true
theorem Gl.at {s0 s : State} {l : Launch} {D : va_G} {cy : Nat → ClassId} (G : Gl s0 l D cy) (h : Bs s0 s) : va_K D CL (TY cy) s := va_K.moved h.1 G.1
theorem pro {s0 : State} {l : Launch} {D : va_G} {cy : Nat → ClassId} {y : MethodName} {cc : ByteArray} {n : Nat} {ret : Option FieldType} {rm : Room} {S : HS} {As : List Value} {post : Option Value → HS → Prop} (own : String) (G : Gl s0 l D cy) (hy : plainName y.cls = true) (hown : y.cls = own) (hlen : (lg_sl As).length ≤ n)
    (body : ∀ (p : Program) (e : Env) (s : State) (m : MethodId) (below : List Frame) (meth : Method) (c : Code) (ls : Array Slot), Cx s0 l D cy p s m As.toArray meth c cc n own ret → Wd s0 D cy S s.heap s.heap [] → meth.name = y.name → lv_has ls n (lv_args 0 As) →
      W p l e rm s m As.toArray below meth c s.heap [] 0 0 (MQ below (GQ s0 D cy post) As.toArray s rm.cells rm.slots (A0 s0)) (F0 m 0 ls [])) : Ctr s0 l D cy y cc n ret rm S As post := by
  refine Met.ofW (cc := cc) (maxL := n) (ret := ret) hy rfl ?_
  intro p e s m args below meth c s₁ B hml hv
  obtain ⟨rfl, hBs, hWP⟩ := hv
  have hl := lv_entry As (n := n) hlen
  rw [lg_entry_eq]
  generalize (lg_sl As ++ List.replicate (n - (lg_sl As).length) Slot.unset).toArray = ls at hl ⊢
  exact body p e s m below meth c ls ⟨B.exec, B.bytes, hml, by rw [← hown]; exact findClass_of_methodNamed B.named, fun w h => atoms_spec (ws := Cond.code y cc n ret :: ALLW) B.pre w (List.mem_cons_of_mem _ h), B.returns, B.notSynchronized, G.at hBs, hBs, G⟩ ⟨hWP, va_S.rf⟩ (name_of_methodNamed B.named B.method).1 hl
section ROWS
variable {p : Program} {l : Launch} {e : Env} {R : Room} {s : State} {m : MethodId} {args : Array Value} {below : List Frame} {meth : Method} {c : Code} {H : Heap} {locs : List Loc} {cells slots : Nat} {Q : State → Prop} {cc : ByteArray} {pc nL : Nat} {ls : Array Slot} {rest : List Value} {s0 : State} {D : va_G} {cy : Nat → ClassId} {S S' : HS} {own : String} {ret : Option FieldType} {post : Option Value → HS → Prop} {mc ms : Nat}
theorem rI {v : Int32} (X : Cx s0 l D cy p s m args meth c cc nL own ret) (w : Wd s0 D cy S' s.heap H locs) (hr : ret = some .int) (hdg : decode cc pc = .ok (.ireturn, 1)) (hc : cells ≤ mc) (hs : slots ≤ ms) (hp : post (some (.int v)) S') : W p l e R s m args below meth c H locs cells slots (MQ below (GQ s0 D cy post) args s mc ms (A0 s0)) (F0 m pc ls [.int v]) :=
  W.widen hc hs (W.iret X.1 X.2.1 (X.2.2.2.2.2.1.trans hr) (fun _ ht _ => ⟨⟨_, S', rfl, hp, by rw [ht]; exact w.1⟩, w.2.F ht⟩) w.2.2.2 hdg X.2.2.2.2.2.2.1)
theorem rZ {v : Int32} (X : Cx s0 l D cy p s m args meth c cc nL own ret) (w : Wd s0 D cy S' s.heap H locs) (hr : ret = some .boolean) (hdg : decode cc pc = .ok (.ireturn, 1)) (hz : v = 0 ∨ v = 1) (hc : cells ≤ mc) (hs : slots ≤ ms) (hp : post (some (.int v)) S') : W p l e R s m args below meth c H locs cells slots (MQ below (GQ s0 D cy post) args s mc ms (A0 s0)) (F0 m pc ls [.int v]) :=
  W.widen hc hs (W.zret X.1 X.2.1 (X.2.2.2.2.2.1.trans hr) (nar_z hz) (fun _ ht _ => ⟨⟨_, S', rfl, hp, by rw [ht]; exact w.1⟩, w.2.F ht⟩) w.2.2.2 hdg X.2.2.2.2.2.2.1)
theorem rV (X : Cx s0 l D cy p s m args meth c cc nL own ret) (w : Wd s0 D cy S' s.heap H locs) (hr : ret = none) (hdg : decode cc pc = .ok (.return_, 1)) (hc : cells ≤ mc) (hs : slots ≤ ms) (hp : post none S') : W p l e R s m args below meth c H locs cells slots (MQ below (GQ s0 D cy post) args s mc ms (A0 s0)) (F0 m pc ls []) :=
  W.widen hc hs (W.vret X.1 X.2.1 (X.2.2.2.2.2.1.trans hr) (fun _ ht _ => ⟨⟨_, S', rfl, hp, by rw [ht]; exact w.1⟩, w.2.F ht⟩) w.2.2.2 hdg X.2.2.2.2.2.2.1)
theorem rA {v : Option Nat} {rt : FieldType} (X : Cx s0 l D cy p s m args meth c cc nL own ret) (w : Wd s0 D cy S' s.heap H locs) (hr : ret = some rt) (hrt : (∃ n, rt = .object n) ∨ ∃ t, rt = .array t) (hdg : decode cc pc = .ok (.areturn, 1)) (hc : cells ≤ mc) (hs : slots ≤ ms) (hp : post (some (va_rf v)) S') : W p l e R s m args below meth c H locs cells slots (MQ below (GQ s0 D cy post) args s mc ms (A0 s0)) (F0 m pc ls [va_rf v]) :=
  W.widen hc hs (W.aret X.1 X.2.1 (X.2.2.2.2.2.1.trans hr) hrt (by cases v with | none => exact Or.inl rfl | some a => exact Or.inr ⟨a, rfl⟩) (fun _ ht _ => ⟨⟨_, S', rfl, hp, by rw [ht]; exact w.1⟩, w.2.F ht⟩) w.2.2.2 hdg X.2.2.2.2.2.2.1)
theorem rL {v : Int64} (X : Cx s0 l D cy p s m args meth c cc nL own ret) (w : Wd s0 D cy S' s.heap H locs) (hr : ret = some .long) (hdg : decode cc pc = .ok (.lreturn, 1)) (hc : cells ≤ mc) (hs : slots ≤ ms) (hp : post (some (.long v)) S') : W p l e R s m args below meth c H locs cells slots (MQ below (GQ s0 D cy post) args s mc ms (A0 s0)) (F0 m pc ls [.long v]) :=
  W.widen hc hs (W.lret X.1 X.2.1 (X.2.2.2.2.2.1.trans hr) (fun _ ht _ => ⟨⟨_, S', rfl, hp, by rw [ht]; exact w.1⟩, w.2.F ht⟩) w.2.2.2 hdg X.2.2.2.2.2.2.1)
/-- behind a call of a method with a contract -/
theorem callG {pc : Nat} {st0 : List Value} {a : Array Value} (hr : va_Run p l e R s m args below meth c H locs cells slots mc ms (F0 m pc ls st0) rest (GQ s0 D cy post a) (A0 s0)) (h0 : s0.heap.size ≤ s.heap.size) (w : va_S (A0 s0) s.heap H locs)
    (kk : ∀ (v : Option Value) (S' : HS) (H1 : Heap) (locs1 : List Loc), post v S' → Wd s0 D cy S' s.heap H1 locs1 → W p l e R s m args below meth c H1 locs1 (cells + mc) (slots + ms) Q (F0 m (pc + 3) ls (v.toList ++ rest))) : W p l e R s m args below meth c H locs cells slots Q (F0 m pc ls st0) := by
  intro T hT X
  obtain ⟨v, st₀, t, T', L, h1, X', hL, e1, e2, ⟨⟨v', S', hv, hp, hw⟩, hz, hk⟩, st⟩ := hr T hT X
  have hv' : v' = v := by injection hv with h; exact h.symm
  subst hv'
  rw [h1] at hz hk
  obtain ⟨t2, a1, b1⟩ := kk v' S' T'.heap (locs ++ L) hp ⟨by rw [e1]; exact hw, ⟨Nat.le_trans w.1 (by rw [e1]; exact hz), fun q h1 h2 => by rw [e1, hk q (Nat.lt_of_lt_of_le h1 w.1) h2]; exact w.2.1 q h1 h2, fun q hq => by
      rcases List.mem_append.mp hq with h | h
      · exact w.2.2 q h
      · exact hL q h⟩⟩ T' rfl X'
  exact ⟨t2, st t2 a1, b1⟩
theorem preU {As : List Value} (hB : Bs s0 s) (w : Wd s0 D cy S s.heap H locs) : ∀ U : State, U.heap = H → s.WarmedH U.vm → va_Pc As (fun U => Bs s0 U ∧ WP s0 D cy S U.heap) As.toArray U := by
  intro U hU hW
  refine ⟨rfl, ⟨hB.1.trans hW.alike, ?_, ?_, (fun w hw => nst_warm (List.mem_filter.mp hw).2 hW (hB.2.2.2.1 w hw)), (fun x hx => vk_R.warm hW (hB.2.2.2.2 x hx))⟩, ?_⟩
  · rw [hU]; exact Nat.le_trans hB.2.1 w.2.1
  · intro q hq
    rw [hU, w.2.2.1 q (Nat.lt_of_lt_of_le hq hB.2.1) (Nat.not_le.mpr hq)]
    exact hB.2.2.1 q hq
  · rw [hU]; exact w.1
theorem blindG {As : List Value} : FrameBlind (va_Pc As (fun U => Bs s0 U ∧ WP s0 D cy S U.heap)) := fun a U g mk q => ⟨q.1, ⟨q.2.1.1, q.2.1.2.1, q.2.1.2.2.1, (fun w hw => va_Nw.same (nst_tab (List.mem_filter.mp hw).2) (u := U) (U := U.calling g mk a) rfl (q.2.1.2.2.2.1 w hw)), (fun x hx => vk_R.same (u := U) (U := U.calling g mk a) rfl (q.2.1.2.2.2.2 x hx))⟩, q.2.2⟩
theorem recvG {t i : Nat} {C : String} {T : u_T} (X : Cx s0 l D cy p s m args meth c cc nL own ret) (w : Wd s0 D cy S s.heap H locs) (hV : vV S t i) (ht : t < 21) (hc : CL[t]? = some (C, T, nf t)) : ∃ cell : Cell, H[gG S t i]? = some cell ∧ cell.vm.isStatics = false ∧ s.vm.findClass C = some cell.cls := by
  obtain ⟨ws, q0, hP, hD, hq, hm⟩ := w.at hV
  rw [cell_obj ht] at hq
  exact va_recv X.2.2.2.2.2.2.2.1 hP hc hq
/-- what a call wants of the method's name: told by 'decide' -/
def okY (y : MethodName) (n : Nat) : Bool := decide (y.cls ≠ "java/lang/invoke/MethodHandle") && decide (y.cls ≠ "java/lang/invoke/VarHandle") && decide ((parseMethodDescriptor y.desc).map (fun d => d.parameters.length) = some n)
theorem okY_of {y : MethodName} {n : Nat} (h : okY y n = true) : y.cls ≠ "java/lang/invoke/MethodHandle" ∧ y.cls ≠ "java/lang/invoke/VarHandle" ∧ (parseMethodDescriptor y.desc).map (fun d => d.parameters.length) = some n := by
  simp only [okY, Bool.and_eq_true, decide_eq_true_eq] at h
  exact ⟨h.1.1, h.1.2, h.2⟩
section Calls
variable {y : MethodName} {ccy : ByteArray} {ny nA index : Nat} {rety : Option FieldType} {rm : Room} {As st : List Value} {lv : List (Nat × Value)}
theorem cS (X : Cx s0 l D cy p s m args meth c cc nL own ret) (w : Wd s0 D cy S s.heap H locs) (hl : lv_has ls nL lv) (hM : Ctr s0 l D cy y ccy ny rety rm S As post) (hY : Cond.code y ccy ny rety ∈ ALLW) (hL : Cond.methodLink own index y ∈ ALLW) (hSt : Cond.static y ∈ ALLW) (hI : Cond.initialized y.cls ∈ ALLW) (hd : okY y nA = true) (hn : As.length = nA) (hst : st = As.reverse ++ rest) (hdg : decode cc pc = .ok (.invokestatic index, 3)) (hR : rm.frames + 1 ≤ R.frames ∧ 8 + (ny + 11) + rm.locals ≤ R.locals) (hcat : (rest.map fun v => v.category).sum ≤ 8) (hf : cells + rm.cells ≤ R.cells ∧ slots + rm.slots ≤ R.slots)
    (kk : ∀ (v : Option Value) (S' : HS) (H1 : Heap) (locs1 : List Loc), post v S' → Wd s0 D cy S' s.heap H1 locs1 → W p l e R s m args below meth c H1 locs1 (cells + rm.cells) (slots + rm.slots) Q (F0 m (pc + 3) ls (v.toList ++ rest))) : W p l e R s m args below meth c H locs cells slots Q (F0 m pc ls st) :=
  callG (va_runS (Ts := ALLW) (own := own) (As := As) (rest := rest) ⟨X.1, X.2.1, X.2.2.1, X.2.2.2.1, X.2.2.2.2.1⟩ hM ⟨callB_of nA X.2.2.2.2.1 (gIn hY) rfl rfl rfl (X.2.2.2.2.1 _ hI) (X.2.2.2.2.1 _ hL) (okY_of hd) hR, X.2.2.2.2.1 _ hSt⟩ ⟨blindG, preU X.2.2.2.2.2.2.2.2.1 w⟩ rfl hn hl.1 hst (lv_room hcat) hdg hf) X.2.2.2.2.2.2.2.2.1.2.1 w.2 kk
theorem cSN {host : String} (X : Cx s0 l D cy p s m args meth c cc nL own ret) (w : Wd s0 D cy S s.heap H locs) (hl : lv_has ls nL lv) (hM : Ctr s0 l D cy y ccy ny rety rm S As post) (hY : Cond.code y ccy ny rety ∈ ALLW) (hL : Cond.methodLinkNest own index y host ∈ NSTW) (hSt : Cond.static y ∈ ALLW) (hI : Cond.initialized y.cls ∈ ALLW) (hd : okY y nA = true) (hn : As.length = nA) (hst : st = As.reverse ++ rest) (hdg : decode cc pc = .ok (.invokestatic index, 3)) (hR : rm.frames + 1 ≤ R.frames ∧ 8 + (ny + 11) + rm.locals ≤ R.locals) (hcat : (rest.map fun v => v.category).sum ≤ 8) (hf : cells + rm.cells ≤ R.cells ∧ slots + rm.slots ≤ R.slots)
    (kk : ∀ (v : Option Value) (S' : HS) (H1 : Heap) (locs1 : List Loc), post v S' → Wd s0 D cy S' s.heap H1 locs1 → W p l e R s m args below meth c H1 locs1 (cells + rm.cells) (slots + rm.slots) Q (F0 m (pc + 3) ls (v.toList ++ rest))) : W p l e R s m args below meth c H locs cells slots Q (F0 m pc ls st) :=
  callG (va_runSN (Ts := ALLW) (own := own) (As := As) (rest := rest) ⟨X.1, X.2.1, X.2.2.1, X.2.2.2.1, X.2.2.2.2.1⟩ hM ⟨va_cnB nA X.2.2.2.2.1 (gIn hY) rfl rfl rfl (X.2.2.2.2.2.2.2.2.1.2.2.2.1 _ hL) (X.2.2.2.2.1 _ hI) (okY_of hd) hR, X.2.2.2.2.1 _ hSt, trivial⟩ ⟨blindG, preU X.2.2.2.2.2.2.2.2.1 w⟩ rfl hn hl.1 hst (lv_room hcat) hdg hf) X.2.2.2.2.2.2.2.2.1.2.1 w.2 kk
theorem cV {t i : Nat} {C : String} {T : u_T} (X : Cx s0 l D cy p s m args meth c cc nL own ret) (w : Wd s0 D cy S s.heap H locs) (hl : lv_has ls nL lv) (hV : vV S t i) (hM : Ctr s0 l D cy y ccy ny rety rm S (.ref (gG S t i) :: As) post) (hY : Cond.code y ccy ny rety ∈ ALLW) (hL : Cond.methodLink own index y ∈ ALLW) (hIn : Cond.instanceMethod y ∈ ALLW) (hSe : Cond.selects C y y ∈ ALLW) (hI : Cond.initialized y.cls ∈ ALLW) (ht : t < 21) (hc : CL[t]? = some (C, T, nf t)) (hd : okY y nA = true) (hn : As.length = nA) (hst : st = As.reverse ++ .ref (gG S t i) :: rest) (hdg : decode cc pc = .ok (.invokevirtual index, 3)) (hR : rm.frames + 1 ≤ R.frames ∧ 8 + (ny + 11) + rm.locals ≤ R.locals) (hcat : (rest.map fun v => v.category).sum ≤ 8) (hf : cells + rm.cells ≤ R.cells ∧ slots + rm.slots ≤ R.slots)
    (kk : ∀ (v : Option Value) (S' : HS) (H1 : Heap) (locs1 : List Loc), post v S' → Wd s0 D cy S' s.heap H1 locs1 → W p l e R s m args below meth c H1 locs1 (cells + rm.cells) (slots + rm.slots) Q (F0 m (pc + 3) ls (v.toList ++ rest))) : W p l e R s m args below meth c H locs cells slots Q (F0 m pc ls st) :=
  callG (va_runV (C := C) (Ts := ALLW) (own := own) (As := As) (rest := rest) ⟨X.1, X.2.1, X.2.2.1, X.2.2.2.1, X.2.2.2.2.1⟩ hM ⟨callB_of nA X.2.2.2.2.1 (gIn hY) rfl rfl rfl (X.2.2.2.2.1 _ hI) (X.2.2.2.2.1 _ hL) (okY_of hd) hR, X.2.2.2.2.1 _ hIn, X.2.2.2.2.1 _ hSe⟩ ⟨blindG, recvG X w hV ht hc, preU X.2.2.2.2.2.2.2.2.1 w⟩ rfl hn hl.1 hst (lv_room hcat) hdg hf) X.2.2.2.2.2.2.2.2.1.2.1 w.2 kk
theorem cI {a : Nat} (X : Cx s0 l D cy p s m args meth c cc nL own ret) (w : Wd s0 D cy S s.heap H locs) (hl : lv_has ls nL lv) (hM : Ctr s0 l D cy y ccy ny none rm S (.ref a :: As) post) (hY : Cond.code y ccy ny none ∈ ALLW) (hL : Cond.methodLink own index y ∈ ALLW) (hIn : Cond.instanceMethod y ∈ ALLW) (hI : Cond.initialized y.cls ∈ ALLW) (hy1 : y.name = "<init>") (hd : okY y nA = true) (hn : As.length = nA) (hst : st = As.reverse ++ .ref a :: rest) (hdg : decode cc pc = .ok (.invokespecial index, 3)) (hR : rm.frames + 1 ≤ R.frames ∧ 8 + (ny + 11) + rm.locals ≤ R.locals) (hcat : (rest.map fun v => v.category).sum ≤ 8) (hf : cells + rm.cells ≤ R.cells ∧ slots + rm.slots ≤ R.slots)
    (kk : ∀ (v : Option Value) (S' : HS) (H1 : Heap) (locs1 : List Loc), post v S' → Wd s0 D cy S' s.heap H1 locs1 → W p l e R s m args below meth c H1 locs1 (cells + rm.cells) (slots + rm.slots) Q (F0 m (pc + 3) ls (v.toList ++ rest))) : W p l e R s m args below meth c H locs cells slots Q (F0 m pc ls st) :=
  callG (va_runI (Ts := ALLW) (own := own) (As := As) (rest := rest) ⟨X.1, X.2.1, X.2.2.1, X.2.2.2.1, X.2.2.2.2.1⟩ hM ⟨callB_of nA X.2.2.2.2.1 (gIn hY) rfl rfl rfl (X.2.2.2.2.1 _ hI) (X.2.2.2.2.1 _ hL) (okY_of hd) hR, hy1, X.2.2.2.2.1 _ hIn⟩ ⟨blindG, preU X.2.2.2.2.2.2.2.2.1 w⟩ rfl hn hl.1 hst (lv_room hcat) hdg hf) X.2.2.2.2.2.2.2.2.1.2.1 w.2 kk
end Calls
end ROWS

