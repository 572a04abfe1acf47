/-! methods that throw -/
/-- where it has thrown: px tells the class and the state -/
def GX (s0 : State) (D : va_G) (cy : Nat → ClassId) (px : String → HS → Prop) : String → State → State → Prop := fun E st t => (∃ S', px E S' ∧ WP s0 D cy S' t.heap) ∧ va_F (A0 s0) st t
def CtX (s0 : State) (l : Launch) (D : va_G) (cy : Nat → ClassId) (y : MethodName) (cc : ByteArray) (n : Nat) (ret : Option FieldType) (rm : Room) (S : HS) (As : List Value) (post : Option Value → HS → Prop) (px : String → HS → Prop) : Prop :=
  vx_Met l y (Cond.code y cc n ret :: ALLW) rm (va_Pc As (fun U => Bs s0 U ∧ WP s0 D cy S U.heap)) (GQ s0 D cy post) (GX s0 D cy px) rm.cells rm.slots (A0 s0)
theorem proX {s0 : State} {l : Launch} {D : va_G} {cy : Nat → ClassId} {y : MethodName} {cc : ByteArray} {n : Nat} {ret : Option FieldType} {rm : Room} {S : HS} {As : List Value} {post : Option Value → HS → Prop} {px : String → HS → Prop} (own : String) (G : Gl s0 l D cy) (hy : plainName y.cls = true) (hown : y.cls = own) (hlen : (lg_sl As).length ≤ n)
    (body : ∀ (p : Program) (e : Env) (s : State) (m : MethodId) (below : List Frame) (meth : Method) (c : Code) (ls : Array Slot), Cx s0 l D cy p s m As.toArray meth c cc n own ret → Wd s0 D cy S s.heap s.heap [] → (∀ x ∈ c.exceptionTable.toList, False) → lv_has ls n (lv_args 0 As) →
      W p l e rm s m As.toArray below meth c s.heap [] 0 0 (vx_MQ below (GQ s0 D cy post) (GX s0 D cy px) As.toArray s rm.cells rm.slots (A0 s0)) (F0 m 0 ls [])) : CtX s0 l D cy y cc n ret rm S As post px := by
  refine vx_ofW (cc := cc) (maxL := n) (ret := ret) hy rfl ?_
  intro p e s m args below meth c s₁ B hml hno hv
  obtain ⟨rfl, hBs, hWP⟩ := hv
  have hl := lv_entry As (n := n) hlen
  rw [lg_entry_eq]
  generalize (lg_sl As ++ List.replicate (n - (lg_sl As).length) Slot.unset).toArray = ls at hl ⊢
  exact body p e s m below meth c ls ⟨B.exec, B.bytes, hml, by rw [← hown]; exact findClass_of_methodNamed B.named, fun w h => atoms_spec (ws := Cond.code y cc n ret :: ALLW) B.pre w (List.mem_cons_of_mem _ h), B.returns, B.notSynchronized, G.at hBs, hBs, G⟩ ⟨hWP, va_S.rf⟩ hno hl
theorem WP.ext {s0 : State} {D : va_G} {cy : Nat → ClassId} {S : HS} {H H1 : Heap} (h : WP s0 D cy S H) (hq : ∀ q : Nat, q < H.size → H1[q]? = H[q]?) : WP s0 D cy S H1 := by
  obtain ⟨⟨ws, hP, hD, hm⟩, inj⟩ := h
  exact ⟨⟨ws, hP.kept (fun k q hk => hq _ (vx_lt hP hk)), hD, hm⟩, inj⟩
theorem ZU {s0 : State} {l : Launch} {D : va_G} {cy : Nat → ClassId} (G : Gl s0 l D cy) : vx_Zq Bundle.tN "UNASSIGNED_STACK" Bundle.steD (A0 s0) s0 s0.heap := by
  obtain ⟨-, -, b, hts, hgv⟩ := G
  exact vx_Zqof (args := #[.ref b]) (hts _ (by decide +kernel)) (hts _ (by decide +kernel)) (flat_of_before _ hgv _ (by decide +kernel)) (fun a ha => Nat.not_le.mpr ha)
theorem ZN {s0 : State} {l : Launch} {D : va_G} {cy : Nat → ClassId} (G : Gl s0 l D cy) : vx_Zq Bundle.tN "SUPPRESSED_SENTINEL" Bundle.listD (A0 s0) s0 s0.heap := by
  obtain ⟨-, -, b, hts, hgv⟩ := G
  exact vx_Zqof (args := #[.ref b]) (hts _ (by decide +kernel)) (hts _ (by decide +kernel)) (flat_of_before _ hgv _ (by decide +kernel)) (fun a ha => Nat.not_le.mpr ha)
section THROW
variable {p : Program} {l : Launch} {e : Env} {R : Room} {s : State} {m : MethodId} {args : Array Value} {below : List Frame} {meth : Method} {c : Code} {H : Heap} {locs : List Loc} {cells slots : Nat} {Q : State → Prop} {cc : ByteArray} {pc nL : Nat} {ls : Array Slot} {rest : List Value} {s0 : State} {D : va_G} {cy : Nat → ClassId} {S S' : HS} {own : String} {ret : Option FieldType} {post : Option Value → HS → Prop} {px : String → HS → Prop} {mc ms : Nat}
theorem rXr {g : JFrame} (k : W p l e R s m args below meth c H locs cells slots (MQ below (GQ s0 D cy post) args s mc ms (A0 s0)) g) : W p l e R s m args below meth c H locs cells slots (vx_MQ below (GQ s0 D cy post) (GX s0 D cy px) args s mc ms (A0 s0)) g := vx_ret k
theorem atX (X : Cx s0 l D cy p s m args meth c cc nL own ret) {L : List Cond} (hat : ∀ w ∈ L, w ∈ ALLW ∨ w ∈ NSTW) : ∀ w ∈ L, w.before args s = true := fun w hw => (hat w hw).elim (X.2.2.2.2.1 w) (fun z => va_Nw.use (nst_tab (List.mem_filter.mp z).2) (X.2.2.2.2.2.2.2.2.1.2.2.2.1 w z))
theorem hxX (X : Cx s0 l D cy p s m args meth c cc nL own ret) (w : Wd s0 D cy S s.heap H locs) {E : String} (hpx : px E S) : ∀ t : State, s.vm.Alike t.vm → H.size ≤ t.heap.size → (∀ q : Nat, q < H.size → t.heap[q]? = H[q]?) → GX s0 D cy px E s t := fun t _ h1 h2 =>
  ⟨⟨S, hpx, w.1.ext h2⟩, ⟨Nat.le_trans w.2.1 h1, fun q hq hA => (h2 q (Nat.lt_of_lt_of_le hq w.2.1)).trans (w.2.2.1 q hq hA)⟩⟩
theorem rT {lv : List (Nat × Value)} {text cls : String} {names : List String} {ik is ic : Nat} (X : Cx s0 l D cy p s m args meth c cc nL own ret) (w : Wd s0 D cy S s.heap H locs) (hl : lv_has ls nL lv) (hno : ∀ x ∈ c.exceptionTable.toList, False) (hcls : Bundle.fit cls = true) (hnames : ∀ n ∈ names, Bundle.fit n = true) (hk : Cond.classLink own ik cls ∈ ALLW) (hini : Cond.initialized cls ∈ ALLW) (hstr : (own, is, text) ∈ STRL) (hat : ∀ w ∈ vx_atS own ic cls names, w ∈ ALLW ∨ w ∈ NSTW) (hgood : ∀ w ∈ vx_atS own ic cls names, vx_ot w = true) (hg2 : vx_ot (Cond.classLink own ik cls) = true ∧ vx_ot (Cond.initialized cls) = true)
    (d0 : decode cc pc = .ok (.new ik, 3)) (d3 : decode cc (pc + 3) = .ok (.dup, 1)) (d4 : decode cc (pc + 4) = .ok (.ldc is, 2)) (d6 : decode cc (pc + 6) = .ok (.invokespecial ic, 3)) (d9 : decode cc (pc + 9) = .ok (.athrow, 1))
    (hR1 : names.length + 3 < R.frames) (hR2 : (rest.map fun v => v.category).sum + (13 * (names.length + 1) + 43) ≤ R.locals) (hR3 : cells + 1 ≤ R.cells) (hR4 : slots + 6 ≤ R.slots) (hc : cells + 1 ≤ mc) (hs : slots + 6 ≤ ms) (hpx : px cls S) :
    W p l e R s m args below meth c H locs cells slots (vx_MQ below (GQ s0 D cy post) (GX s0 D cy px) args s mc ms (A0 s0)) (F0 m pc ls rest) :=
  vx_throwS X.1 X.2.1 X.2.2.2.2.2.2.2.2.2.2.1 X.2.2.2.1 hcls hnames (X.2.2.2.2.1 _ hk) (X.2.2.2.2.1 _ hini) (X.2.2.2.2.2.2.2.2.1.2.2.2.2 _ hstr) (atX X hat) (fun w hw => by
    rcases List.mem_cons.mp hw with rfl | hw
    · exact hg2.1
    · rcases List.mem_cons.mp hw with rfl | hw
      · exact hg2.2
      · exact hgood w hw) ((ZU X.2.2.2.2.2.2.2.2.2).moved X.2.2.2.2.2.2.2.2.1.1 |>.kept (Bs.same X.2.2.2.2.2.2.2.2.1)) ((ZN X.2.2.2.2.2.2.2.2.2).moved X.2.2.2.2.2.2.2.2.1.1 |>.kept (Bs.same X.2.2.2.2.2.2.2.2.1)) w.2 (hl.1.trans X.2.2.1.symm) d0 d3 d4 d6 d9 (fun x hx => (hno x hx).elim) hR1 hR2 hR3 hR4 X.2.2.2.2.2.2.1 (hxX X w hpx) w.2.2.2 hc hs
theorem rTW {lv : List (Nat × Value)} {text cls : String} {names : List String} {ik is ic : Nat} (X : Cx s0 l D cy p s m args meth c cc nL own ret) (w : Wd s0 D cy S s.heap H locs) (hl : lv_has ls nL lv) (hno : ∀ x ∈ c.exceptionTable.toList, False) (hcls : Bundle.fit cls = true) (hnames : ∀ n ∈ names, Bundle.fit n = true) (hk : Cond.classLink own ik cls ∈ ALLW) (hini : Cond.initialized cls ∈ ALLW) (hstr : (own, is, text) ∈ STRL) (hat : ∀ w ∈ vx_atS own ic cls names, w ∈ ALLW ∨ w ∈ NSTW) (hgood : ∀ w ∈ vx_atS own ic cls names, vx_ot w = true) (hg2 : vx_ot (Cond.classLink own ik cls) = true ∧ vx_ot (Cond.initialized cls) = true)
    (d0 : decode cc pc = .ok (.new ik, 3)) (d3 : decode cc (pc + 3) = .ok (.dup, 1)) (d4 : decode cc (pc + 4) = .ok (.ldc_w is, 3)) (d6 : decode cc (pc + 7) = .ok (.invokespecial ic, 3)) (d9 : decode cc (pc + 10) = .ok (.athrow, 1))
    (hR1 : names.length + 3 < R.frames) (hR2 : (rest.map fun v => v.category).sum + (13 * (names.length + 1) + 43) ≤ R.locals) (hR3 : cells + 1 ≤ R.cells) (hR4 : slots + 6 ≤ R.slots) (hc : cells + 1 ≤ mc) (hs : slots + 6 ≤ ms) (hpx : px cls S) :
    W p l e R s m args below meth c H locs cells slots (vx_MQ below (GQ s0 D cy post) (GX s0 D cy px) args s mc ms (A0 s0)) (F0 m pc ls rest) :=
  vx_throwSW X.1 X.2.1 X.2.2.2.2.2.2.2.2.2.2.1 X.2.2.2.1 hcls hnames (X.2.2.2.2.1 _ hk) (X.2.2.2.2.1 _ hini) (X.2.2.2.2.2.2.2.2.1.2.2.2.2 _ hstr) (atX X hat) (fun w hw => by
    rcases List.mem_cons.mp hw with rfl | hw
    · exact hg2.1
    · rcases List.mem_cons.mp hw with rfl | hw
      · exact hg2.2
      · exact hgood w hw) ((ZU X.2.2.2.2.2.2.2.2.2).moved X.2.2.2.2.2.2.2.2.1.1 |>.kept (Bs.same X.2.2.2.2.2.2.2.2.1)) ((ZN X.2.2.2.2.2.2.2.2.2).moved X.2.2.2.2.2.2.2.2.1.1 |>.kept (Bs.same X.2.2.2.2.2.2.2.2.1)) w.2 (hl.1.trans X.2.2.1.symm) d0 d3 d4 d6 d9 (fun x hx => (hno x hx).elim) hR1 hR2 hR3 hR4 X.2.2.2.2.2.2.1 (hxX X w hpx) w.2.2.2 hc hs
end THROW

theorem at_IAE : ∀ w ∈ vx_atS "CavershamShift" 56 "java/lang/IllegalArgumentException" ["java/lang/RuntimeException", "java/lang/Exception"], w ∈ ALLW ∨ w ∈ NSTW := by decide +kernel
theorem go_IAE : ∀ w ∈ vx_atS "CavershamShift" 56 "java/lang/IllegalArgumentException" ["java/lang/RuntimeException", "java/lang/Exception"], vx_ot w = true := by decide +kernel
theorem at_ISE : ∀ w ∈ vx_atS "CavershamShift" 76 "java/lang/IllegalStateException" ["java/lang/RuntimeException", "java/lang/Exception"], w ∈ ALLW ∨ w ∈ NSTW := by decide +kernel
theorem go_ISE : ∀ w ∈ vx_atS "CavershamShift" 76 "java/lang/IllegalStateException" ["java/lang/RuntimeException", "java/lang/Exception"], vx_ot w = true := by decide +kernel
theorem at_IOB : ∀ w ∈ vx_atS "CavershamShift" 94 "java/lang/IndexOutOfBoundsException" ["java/lang/RuntimeException", "java/lang/Exception"], w ∈ ALLW ∨ w ∈ NSTW := by decide +kernel
theorem go_IOB : ∀ w ∈ vx_atS "CavershamShift" 94 "java/lang/IndexOutOfBoundsException" ["java/lang/RuntimeException", "java/lang/Exception"], vx_ot w = true := by decide +kernel
set_option maxRecDepth 8000 in
theorem wS9_X10_54 : ("CavershamShift", 54, "band, power or far") ∈ STRL := str_in (wT3 185 rfl)
set_option maxRecDepth 8000 in
theorem wS9_X10_60 : ("CavershamShift", 60, "land, tongue or hours") ∈ STRL := str_in (wT3 213 rfl)
set_option maxRecDepth 8000 in
theorem wS9_X10_74 : ("CavershamShift", 74, "no more stations") ∈ STRL := str_in (wT3 223 rfl)
set_option maxRecDepth 8000 in
theorem wS9_X10_92 : ("CavershamShift", 92, "no such station") ∈ STRL := str_in (wT4 49 rfl)
set_option maxRecDepth 8000 in
theorem wS9_X10_95 : ("CavershamShift", 95, "band") ∈ STRL := str_in (wT4 56 rfl)
set_option maxRecDepth 8000 in
theorem wS9_X10_99 : ("CavershamShift", 99, "band or power") ∈ STRL := str_in (wT4 64 rfl)
set_option maxRecDepth 8000 in
theorem wS9_X10_104 : ("CavershamShift", 104, "no more jammers") ∈ STRL := str_in (wT4 65 rfl)
set_option maxRecDepth 8000 in
theorem wS9_X10_115 : ("CavershamShift", 115, "no such jammer") ∈ STRL := str_in (wT4 93 rfl)
set_option maxRecDepth 8000 in
theorem wS9_X10_117 : ("CavershamShift", 117, "power") ∈ STRL := str_in (wT4 94 rfl)
set_option maxRecDepth 8000 in
theorem wS9_X10_122 : ("CavershamShift", 122, "skills") ∈ STRL := str_in (wT4 103 rfl)
set_option maxRecDepth 8000 in
theorem wS9_X10_127 : ("CavershamShift", 127, "no more monitors") ∈ STRL := str_in (wT4 104 rfl)
set_option maxRecDepth 8000 in
theorem wS9_X10_132 : ("CavershamShift", 132, "hour or set") ∈ STRL := str_in (wT4 135 rfl)
set_option maxRecDepth 8000 in
theorem wS9_X10_138 : ("CavershamShift", 138, "no such monitor") ∈ STRL := str_in (wT4 137 rfl)
set_option maxRecDepth 8000 in
theorem wS9_X10_140 : ("CavershamShift", 140, "a station without a monitor, or a monitor without a station") ∈ STRL := str_in (wT4 138 rfl)
set_option maxRecDepth 8000 in
theorem wS9_X10_145 : ("CavershamShift", 145, "the monitor sits at another set") ∈ STRL := str_in (wT4 140 rfl)
set_option maxRecDepth 8000 in
theorem wS9_X10_155 : ("CavershamShift", 155, "hour or topic") ∈ STRL := str_in (wT4 156 rfl)
set_option maxRecDepth 8000 in
theorem wS9_X10_157 : ("CavershamShift", 157, "words or weight") ∈ STRL := str_in (wT4 157 rfl)
set_option maxRecDepth 8000 in
theorem wS9_X10_160 : ("CavershamShift", 160, "formulas") ∈ STRL := str_in (wT4 159 rfl)
set_option maxRecDepth 8000 in
theorem wS9_X10_165 : ("CavershamShift", 165, "no more talks") ∈ STRL := str_in (wT4 160 rfl)
set_option maxRecDepth 8000 in
theorem wS9_X10_175 : ("CavershamShift", 175, "the station is not on the air, or has a talk then") ∈ STRL := str_in (wT4 165 rfl)
set_option maxRecDepth 8000 in
theorem wS9_X10_186 : ("CavershamShift", 186, "no such talk") ∈ STRL := str_in (wT4 228 rfl)
set_option maxRecDepth 8000 in
theorem wS9_X10_191 : ("CavershamShift", 191, "there is a print of it") ∈ STRL := str_in (wT4 229 rfl)
set_option maxRecDepth 8000 in
theorem wS9_X10_205 : ("CavershamShift", 205, "lands or topics") ∈ STRL := str_in (wT4 239 rfl)
set_option maxRecDepth 8000 in
theorem wS9_X10_210 : ("CavershamShift", 210, "no more readers") ∈ STRL := str_in (wT5 0 rfl)
set_option maxRecDepth 8000 in
theorem wS9_X10_221 : ("CavershamShift", 221, "no such reader") ∈ STRL := str_in (wT5 32 rfl)
set_option maxRecDepth 8000 in
theorem wS9_X10_233 : ("CavershamShift", 233, "lands") ∈ STRL := str_in (wT5 44 rfl)
set_option maxRecDepth 8000 in
theorem wS9_X10_237 : ("CavershamShift", 237, "hours") ∈ STRL := str_in (wT5 52 rfl)
set_option maxRecDepth 8000 in
theorem wS9_X10_239 : ("CavershamShift", 239, "the last hour is behind that") ∈ STRL := str_in (wT5 53 rfl)
set_option maxRecDepth 8000 in
theorem wS9_X10_244 : ("CavershamShift", 244, "what") ∈ STRL := str_in (wT5 177 rfl)
set_option maxRecDepth 8000 in
theorem wS9_X10_250 : ("CavershamShift", 250, "no such station or hour") ∈ STRL := str_in (wT5 185 rfl)
set_option maxRecDepth 8000 in
theorem wS9_X10_262 : ("CavershamShift", 262, "no such monitor, station or hour") ∈ STRL := str_in (wT5 207 rfl)
set_option maxRecDepth 8000 in
theorem wS9_X10_275 : ("CavershamShift", 275, "no such reader or talk") ∈ STRL := str_in (wT5 230 rfl)
set_option maxRecDepth 8000 in
theorem wS9_X10_284 : ("CavershamShift", 284, "no such land or formula") ∈ STRL := str_in (wT6 5 rfl)
set_option maxRecDepth 8000 in
theorem wS9_X10_290 : ("CavershamShift", 290, "no such land") ∈ STRL := str_in (wT6 14 rfl)
set_option maxRecDepth 8000 in
theorem wS9_X10_298 : ("CavershamShift", 298, "no such topic") ∈ STRL := str_in (wT6 22 rfl)
set_option maxRecDepth 8000 in
theorem wS9_X10_321 : ("CavershamShift", 321, ": ") ∈ STRL := str_in (wT6 148 rfl)
set_option maxRecDepth 8000 in
theorem wS9_X10_331 : ("CavershamShift", 331, " at ") ∈ STRL := str_in (wT6 206 rfl)
set_option maxRecDepth 8000 in
theorem wS9_X10_334 : ("CavershamShift", 334, ", ") ∈ STRL := str_in (wT6 207 rfl)
set_option maxRecDepth 8000 in
theorem wS9_X10_336 : ("CavershamShift", 336, "to come") ∈ STRL := str_in (wT6 208 rfl)
set_option maxRecDepth 8000 in
theorem wS9_X10_338 : ("CavershamShift", 338, "missed") ∈ STRL := str_in (wT6 209 rfl)
set_option maxRecDepth 8000 in
theorem wS9_X10_533 : ("CavershamShift", 533, "flash") ∈ STRL := str_in (wT6 213 rfl)
set_option maxRecDepth 8000 in
theorem wS9_X10_535 : ("CavershamShift", 535, "text") ∈ STRL := str_in (wT6 214 rfl)
set_option maxRecDepth 8000 in
theorem wS9_X10_537 : ("CavershamShift", 537, "summary") ∈ STRL := str_in (wT6 215 rfl)
set_option maxRecDepth 8000 in
theorem wS9_X10_539 : ("CavershamShift", 539, "dropped") ∈ STRL := str_in (wT6 216 rfl)
set_option maxRecDepth 8000 in
theorem wS9_X10_541 : ("CavershamShift", 541, " sent") ∈ STRL := str_in (wT6 220 rfl)
set_option maxRecDepth 8000 in
theorem wS9_X10_543 : ("CavershamShift", 543, " stale") ∈ STRL := str_in (wT6 221 rfl)
set_option maxRecDepth 8000 in
theorem wS9_X10_545 : ("CavershamShift", 545, " given") ∈ STRL := str_in (wT6 222 rfl)
set_option maxRecDepth 8000 in
theorem wS9_X10_547 : ("CavershamShift", 547, "") ∈ STRL := str_in (wT6 223 rfl)
set_option maxRecDepth 8000 in
theorem wS9_J7_337 : ("java/util/Arrays", 337, " > ") ∈ STRL := str_in (wT7 24 rfl)
set_option maxRecDepth 8000 in
theorem wS9_X10_357 : ("CavershamShift", 357, "no such hour") ∈ STRL := str_in (wT7 59 rfl)
set_option maxRecDepth 8000 in
theorem wS9_X10_372 : ("CavershamShift", 372, "the talk is over") ∈ STRL := str_in (wT7 74 rfl)
set_option maxRecDepth 8000 in
theorem wS9_X16_313 : ("CavershamShiftModel", 313, "") ∈ STRL := str_in (wT9 104 rfl)
set_option maxRecDepth 8000 in
theorem wS9_X16_317 : ("CavershamShiftModel", 317, "dropped") ∈ STRL := str_in (wT9 107 rfl)
set_option maxRecDepth 8000 in
theorem wS9_X16_319 : ("CavershamShiftModel", 319, "summary") ∈ STRL := str_in (wT9 108 rfl)
set_option maxRecDepth 8000 in
theorem wS9_X16_321 : ("CavershamShiftModel", 321, "text") ∈ STRL := str_in (wT9 109 rfl)
set_option maxRecDepth 8000 in
theorem wS9_X16_323 : ("CavershamShiftModel", 323, "flash") ∈ STRL := str_in (wT9 110 rfl)
set_option maxRecDepth 8000 in
theorem wS9_X16_325 : ("CavershamShiftModel", 325, "missed") ∈ STRL := str_in (wT9 111 rfl)
set_option maxRecDepth 8000 in
theorem wS9_X16_327 : ("CavershamShiftModel", 327, "to come") ∈ STRL := str_in (wT9 112 rfl)
set_option maxRecDepth 8000 in
theorem wS9_X16_336 : ("CavershamShiftModel", 336, " sent") ∈ STRL := str_in (wT9 116 rfl)
set_option maxRecDepth 8000 in
theorem wS9_X16_338 : ("CavershamShiftModel", 338, " stale") ∈ STRL := str_in (wT9 117 rfl)
set_option maxRecDepth 8000 in
theorem wS9_X16_340 : ("CavershamShiftModel", 340, " given") ∈ STRL := str_in (wT9 118 rfl)
set_option maxRecDepth 8000 in
theorem wS9_X16_349 : ("CavershamShiftModel", 349, ": ") ∈ STRL := str_in (wT9 121 rfl)
set_option maxRecDepth 8000 in
theorem wS9_X16_351 : ("CavershamShiftModel", 351, " at ") ∈ STRL := str_in (wT9 122 rfl)
set_option maxRecDepth 8000 in
theorem wS9_X16_353 : ("CavershamShiftModel", 353, ", ") ∈ STRL := str_in (wT9 123 rfl)