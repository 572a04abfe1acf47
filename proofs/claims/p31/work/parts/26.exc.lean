/-! methods that throw -/
/-- where it has thrown: px tells the class and the state -/
def GX (s0 : State) (D : va_G) (cy : Nat → ClassId) (px : String → HS → Prop) : String → State → State → Prop := fun E st t => (∃ S', px E S' ∧ WP s0 D cy S' t.heap) ∧ va_F (A0 s0) st t
def CtX (s0 : State) (l : Launch) (D : va_G) (cy : Nat → ClassId) (y : MethodName) (cc : ByteArray) (n : Nat) (ret : Option FieldType) (rm : Room) (S : HS) (As : List Value) (post : Option Value → HS → Prop) (px : String → HS → Prop) : Prop :=
  vx_Met l y (Cond.code y cc n ret :: ALLW) rm (va_Pc As (fun U => Bs s0 U ∧ WP s0 D cy S U.heap)) (GQ s0 D cy post) (GX s0 D cy px) rm.cells rm.slots (A0 s0)
theorem proX {s0 : State} {l : Launch} {D : va_G} {cy : Nat → ClassId} {y : MethodName} {cc : ByteArray} {n : Nat} {ret : Option FieldType} {rm : Room} {S : HS} {As : List Value} {post : Option Value → HS → Prop} {px : String → HS → Prop} (own : String) (G : Gl s0 l D cy) (hy : plainName y.cls = true) (hown : y.cls = own) (hlen : (lg_sl As).length ≤ n)
    (body : ∀ (p : Program) (e : Env) (s : State) (m : MethodId) (below : List Frame) (meth : Method) (c : Code) (ls : Array Slot), Cx s0 l D cy p s m As.toArray meth c cc n own ret → Wd s0 D cy S s.heap s.heap [] → (∀ x ∈ c.exceptionTable.toList, False) → lv_has ls n (lv_args 0 As) →
      W p l e rm s m As.toArray below meth c s.heap [] 0 0 (vx_MQ below (GQ s0 D cy post) (GX s0 D cy px) As.toArray s rm.cells rm.slots (A0 s0)) (F0 m 0 ls [])) : CtX s0 l D cy y cc n ret rm S As post px := by
  refine vx_ofW (cc := cc) (maxL := n) (ret := ret) hy rfl ?_
  intro p e s m args below meth c s₁ B hml hno hv
  obtain ⟨rfl, hBs, hWP⟩ := hv
  have hl := lv_entry As (n := n) hlen
  rw [lg_entry_eq]
  generalize (lg_sl As ++ List.replicate (n - (lg_sl As).length) Slot.unset).toArray = ls at hl ⊢
  exact body p e s m below meth c ls ⟨B.exec, B.bytes, hml, by rw [← hown]; exact findClass_of_methodNamed B.named, fun w h => atoms_spec (ws := Cond.code y cc n ret :: ALLW) B.pre w (List.mem_cons_of_mem _ h), B.returns, B.notSynchronized, G.at hBs, hBs, G⟩ ⟨hWP, va_S.rf⟩ hno hl
theorem WP.ext {s0 : State} {D : va_G} {cy : Nat → ClassId} {S : HS} {H H1 : Heap} (h : WP s0 D cy S H) (hq : ∀ q : Nat, q < H.size → H1[q]? = H[q]?) : WP s0 D cy S H1 := by
  obtain ⟨⟨ws, hP, hD, hm⟩, inj⟩ := h
  exact ⟨⟨ws, hP.kept (fun k q hk => hq _ (vx_lt hP hk)), hD, hm⟩, inj⟩
theorem ZU {s0 : State} {l : Launch} {D : va_G} {cy : Nat → ClassId} (G : Gl s0 l D cy) : vx_Zq Bundle.tN "UNASSIGNED_STACK" Bundle.steD (A0 s0) s0 s0.heap := by
  obtain ⟨-, -, b, hts, hgv⟩ := G
  exact vx_Zqof (args := #[.ref b]) (hts _ (by decide +kernel)) (hts _ (by decide +kernel)) (flat_of_before _ hgv _ (by decide +kernel)) (fun a ha => Nat.not_le.mpr ha)
theorem ZN {s0 : State} {l : Launch} {D : va_G} {cy : Nat → ClassId} (G : Gl s0 l D cy) : vx_Zq Bundle.tN "SUPPRESSED_SENTINEL" Bundle.listD (A0 s0) s0 s0.heap := by
  obtain ⟨-, -, b, hts, hgv⟩ := G
  exact vx_Zqof (args := #[.ref b]) (hts _ (by decide +kernel)) (hts _ (by decide +kernel)) (flat_of_before _ hgv _ (by decide +kernel)) (fun a ha => Nat.not_le.mpr ha)
section THROW
variable {p : Program} {l : Launch} {e : Env} {R : Room} {s : State} {m : MethodId} {args : Array Value} {below : List Frame} {meth : Method} {c : Code} {H : Heap} {locs : List Loc} {cells slots : Nat} {Q : State → Prop} {cc : ByteArray} {pc nL : Nat} {ls : Array Slot} {rest : List Value} {s0 : State} {D : va_G} {cy : Nat → ClassId} {S S' : HS} {own : String} {ret : Option FieldType} {post : Option Value → HS → Prop} {px : String → HS → Prop} {mc ms : Nat}
theorem rXr {g : JFrame} (k : W p l e R s m args below meth c H locs cells slots (MQ below (GQ s0 D cy post) args s mc ms (A0 s0)) g) : W p l e R s m args below meth c H locs cells slots (vx_MQ below (GQ s0 D cy post) (GX s0 D cy px) args s mc ms (A0 s0)) g := vx_ret k
theorem atX (X : Cx s0 l D cy p s m args meth c cc nL own ret) {L : List Cond} (hat : ∀ w ∈ L, w ∈ ALLW ∨ w ∈ NSTW) : ∀ w ∈ L, w.before args s = true := fun w hw => (hat w hw).elim (X.2.2.2.2.1 w) (fun z => va_Nw.use (nst_tab (List.mem_filter.mp z).2) (X.2.2.2.2.2.2.2.2.1.2.2.2.1 w z))
theorem hxX (X : Cx s0 l D cy p s m args meth c cc nL own ret) (w : Wd s0 D cy S s.heap H locs) {E : String} (hpx : px E S) : ∀ t : State, s.vm.Alike t.vm → H.size ≤ t.heap.size → (∀ q : Nat, q < H.size → t.heap[q]? = H[q]?) → GX s0 D cy px E s t := fun t _ h1 h2 =>
  ⟨⟨S, hpx, w.1.ext h2⟩, ⟨Nat.le_trans w.2.1 h1, fun q hq hA => (h2 q (Nat.lt_of_lt_of_le hq w.2.1)).trans (w.2.2.1 q hq hA)⟩⟩
theorem rT {lv : List (Nat × Value)} {text cls : String} {names : List String} {ik is ic : Nat} (X : Cx s0 l D cy p s m args meth c cc nL own ret) (w : Wd s0 D cy S s.heap H locs) (hl : lv_has ls nL lv) (hno : ∀ x ∈ c.exceptionTable.toList, False) (hcls : Bundle.fit cls = true) (hnames : ∀ n ∈ names, Bundle.fit n = true) (hk : Cond.classLink own ik cls ∈ ALLW) (hini : Cond.initialized cls ∈ ALLW) (hstr : (own, is, text) ∈ STRL) (hat : ∀ w ∈ vx_atS own ic cls names, w ∈ ALLW ∨ w ∈ NSTW) (hgood : ∀ w ∈ vx_atS own ic cls names, vx_ot w = true) (hg2 : vx_ot (Cond.classLink own ik cls) = true ∧ vx_ot (Cond.initialized cls) = true)
    (d0 : decode cc pc = .ok (.new ik, 3)) (d3 : decode cc (pc + 3) = .ok (.dup, 1)) (d4 : decode cc (pc + 4) = .ok (.ldc is, 2)) (d6 : decode cc (pc + 6) = .ok (.invokespecial ic, 3)) (d9 : decode cc (pc + 9) = .ok (.athrow, 1))
    (hR1 : names.length + 3 < R.frames) (hR2 : (rest.map fun v => v.category).sum + (13 * (names.length + 1) + 43) ≤ R.locals) (hR3 : cells + 1 ≤ R.cells) (hR4 : slots + 6 ≤ R.slots) (hc : cells + 1 ≤ mc) (hs : slots + 6 ≤ ms) (hpx : px cls S) :
    W p l e R s m args below meth c H locs cells slots (vx_MQ below (GQ s0 D cy post) (GX s0 D cy px) args s mc ms (A0 s0)) (F0 m pc ls rest) :=
  vx_throwS X.1 X.2.1 X.2.2.2.2.2.2.2.2.2.2.1 X.2.2.2.1 hcls hnames (X.2.2.2.2.1 _ hk) (X.2.2.2.2.1 _ hini) (X.2.2.2.2.2.2.2.2.1.2.2.2.2 _ hstr) (atX X hat) (fun w hw => by
    rcases List.mem_cons.mp hw with rfl | hw
    · exact hg2.1
    · rcases List.mem_cons.mp hw with rfl | hw
      · exact hg2.2
      · exact hgood w hw) ((ZU X.2.2.2.2.2.2.2.2.2).moved X.2.2.2.2.2.2.2.2.1.1 |>.kept (Bs.same X.2.2.2.2.2.2.2.2.1)) ((ZN X.2.2.2.2.2.2.2.2.2).moved X.2.2.2.2.2.2.2.2.1.1 |>.kept (Bs.same X.2.2.2.2.2.2.2.2.1)) w.2 (hl.1.trans X.2.2.1.symm) d0 d3 d4 d6 d9 (fun x hx => (hno x hx).elim) hR1 hR2 hR3 hR4 X.2.2.2.2.2.2.1 (hxX X w hpx) w.2.2.2 hc hs
theorem rTW {lv : List (Nat × Value)} {text cls : String} {names : List String} {ik is ic : Nat} (X : Cx s0 l D cy p s m args meth c cc nL own ret) (w : Wd s0 D cy S s.heap H locs) (hl : lv_has ls nL lv) (hno : ∀ x ∈ c.exceptionTable.toList, False) (hcls : Bundle.fit cls = true) (hnames : ∀ n ∈ names, Bundle.fit n = true) (hk : Cond.classLink own ik cls ∈ ALLW) (hini : Cond.initialized cls ∈ ALLW) (hstr : (own, is, text) ∈ STRL) (hat : ∀ w ∈ vx_atS own ic cls names, w ∈ ALLW ∨ w ∈ NSTW) (hgood : ∀ w ∈ vx_atS own ic cls names, vx_ot w = true) (hg2 : vx_ot (Cond.classLink own ik cls) = true ∧ vx_ot (Cond.initialized cls) = true)
    (d0 : decode cc pc = .ok (.new ik, 3)) (d3 : decode cc (pc + 3) = .ok (.dup, 1)) (d4 : decode cc (pc + 4) = .ok (.ldc_w is, 3)) (d6 : decode cc (pc + 7) = .ok (.invokespecial ic, 3)) (d9 : decode cc (pc + 10) = .ok (.athrow, 1))
    (hR1 : names.length + 3 < R.frames) (hR2 : (rest.map fun v => v.category).sum + (13 * (names.length + 1) + 43) ≤ R.locals) (hR3 : cells + 1 ≤ R.cells) (hR4 : slots + 6 ≤ R.slots) (hc : cells + 1 ≤ mc) (hs : slots + 6 ≤ ms) (hpx : px cls S) :
    W p l e R s m args below meth c H locs cells slots (vx_MQ below (GQ s0 D cy post) (GX s0 D cy px) args s mc ms (A0 s0)) (F0 m pc ls rest) :=
  vx_throwSW X.1 X.2.1 X.2.2.2.2.2.2.2.2.2.2.1 X.2.2.2.1 hcls hnames (X.2.2.2.2.1 _ hk) (X.2.2.2.2.1 _ hini) (X.2.2.2.2.2.2.2.2.1.2.2.2.2 _ hstr) (atX X hat) (fun w hw => by
    rcases List.mem_cons.mp hw with rfl | hw
    · exact hg2.1
    · rcases List.mem_cons.mp hw with rfl | hw
      · exact hg2.2
      · exact hgood w hw) ((ZU X.2.2.2.2.2.2.2.2.2).moved X.2.2.2.2.2.2.2.2.1.1 |>.kept (Bs.same X.2.2.2.2.2.2.2.2.1)) ((ZN X.2.2.2.2.2.2.2.2.2).moved X.2.2.2.2.2.2.2.2.1.1 |>.kept (Bs.same X.2.2.2.2.2.2.2.2.1)) w.2 (hl.1.trans X.2.2.1.symm) d0 d3 d4 d6 d9 (fun x hx => (hno x hx).elim) hR1 hR2 hR3 hR4 X.2.2.2.2.2.2.1 (hxX X w hpx) w.2.2.2 hc hs
end THROW

def XTW_0 : List Cond := [(Jvm.Cond.initialized "java/lang/Throwable"), (Jvm.Cond.initialized "java/lang/Exception"), (Jvm.Cond.initialized "java/lang/RuntimeException"), (Jvm.Cond.initialized "java/lang/IllegalArgumentException"), (Jvm.Cond.initialized "java/lang/IllegalStateException"), (Jvm.Cond.initialized "java/lang/IndexOutOfBoundsException"), (Jvm.Cond.methodLink "CavershamShift" (3 : Nat) ({ cls := "java/lang/Object", name := "<init>", desc := "()V" } : Jvm.MethodName)), (Jvm.Cond.instanceMethod ({ cls := "java/lang/Object", name := "<init>", desc := "()V" } : Jvm.MethodName)), (Jvm.Cond.code ({ cls := "java/lang/Object", name := "<init>", desc := "()V" } : Jvm.MethodName) object_method_1_code (1 : Nat) (Option.none : Option Jvm.ClassFile.FieldType)), (Jvm.Cond.methodLink "CavershamShift$Dial" (1 : Nat) ({ cls := "java/lang/Object", name := "<init>", desc := "()V" } : Jvm.MethodName)), (Jvm.Cond.methodLink "java/util/AbstractCollection" (1 : Nat) ({ cls := "java/lang/Object", name := "<init>", desc := "()V" } : Jvm.MethodName)), (Jvm.Cond.methodLink "CavershamShift$Room" (3 : Nat) ({ cls := "java/lang/Object", name := "<init>", desc := "()V" } : Jvm.MethodName)), (Jvm.Cond.methodLink "CavershamShift$Newsroom" (3 : Nat) ({ cls := "java/lang/Object", name := "<init>", desc := "()V" } : Jvm.MethodName)), (Jvm.Cond.methodLink "CavershamShift$Matching" (3 : Nat) ({ cls := "java/lang/Object", name := "<init>", desc := "()V" } : Jvm.MethodName)), (Jvm.Cond.selects "java/lang/IllegalArgumentException" ({ cls := "java/lang/Object", name := "getClass", desc := "()Ljava/lang/Class;" } : Jvm.MethodName) ({ cls := "java/lang/Object", name := "getClass", desc := "()Ljava/lang/Class;" } : Jvm.MethodName)), (Jvm.Cond.selects "java/lang/IllegalStateException" ({ cls := "java/lang/Object", name := "getClass", desc := "()Ljava/lang/Class;" } : Jvm.MethodName) ({ cls := "java/lang/Object", name := "getClass", desc := "()Ljava/lang/Class;" } : Jvm.MethodName))]
set_option maxRecDepth 8000 in
theorem XTW_0_t : ∀ w ∈ XTW_0, w ∈ lw_tbl := List.forall_mem_cons.mpr ⟨wT1 12 rfl, List.forall_mem_cons.mpr ⟨wT1 13 rfl, List.forall_mem_cons.mpr ⟨wT1 14 rfl, List.forall_mem_cons.mpr ⟨wT1 15 rfl, List.forall_mem_cons.mpr ⟨wT1 16 rfl, List.forall_mem_cons.mpr ⟨wT1 24 rfl, List.forall_mem_cons.mpr ⟨wT1 46 rfl, List.forall_mem_cons.mpr ⟨wT1 47 rfl, List.forall_mem_cons.mpr ⟨wT1 48 rfl, List.forall_mem_cons.mpr ⟨wT1 54 rfl, List.forall_mem_cons.mpr ⟨wT1 66 rfl, List.forall_mem_cons.mpr ⟨wT1 96 rfl, List.forall_mem_cons.mpr ⟨wT1 122 rfl, List.forall_mem_cons.mpr ⟨wT1 158 rfl, List.forall_mem_cons.mpr ⟨wT2 76 rfl, List.forall_mem_cons.mpr ⟨wT2 77 rfl, fun w h => absurd h List.not_mem_nil⟩⟩⟩⟩⟩⟩⟩⟩⟩⟩⟩⟩⟩⟩⟩⟩
def XTW_1 : List Cond := [(Jvm.Cond.selects "java/lang/IndexOutOfBoundsException" ({ cls := "java/lang/Object", name := "getClass", desc := "()Ljava/lang/Class;" } : Jvm.MethodName) ({ cls := "java/lang/Object", name := "getClass", desc := "()Ljava/lang/Class;" } : Jvm.MethodName)), (Jvm.Cond.methodLink "CavershamShiftLaw$Out" (1 : Nat) ({ cls := "java/lang/Object", name := "<init>", desc := "()V" } : Jvm.MethodName)), (Jvm.Cond.classLink "CavershamShiftLaw" (19 : Nat) "java/lang/IllegalArgumentException"), (Jvm.Cond.classLink "CavershamShiftLaw" (21 : Nat) "java/lang/IllegalStateException"), (Jvm.Cond.classLink "CavershamShift" (52 : Nat) "java/lang/IllegalArgumentException"), (Jvm.Cond.instantiable "java/lang/IllegalArgumentException" (6 : Nat)), (Jvm.Cond.castable "java/lang/IllegalArgumentException" "java/lang/IllegalArgumentException"), (Jvm.Cond.declares ({ cls := "java/lang/RuntimeException", name := "<init>", desc := "()V" } : Jvm.MethodName)), (Jvm.Cond.declares ({ cls := "java/lang/RuntimeException", name := "<init>", desc := "(Ljava/lang/String;)V" } : Jvm.MethodName)), (Jvm.Cond.declares ({ cls := "java/lang/Exception", name := "<init>", desc := "()V" } : Jvm.MethodName)), (Jvm.Cond.declares ({ cls := "java/lang/Exception", name := "<init>", desc := "(Ljava/lang/String;)V" } : Jvm.MethodName)), (Jvm.Cond.declares ({ cls := "java/lang/Throwable", name := "<init>", desc := "()V" } : Jvm.MethodName)), (Jvm.Cond.declares ({ cls := "java/lang/Throwable", name := "<init>", desc := "(Ljava/lang/String;)V" } : Jvm.MethodName)), (Jvm.Cond.selects "java/lang/IllegalArgumentException" ({ cls := "java/lang/Throwable", name := "fillInStackTrace", desc := "(I)Ljava/lang/Throwable;" } : Jvm.MethodName) ({ cls := "java/lang/Throwable", name := "fillInStackTrace", desc := "(I)Ljava/lang/Throwable;" } : Jvm.MethodName)), (Jvm.Cond.selects "java/lang/IllegalArgumentException" ({ cls := "java/lang/Throwable", name := "fillInStackTrace", desc := "()Ljava/lang/Throwable;" } : Jvm.MethodName) ({ cls := "java/lang/Throwable", name := "fillInStackTrace", desc := "()Ljava/lang/Throwable;" } : Jvm.MethodName)), (Jvm.Cond.lays "java/lang/IllegalArgumentException" "java/lang/Throwable" "cause" "Ljava/lang/Throwable;")]
set_option maxRecDepth 8000 in
theorem XTW_1_t : ∀ w ∈ XTW_1, w ∈ lw_tbl := List.forall_mem_cons.mpr ⟨wT2 78 rfl, List.forall_mem_cons.mpr ⟨wT3 123 rfl, List.forall_mem_cons.mpr ⟨wT3 137 rfl, List.forall_mem_cons.mpr ⟨wT3 138 rfl, List.forall_mem_cons.mpr ⟨wT3 144 rfl, List.forall_mem_cons.mpr ⟨wT3 145 rfl, List.forall_mem_cons.mpr ⟨wT3 146 rfl, List.forall_mem_cons.mpr ⟨wT3 147 rfl, List.forall_mem_cons.mpr ⟨wT3 148 rfl, List.forall_mem_cons.mpr ⟨wT3 149 rfl, List.forall_mem_cons.mpr ⟨wT3 150 rfl, List.forall_mem_cons.mpr ⟨wT3 151 rfl, List.forall_mem_cons.mpr ⟨wT3 152 rfl, List.forall_mem_cons.mpr ⟨wT3 153 rfl, List.forall_mem_cons.mpr ⟨wT3 154 rfl, List.forall_mem_cons.mpr ⟨wT3 155 rfl, fun w h => absurd h List.not_mem_nil⟩⟩⟩⟩⟩⟩⟩⟩⟩⟩⟩⟩⟩⟩⟩⟩
def XTW_2 : List Cond := [(Jvm.Cond.lays "java/lang/Throwable" "java/lang/Throwable" "cause" "Ljava/lang/Throwable;"), (Jvm.Cond.lays "java/lang/IllegalArgumentException" "java/lang/Throwable" "stackTrace" "[Ljava/lang/StackTraceElement;"), (Jvm.Cond.lays "java/lang/Throwable" "java/lang/Throwable" "stackTrace" "[Ljava/lang/StackTraceElement;"), (Jvm.Cond.lays "java/lang/IllegalArgumentException" "java/lang/Throwable" "suppressedExceptions" "Ljava/util/List;"), (Jvm.Cond.lays "java/lang/Throwable" "java/lang/Throwable" "suppressedExceptions" "Ljava/util/List;"), (Jvm.Cond.lays "java/lang/IllegalArgumentException" "java/lang/Throwable" "detailMessage" "Ljava/lang/String;"), (Jvm.Cond.lays "java/lang/Throwable" "java/lang/Throwable" "detailMessage" "Ljava/lang/String;"), (Jvm.Cond.lays "java/lang/IllegalArgumentException" "java/lang/Throwable" "backtrace" "Ljava/lang/Object;"), (Jvm.Cond.lays "java/lang/Throwable" "java/lang/Throwable" "backtrace" "Ljava/lang/Object;"), (Jvm.Cond.fieldLink "java/lang/Throwable" (198 : Nat) "java/lang/Throwable" "backtrace" "Ljava/lang/Object;"), (Jvm.Cond.superclass "java/lang/Throwable" "java/lang/Object"), (Jvm.Cond.instanceMethod ({ cls := "java/lang/Throwable", name := "<init>", desc := "()V" } : Jvm.MethodName)), (Jvm.Cond.code ({ cls := "java/lang/Throwable", name := "<init>", desc := "()V" } : Jvm.MethodName) prog_40_method_1_code (1 : Nat) (Option.none : Option Jvm.ClassFile.FieldType)), (Jvm.Cond.methodLink "java/lang/Throwable" (1 : Nat) ({ cls := "java/lang/Object", name := "<init>", desc := "()V" } : Jvm.MethodName)), (Jvm.Cond.fieldLink "java/lang/Throwable" (13 : Nat) "java/lang/Throwable" "UNASSIGNED_STACK" "[Ljava/lang/StackTraceElement;"), (Jvm.Cond.laysStatic "java/lang/Throwable" "UNASSIGNED_STACK" "[Ljava/lang/StackTraceElement;")]
set_option maxRecDepth 8000 in
theorem XTW_2_t : ∀ w ∈ XTW_2, w ∈ lw_tbl := List.forall_mem_cons.mpr ⟨wT3 156 rfl, List.forall_mem_cons.mpr ⟨wT3 157 rfl, List.forall_mem_cons.mpr ⟨wT3 158 rfl, List.forall_mem_cons.mpr ⟨wT3 159 rfl, List.forall_mem_cons.mpr ⟨wT3 160 rfl, List.forall_mem_cons.mpr ⟨wT3 161 rfl, List.forall_mem_cons.mpr ⟨wT3 162 rfl, List.forall_mem_cons.mpr ⟨wT3 163 rfl, List.forall_mem_cons.mpr ⟨wT3 164 rfl, List.forall_mem_cons.mpr ⟨wT3 165 rfl, List.forall_mem_cons.mpr ⟨wT3 166 rfl, List.forall_mem_cons.mpr ⟨wT3 167 rfl, List.forall_mem_cons.mpr ⟨wT3 168 rfl, List.forall_mem_cons.mpr ⟨wT3 169 rfl, List.forall_mem_cons.mpr ⟨wT3 170 rfl, List.forall_mem_cons.mpr ⟨wT3 171 rfl, fun w h => absurd h List.not_mem_nil⟩⟩⟩⟩⟩⟩⟩⟩⟩⟩⟩⟩⟩⟩⟩⟩
def XTW_3 : List Cond := [(Jvm.Cond.fieldLink "java/lang/Throwable" (20 : Nat) "java/lang/Throwable" "SUPPRESSED_SENTINEL" "Ljava/util/List;"), (Jvm.Cond.laysStatic "java/lang/Throwable" "SUPPRESSED_SENTINEL" "Ljava/util/List;"), (Jvm.Cond.methodLink "java/lang/Throwable" (27 : Nat) ({ cls := "java/lang/Throwable", name := "fillInStackTrace", desc := "()Ljava/lang/Throwable;" } : Jvm.MethodName)), (Jvm.Cond.instanceMethod ({ cls := "java/lang/Throwable", name := "fillInStackTrace", desc := "()Ljava/lang/Throwable;" } : Jvm.MethodName)), (Jvm.Cond.sameMethod "java/lang/Throwable" "java/lang/Throwable" "fillInStackTrace" "()Ljava/lang/Throwable;"), (Jvm.Cond.selects "java/lang/IllegalStateException" ({ cls := "java/lang/Throwable", name := "fillInStackTrace", desc := "()Ljava/lang/Throwable;" } : Jvm.MethodName) ({ cls := "java/lang/Throwable", name := "fillInStackTrace", desc := "()Ljava/lang/Throwable;" } : Jvm.MethodName)), (Jvm.Cond.selects "java/lang/IndexOutOfBoundsException" ({ cls := "java/lang/Throwable", name := "fillInStackTrace", desc := "()Ljava/lang/Throwable;" } : Jvm.MethodName) ({ cls := "java/lang/Throwable", name := "fillInStackTrace", desc := "()Ljava/lang/Throwable;" } : Jvm.MethodName)), (Jvm.Cond.codeSync ({ cls := "java/lang/Throwable", name := "fillInStackTrace", desc := "()Ljava/lang/Throwable;" } : Jvm.MethodName) prog_40_method_18_code (1 : Nat) (Option.some (Jvm.ClassFile.FieldType.object "java/lang/Throwable"))), (Jvm.Cond.methodLink "java/lang/Throwable" (202 : Nat) ({ cls := "java/lang/Throwable", name := "fillInStackTrace", desc := "(I)Ljava/lang/Throwable;" } : Jvm.MethodName)), (Jvm.Cond.privateMethod ({ cls := "java/lang/Throwable", name := "fillInStackTrace", desc := "(I)Ljava/lang/Throwable;" } : Jvm.MethodName)), (Jvm.Cond.instanceMethod ({ cls := "java/lang/Throwable", name := "fillInStackTrace", desc := "(I)Ljava/lang/Throwable;" } : Jvm.MethodName)), (Jvm.Cond.instantiable "java/lang/Throwable" (6 : Nat)), (Jvm.Cond.native ({ cls := "java/lang/Throwable", name := "fillInStackTrace", desc := "(I)Ljava/lang/Throwable;" } : Jvm.MethodName)), (Jvm.Cond.methodLink "CavershamShift" (56 : Nat) ({ cls := "java/lang/IllegalArgumentException", name := "<init>", desc := "(Ljava/lang/String;)V" } : Jvm.MethodName)), (Jvm.Cond.instanceMethod ({ cls := "java/lang/IllegalArgumentException", name := "<init>", desc := "(Ljava/lang/String;)V" } : Jvm.MethodName)), (Jvm.Cond.code ({ cls := "java/lang/IllegalArgumentException", name := "<init>", desc := "(Ljava/lang/String;)V" } : Jvm.MethodName) prog_26_method_2_code (2 : Nat) (Option.none : Option Jvm.ClassFile.FieldType))]
set_option maxRecDepth 8000 in
theorem XTW_3_t : ∀ w ∈ XTW_3, w ∈ lw_tbl := List.forall_mem_cons.mpr ⟨wT3 172 rfl, List.forall_mem_cons.mpr ⟨wT3 173 rfl, List.forall_mem_cons.mpr ⟨wT3 174 rfl, List.forall_mem_cons.mpr ⟨wT3 175 rfl, List.forall_mem_cons.mpr ⟨wT3 176 rfl, List.forall_mem_cons.mpr ⟨wT3 177 rfl, List.forall_mem_cons.mpr ⟨wT3 178 rfl, List.forall_mem_cons.mpr ⟨wT3 179 rfl, List.forall_mem_cons.mpr ⟨wT3 180 rfl, List.forall_mem_cons.mpr ⟨wT3 181 rfl, List.forall_mem_cons.mpr ⟨wT3 182 rfl, List.forall_mem_cons.mpr ⟨wT3 183 rfl, List.forall_mem_cons.mpr ⟨wT3 184 rfl, List.forall_mem_cons.mpr ⟨wT3 186 rfl, List.forall_mem_cons.mpr ⟨wT3 187 rfl, List.forall_mem_cons.mpr ⟨wT3 188 rfl, fun w h => absurd h List.not_mem_nil⟩⟩⟩⟩⟩⟩⟩⟩⟩⟩⟩⟩⟩⟩⟩⟩
def XTW_4 : List Cond := [(Jvm.Cond.methodLink "java/lang/IllegalArgumentException" (7 : Nat) ({ cls := "java/lang/RuntimeException", name := "<init>", desc := "(Ljava/lang/String;)V" } : Jvm.MethodName)), (Jvm.Cond.instanceMethod ({ cls := "java/lang/RuntimeException", name := "<init>", desc := "(Ljava/lang/String;)V" } : Jvm.MethodName)), (Jvm.Cond.code ({ cls := "java/lang/RuntimeException", name := "<init>", desc := "(Ljava/lang/String;)V" } : Jvm.MethodName) prog_34_method_2_code (2 : Nat) (Option.none : Option Jvm.ClassFile.FieldType)), (Jvm.Cond.methodLink "java/lang/RuntimeException" (7 : Nat) ({ cls := "java/lang/Exception", name := "<init>", desc := "(Ljava/lang/String;)V" } : Jvm.MethodName)), (Jvm.Cond.instanceMethod ({ cls := "java/lang/Exception", name := "<init>", desc := "(Ljava/lang/String;)V" } : Jvm.MethodName)), (Jvm.Cond.code ({ cls := "java/lang/Exception", name := "<init>", desc := "(Ljava/lang/String;)V" } : Jvm.MethodName) prog_25_method_2_code (2 : Nat) (Option.none : Option Jvm.ClassFile.FieldType)), (Jvm.Cond.methodLink "java/lang/Exception" (7 : Nat) ({ cls := "java/lang/Throwable", name := "<init>", desc := "(Ljava/lang/String;)V" } : Jvm.MethodName)), (Jvm.Cond.instanceMethod ({ cls := "java/lang/Throwable", name := "<init>", desc := "(Ljava/lang/String;)V" } : Jvm.MethodName)), (Jvm.Cond.code ({ cls := "java/lang/Throwable", name := "<init>", desc := "(Ljava/lang/String;)V" } : Jvm.MethodName) prog_40_method_2_code (2 : Nat) (Option.none : Option Jvm.ClassFile.FieldType)), (Jvm.Cond.fieldLink "java/lang/Throwable" (198 : Nat) "java/lang/Throwable" "backtrace" "Ljava/lang/Object;"), (Jvm.Cond.fieldLink "java/lang/Throwable" (31 : Nat) "java/lang/Throwable" "detailMessage" "Ljava/lang/String;"), (Jvm.Cond.fieldLink "java/lang/Throwable" (7 : Nat) "java/lang/Throwable" "cause" "Ljava/lang/Throwable;"), (Jvm.Cond.fieldLink "java/lang/Throwable" (17 : Nat) "java/lang/Throwable" "stackTrace" "[Ljava/lang/StackTraceElement;"), (Jvm.Cond.fieldLink "java/lang/Throwable" (24 : Nat) "java/lang/Throwable" "suppressedExceptions" "Ljava/util/List;"), (Jvm.Cond.soleField "java/lang/Throwable" "backtrace"), (Jvm.Cond.soleField "java/lang/Throwable" "detailMessage")]
set_option maxRecDepth 8000 in
theorem XTW_4_t : ∀ w ∈ XTW_4, w ∈ lw_tbl := List.forall_mem_cons.mpr ⟨wT3 189 rfl, List.forall_mem_cons.mpr ⟨wT3 190 rfl, List.forall_mem_cons.mpr ⟨wT3 191 rfl, List.forall_mem_cons.mpr ⟨wT3 192 rfl, List.forall_mem_cons.mpr ⟨wT3 193 rfl, List.forall_mem_cons.mpr ⟨wT3 194 rfl, List.forall_mem_cons.mpr ⟨wT3 195 rfl, List.forall_mem_cons.mpr ⟨wT3 196 rfl, List.forall_mem_cons.mpr ⟨wT3 197 rfl, List.forall_mem_cons.mpr ⟨wT3 198 rfl, List.forall_mem_cons.mpr ⟨wT3 199 rfl, List.forall_mem_cons.mpr ⟨wT3 200 rfl, List.forall_mem_cons.mpr ⟨wT3 201 rfl, List.forall_mem_cons.mpr ⟨wT3 202 rfl, List.forall_mem_cons.mpr ⟨wT3 203 rfl, List.forall_mem_cons.mpr ⟨wT3 204 rfl, fun w h => absurd h List.not_mem_nil⟩⟩⟩⟩⟩⟩⟩⟩⟩⟩⟩⟩⟩⟩⟩⟩
def XTW_5 : List Cond := [(Jvm.Cond.soleField "java/lang/Throwable" "cause"), (Jvm.Cond.soleField "java/lang/Throwable" "stackTrace"), (Jvm.Cond.lays "java/lang/IllegalArgumentException" "java/lang/Throwable" "depth" "I"), (Jvm.Cond.soleField "java/lang/Throwable" "depth"), (Jvm.Cond.soleField "java/lang/Throwable" "suppressedExceptions"), (Jvm.Cond.superclass "java/lang/IllegalArgumentException" "java/lang/RuntimeException"), (Jvm.Cond.classLink "CavershamShift" (72 : Nat) "java/lang/IllegalStateException"), (Jvm.Cond.instantiable "java/lang/IllegalStateException" (6 : Nat)), (Jvm.Cond.castable "java/lang/IllegalStateException" "java/lang/IllegalStateException"), (Jvm.Cond.selects "java/lang/IllegalStateException" ({ cls := "java/lang/Throwable", name := "fillInStackTrace", desc := "(I)Ljava/lang/Throwable;" } : Jvm.MethodName) ({ cls := "java/lang/Throwable", name := "fillInStackTrace", desc := "(I)Ljava/lang/Throwable;" } : Jvm.MethodName)), (Jvm.Cond.lays "java/lang/IllegalStateException" "java/lang/Throwable" "cause" "Ljava/lang/Throwable;"), (Jvm.Cond.lays "java/lang/IllegalStateException" "java/lang/Throwable" "stackTrace" "[Ljava/lang/StackTraceElement;"), (Jvm.Cond.lays "java/lang/IllegalStateException" "java/lang/Throwable" "suppressedExceptions" "Ljava/util/List;"), (Jvm.Cond.lays "java/lang/IllegalStateException" "java/lang/Throwable" "detailMessage" "Ljava/lang/String;"), (Jvm.Cond.lays "java/lang/IllegalStateException" "java/lang/Throwable" "backtrace" "Ljava/lang/Object;"), (Jvm.Cond.methodLink "CavershamShift" (76 : Nat) ({ cls := "java/lang/IllegalStateException", name := "<init>", desc := "(Ljava/lang/String;)V" } : Jvm.MethodName))]
set_option maxRecDepth 8000 in
theorem XTW_5_t : ∀ w ∈ XTW_5, w ∈ lw_tbl := List.forall_mem_cons.mpr ⟨wT3 205 rfl, List.forall_mem_cons.mpr ⟨wT3 206 rfl, List.forall_mem_cons.mpr ⟨wT3 207 rfl, List.forall_mem_cons.mpr ⟨wT3 208 rfl, List.forall_mem_cons.mpr ⟨wT3 209 rfl, List.forall_mem_cons.mpr ⟨wT3 210 rfl, List.forall_mem_cons.mpr ⟨wT3 214 rfl, List.forall_mem_cons.mpr ⟨wT3 215 rfl, List.forall_mem_cons.mpr ⟨wT3 216 rfl, List.forall_mem_cons.mpr ⟨wT3 217 rfl, List.forall_mem_cons.mpr ⟨wT3 218 rfl, List.forall_mem_cons.mpr ⟨wT3 219 rfl, List.forall_mem_cons.mpr ⟨wT3 220 rfl, List.forall_mem_cons.mpr ⟨wT3 221 rfl, List.forall_mem_cons.mpr ⟨wT3 222 rfl, List.forall_mem_cons.mpr ⟨wT3 224 rfl, fun w h => absurd h List.not_mem_nil⟩⟩⟩⟩⟩⟩⟩⟩⟩⟩⟩⟩⟩⟩⟩⟩
def XTW_6 : List Cond := [(Jvm.Cond.instanceMethod ({ cls := "java/lang/IllegalStateException", name := "<init>", desc := "(Ljava/lang/String;)V" } : Jvm.MethodName)), (Jvm.Cond.code ({ cls := "java/lang/IllegalStateException", name := "<init>", desc := "(Ljava/lang/String;)V" } : Jvm.MethodName) prog_27_method_2_code (2 : Nat) (Option.none : Option Jvm.ClassFile.FieldType)), (Jvm.Cond.methodLink "java/lang/IllegalStateException" (7 : Nat) ({ cls := "java/lang/RuntimeException", name := "<init>", desc := "(Ljava/lang/String;)V" } : Jvm.MethodName)), (Jvm.Cond.lays "java/lang/IllegalStateException" "java/lang/Throwable" "depth" "I"), (Jvm.Cond.superclass "java/lang/IllegalStateException" "java/lang/RuntimeException"), (Jvm.Cond.methodLink "CavershamShift$Station" (1 : Nat) ({ cls := "java/lang/Object", name := "<init>", desc := "()V" } : Jvm.MethodName)), (Jvm.Cond.classLink "CavershamShiftLaw" (27 : Nat) "java/lang/IndexOutOfBoundsException"), (Jvm.Cond.classLink "CavershamShift" (90 : Nat) "java/lang/IndexOutOfBoundsException"), (Jvm.Cond.instantiable "java/lang/IndexOutOfBoundsException" (6 : Nat)), (Jvm.Cond.castable "java/lang/IndexOutOfBoundsException" "java/lang/IndexOutOfBoundsException"), (Jvm.Cond.selects "java/lang/IndexOutOfBoundsException" ({ cls := "java/lang/Throwable", name := "fillInStackTrace", desc := "(I)Ljava/lang/Throwable;" } : Jvm.MethodName) ({ cls := "java/lang/Throwable", name := "fillInStackTrace", desc := "(I)Ljava/lang/Throwable;" } : Jvm.MethodName)), (Jvm.Cond.lays "java/lang/IndexOutOfBoundsException" "java/lang/Throwable" "cause" "Ljava/lang/Throwable;"), (Jvm.Cond.lays "java/lang/IndexOutOfBoundsException" "java/lang/Throwable" "stackTrace" "[Ljava/lang/StackTraceElement;"), (Jvm.Cond.lays "java/lang/IndexOutOfBoundsException" "java/lang/Throwable" "suppressedExceptions" "Ljava/util/List;"), (Jvm.Cond.lays "java/lang/IndexOutOfBoundsException" "java/lang/Throwable" "detailMessage" "Ljava/lang/String;"), (Jvm.Cond.lays "java/lang/IndexOutOfBoundsException" "java/lang/Throwable" "backtrace" "Ljava/lang/Object;")]
set_option maxRecDepth 8000 in
theorem XTW_6_t : ∀ w ∈ XTW_6, w ∈ lw_tbl := List.forall_mem_cons.mpr ⟨wT3 225 rfl, List.forall_mem_cons.mpr ⟨wT3 226 rfl, List.forall_mem_cons.mpr ⟨wT3 227 rfl, List.forall_mem_cons.mpr ⟨wT3 228 rfl, List.forall_mem_cons.mpr ⟨wT3 229 rfl, List.forall_mem_cons.mpr ⟨wT3 234 rfl, List.forall_mem_cons.mpr ⟨wT4 34 rfl, List.forall_mem_cons.mpr ⟨wT4 40 rfl, List.forall_mem_cons.mpr ⟨wT4 41 rfl, List.forall_mem_cons.mpr ⟨wT4 42 rfl, List.forall_mem_cons.mpr ⟨wT4 43 rfl, List.forall_mem_cons.mpr ⟨wT4 44 rfl, List.forall_mem_cons.mpr ⟨wT4 45 rfl, List.forall_mem_cons.mpr ⟨wT4 46 rfl, List.forall_mem_cons.mpr ⟨wT4 47 rfl, List.forall_mem_cons.mpr ⟨wT4 48 rfl, fun w h => absurd h List.not_mem_nil⟩⟩⟩⟩⟩⟩⟩⟩⟩⟩⟩⟩⟩⟩⟩⟩
def XTW_7 : List Cond := [(Jvm.Cond.methodLink "CavershamShift" (94 : Nat) ({ cls := "java/lang/IndexOutOfBoundsException", name := "<init>", desc := "(Ljava/lang/String;)V" } : Jvm.MethodName)), (Jvm.Cond.instanceMethod ({ cls := "java/lang/IndexOutOfBoundsException", name := "<init>", desc := "(Ljava/lang/String;)V" } : Jvm.MethodName)), (Jvm.Cond.code ({ cls := "java/lang/IndexOutOfBoundsException", name := "<init>", desc := "(Ljava/lang/String;)V" } : Jvm.MethodName) prog_28_method_2_code (2 : Nat) (Option.none : Option Jvm.ClassFile.FieldType)), (Jvm.Cond.methodLink "java/lang/IndexOutOfBoundsException" (7 : Nat) ({ cls := "java/lang/RuntimeException", name := "<init>", desc := "(Ljava/lang/String;)V" } : Jvm.MethodName)), (Jvm.Cond.lays "java/lang/IndexOutOfBoundsException" "java/lang/Throwable" "depth" "I"), (Jvm.Cond.superclass "java/lang/IndexOutOfBoundsException" "java/lang/RuntimeException"), (Jvm.Cond.methodLink "CavershamShift$Jammer" (1 : Nat) ({ cls := "java/lang/Object", name := "<init>", desc := "()V" } : Jvm.MethodName)), (Jvm.Cond.methodLink "CavershamShift$Monitor" (1 : Nat) ({ cls := "java/lang/Object", name := "<init>", desc := "()V" } : Jvm.MethodName)), (Jvm.Cond.methodLink "CavershamShift$Talk" (3 : Nat) ({ cls := "java/lang/Object", name := "<init>", desc := "()V" } : Jvm.MethodName)), (Jvm.Cond.methodLink "CavershamShift$Reader" (1 : Nat) ({ cls := "java/lang/Object", name := "<init>", desc := "()V" } : Jvm.MethodName)), (Jvm.Cond.methodLink "CavershamShift$Report" (3 : Nat) ({ cls := "java/lang/Object", name := "<init>", desc := "()V" } : Jvm.MethodName)), (Jvm.Cond.methodLink "java/lang/AbstractStringBuilder" (3 : Nat) ({ cls := "java/lang/Object", name := "<init>", desc := "()V" } : Jvm.MethodName)), (Jvm.Cond.methodLink "java/lang/String" (1 : Nat) ({ cls := "java/lang/Object", name := "<init>", desc := "()V" } : Jvm.MethodName)), (Jvm.Cond.classLink "java/util/Arrays" (43 : Nat) "java/lang/IllegalArgumentException"), (Jvm.Cond.methodLink "java/util/Arrays" (65 : Nat) ({ cls := "java/lang/IllegalArgumentException", name := "<init>", desc := "(Ljava/lang/String;)V" } : Jvm.MethodName)), (Jvm.Cond.methodLink "CavershamShiftModel" (1 : Nat) ({ cls := "java/lang/Object", name := "<init>", desc := "()V" } : Jvm.MethodName))]
set_option maxRecDepth 8000 in
theorem XTW_7_t : ∀ w ∈ XTW_7, w ∈ lw_tbl := List.forall_mem_cons.mpr ⟨wT4 50 rfl, List.forall_mem_cons.mpr ⟨wT4 51 rfl, List.forall_mem_cons.mpr ⟨wT4 52 rfl, List.forall_mem_cons.mpr ⟨wT4 53 rfl, List.forall_mem_cons.mpr ⟨wT4 54 rfl, List.forall_mem_cons.mpr ⟨wT4 55 rfl, List.forall_mem_cons.mpr ⟨wT4 71 rfl, List.forall_mem_cons.mpr ⟨wT4 109 rfl, List.forall_mem_cons.mpr ⟨wT4 170 rfl, List.forall_mem_cons.mpr ⟨wT5 5 rfl, List.forall_mem_cons.mpr ⟨wT5 77 rfl, List.forall_mem_cons.mpr ⟨wT6 52 rfl, List.forall_mem_cons.mpr ⟨wT6 236 rfl, List.forall_mem_cons.mpr ⟨wT7 20 rfl, List.forall_mem_cons.mpr ⟨wT7 27 rfl, List.forall_mem_cons.mpr ⟨wT7 80 rfl, fun w h => absurd h List.not_mem_nil⟩⟩⟩⟩⟩⟩⟩⟩⟩⟩⟩⟩⟩⟩⟩⟩
def XTW_8 : List Cond := [(Jvm.Cond.methodLink "CavershamShiftModel$Station" (1 : Nat) ({ cls := "java/lang/Object", name := "<init>", desc := "()V" } : Jvm.MethodName)), (Jvm.Cond.methodLink "CavershamShiftModel$Monitor" (1 : Nat) ({ cls := "java/lang/Object", name := "<init>", desc := "()V" } : Jvm.MethodName)), (Jvm.Cond.methodLink "CavershamShiftModel$Talk" (3 : Nat) ({ cls := "java/lang/Object", name := "<init>", desc := "()V" } : Jvm.MethodName)), (Jvm.Cond.methodLink "java/lang/Number" (1 : Nat) ({ cls := "java/lang/Object", name := "<init>", desc := "()V" } : Jvm.MethodName)), (Jvm.Cond.methodLink "CavershamShiftModel$Reader" (1 : Nat) ({ cls := "java/lang/Object", name := "<init>", desc := "()V" } : Jvm.MethodName)), (Jvm.Cond.sameMethod "java/lang/Throwable" "java/lang/Throwable" "fillInStackTrace" "(I)Ljava/lang/Throwable;"), (Jvm.Cond.castable "java/lang/IllegalArgumentException" "java/lang/Object"), (Jvm.Cond.castable "java/lang/IllegalStateException" "java/lang/Object"), (Jvm.Cond.castable "java/lang/IndexOutOfBoundsException" "java/lang/Object"), (Jvm.Cond.castable "java/lang/Throwable" "java/lang/Object")]
set_option maxRecDepth 8000 in
theorem XTW_8_t : ∀ w ∈ XTW_8, w ∈ lw_tbl := List.forall_mem_cons.mpr ⟨wT7 157 rfl, List.forall_mem_cons.mpr ⟨wT7 224 rfl, List.forall_mem_cons.mpr ⟨wT8 28 rfl, List.forall_mem_cons.mpr ⟨wT8 127 rfl, List.forall_mem_cons.mpr ⟨wT8 146 rfl, List.forall_mem_cons.mpr ⟨wT9 170 rfl, List.forall_mem_cons.mpr ⟨wT9 189 rfl, List.forall_mem_cons.mpr ⟨wT9 190 rfl, List.forall_mem_cons.mpr ⟨wT9 193 rfl, List.forall_mem_cons.mpr ⟨wT9 203 rfl, fun w h => absurd h List.not_mem_nil⟩⟩⟩⟩⟩⟩⟩⟩⟩⟩
def XTW : List Cond := XTW_0 ++ XTW_1 ++ XTW_2 ++ XTW_3 ++ XTW_4 ++ XTW_5 ++ XTW_6 ++ XTW_7 ++ XTW_8
theorem XTW_t : ∀ w ∈ XTW, w ∈ lw_tbl := fun w h => by
  simp only [XTW, List.mem_append] at h
  rcases h with (((((((h | h) | h) | h) | h) | h) | h) | h) | h
  · exact XTW_0_t w h
  · exact XTW_1_t w h
  · exact XTW_2_t w h
  · exact XTW_3_t w h
  · exact XTW_4_t w h
  · exact XTW_5_t w h
  · exact XTW_6_t w h
  · exact XTW_7_t w h
  · exact XTW_8_t w h
theorem at_of {L : List Cond} (h1 : ∀ w ∈ L, w ∈ XTW) (h2 : ∀ w ∈ L, (goodWord w || isNst w) = true) : ∀ w ∈ L, w ∈ ALLW ∨ w ∈ NSTW := fun w hw => (Bool.or_eq_true_iff.mp (h2 w hw)).imp (fun g => wAll (XTW_t w (h1 w hw)) g) (fun g => wNst (XTW_t w (h1 w hw)) g)
theorem at_IAE : ∀ w ∈ vx_atS "CavershamShift" 56 "java/lang/IllegalArgumentException" ["java/lang/RuntimeException", "java/lang/Exception"], w ∈ ALLW ∨ w ∈ NSTW := at_of (by decide +kernel) (by decide +kernel)
theorem go_IAE : ∀ w ∈ vx_atS "CavershamShift" 56 "java/lang/IllegalArgumentException" ["java/lang/RuntimeException", "java/lang/Exception"], vx_ot w = true := by decide +kernel
theorem at_ISE : ∀ w ∈ vx_atS "CavershamShift" 76 "java/lang/IllegalStateException" ["java/lang/RuntimeException", "java/lang/Exception"], w ∈ ALLW ∨ w ∈ NSTW := at_of (by decide +kernel) (by decide +kernel)
theorem go_ISE : ∀ w ∈ vx_atS "CavershamShift" 76 "java/lang/IllegalStateException" ["java/lang/RuntimeException", "java/lang/Exception"], vx_ot w = true := by decide +kernel
theorem at_IOB : ∀ w ∈ vx_atS "CavershamShift" 94 "java/lang/IndexOutOfBoundsException" ["java/lang/RuntimeException", "java/lang/Exception"], w ∈ ALLW ∨ w ∈ NSTW := at_of (by decide +kernel) (by decide +kernel)
theorem go_IOB : ∀ w ∈ vx_atS "CavershamShift" 94 "java/lang/IndexOutOfBoundsException" ["java/lang/RuntimeException", "java/lang/Exception"], vx_ot w = true := by decide +kernel
set_option maxRecDepth 8000 in
theorem wS9_X10_54 : ("CavershamShift", 54, "band, power or far") ∈ STRL := str_in (wT3 185 rfl)
set_option maxRecDepth 8000 in
theorem wS9_X10_60 : ("CavershamShift", 60, "land, tongue or hours") ∈ STRL := str_in (wT3 213 rfl)
set_option maxRecDepth 8000 in
theorem wS9_X10_74 : ("CavershamShift", 74, "no more stations") ∈ STRL := str_in (wT3 223 rfl)
set_option maxRecDepth 8000 in
theorem wS9_X10_92 : ("CavershamShift", 92, "no such station") ∈ STRL := str_in (wT4 49 rfl)
set_option maxRecDepth 8000 in
theorem wS9_X10_95 : ("CavershamShift", 95, "band") ∈ STRL := str_in (wT4 56 rfl)
set_option maxRecDepth 8000 in
theorem wS9_X10_99 : ("CavershamShift", 99, "band or power") ∈ STRL := str_in (wT4 64 rfl)
set_option maxRecDepth 8000 in
theorem wS9_X10_104 : ("CavershamShift", 104, "no more jammers") ∈ STRL := str_in (wT4 65 rfl)
set_option maxRecDepth 8000 in
theorem wS9_X10_115 : ("CavershamShift", 115, "no such jammer") ∈ STRL := str_in (wT4 93 rfl)
set_option maxRecDepth 8000 in
theorem wS9_X10_117 : ("CavershamShift", 117, "power") ∈ STRL := str_in (wT4 94 rfl)
set_option maxRecDepth 8000 in
theorem wS9_X10_122 : ("CavershamShift", 122, "skills") ∈ STRL := str_in (wT4 103 rfl)
set_option maxRecDepth 8000 in
theorem wS9_X10_127 : ("CavershamShift", 127, "no more monitors") ∈ STRL := str_in (wT4 104 rfl)
set_option maxRecDepth 8000 in
theorem wS9_X10_132 : ("CavershamShift", 132, "hour or set") ∈ STRL := str_in (wT4 135 rfl)
set_option maxRecDepth 8000 in
theorem wS9_X10_138 : ("CavershamShift", 138, "no such monitor") ∈ STRL := str_in (wT4 137 rfl)
set_option maxRecDepth 8000 in
theorem wS9_X10_140 : ("CavershamShift", 140, "a station without a monitor, or a monitor without a station") ∈ STRL := str_in (wT4 138 rfl)
set_option maxRecDepth 8000 in
theorem wS9_X10_145 : ("CavershamShift", 145, "the monitor sits at another set") ∈ STRL := str_in (wT4 140 rfl)
set_option maxRecDepth 8000 in
theorem wS9_X10_155 : ("CavershamShift", 155, "hour or topic") ∈ STRL := str_in (wT4 156 rfl)
set_option maxRecDepth 8000 in
theorem wS9_X10_157 : ("CavershamShift", 157, "words or weight") ∈ STRL := str_in (wT4 157 rfl)
set_option maxRecDepth 8000 in
theorem wS9_X10_160 : ("CavershamShift", 160, "formulas") ∈ STRL := str_in (wT4 159 rfl)
set_option maxRecDepth 8000 in
theorem wS9_X10_165 : ("CavershamShift", 165, "no more talks") ∈ STRL := str_in (wT4 160 rfl)
set_option maxRecDepth 8000 in
theorem wS9_X10_175 : ("CavershamShift", 175, "the station is not on the air, or has a talk then") ∈ STRL := str_in (wT4 165 rfl)
set_option maxRecDepth 8000 in
theorem wS9_X10_186 : ("CavershamShift", 186, "no such talk") ∈ STRL := str_in (wT4 228 rfl)
set_option maxRecDepth 8000 in
theorem wS9_X10_191 : ("CavershamShift", 191, "there is a print of it") ∈ STRL := str_in (wT4 229 rfl)
set_option maxRecDepth 8000 in
theorem wS9_X10_205 : ("CavershamShift", 205, "lands or topics") ∈ STRL := str_in (wT4 239 rfl)
set_option maxRecDepth 8000 in
theorem wS9_X10_210 : ("CavershamShift", 210, "no more readers") ∈ STRL := str_in (wT5 0 rfl)
set_option maxRecDepth 8000 in
theorem wS9_X10_221 : ("CavershamShift", 221, "no such reader") ∈ STRL := str_in (wT5 32 rfl)
set_option maxRecDepth 8000 in
theorem wS9_X10_233 : ("CavershamShift", 233, "lands") ∈ STRL := str_in (wT5 44 rfl)
set_option maxRecDepth 8000 in
theorem wS9_X10_237 : ("CavershamShift", 237, "hours") ∈ STRL := str_in (wT5 52 rfl)
set_option maxRecDepth 8000 in
theorem wS9_X10_239 : ("CavershamShift", 239, "the last hour is behind that") ∈ STRL := str_in (wT5 53 rfl)
set_option maxRecDepth 8000 in
theorem wS9_X10_244 : ("CavershamShift", 244, "what") ∈ STRL := str_in (wT5 177 rfl)
set_option maxRecDepth 8000 in
theorem wS9_X10_250 : ("CavershamShift", 250, "no such station or hour") ∈ STRL := str_in (wT5 185 rfl)
set_option maxRecDepth 8000 in
theorem wS9_X10_262 : ("CavershamShift", 262, "no such monitor, station or hour") ∈ STRL := str_in (wT5 207 rfl)
set_option maxRecDepth 8000 in
theorem wS9_X10_275 : ("CavershamShift", 275, "no such reader or talk") ∈ STRL := str_in (wT5 230 rfl)
set_option maxRecDepth 8000 in
theorem wS9_X10_284 : ("CavershamShift", 284, "no such land or formula") ∈ STRL := str_in (wT6 5 rfl)
set_option maxRecDepth 8000 in
theorem wS9_X10_290 : ("CavershamShift", 290, "no such land") ∈ STRL := str_in (wT6 14 rfl)
set_option maxRecDepth 8000 in
theorem wS9_X10_298 : ("CavershamShift", 298, "no such topic") ∈ STRL := str_in (wT6 22 rfl)
set_option maxRecDepth 8000 in
theorem wS9_X10_321 : ("CavershamShift", 321, ": ") ∈ STRL := str_in (wT6 148 rfl)
set_option maxRecDepth 8000 in
theorem wS9_X10_331 : ("CavershamShift", 331, " at ") ∈ STRL := str_in (wT6 206 rfl)
set_option maxRecDepth 8000 in
theorem wS9_X10_334 : ("CavershamShift", 334, ", ") ∈ STRL := str_in (wT6 207 rfl)
set_option maxRecDepth 8000 in
theorem wS9_X10_336 : ("CavershamShift", 336, "to come") ∈ STRL := str_in (wT6 208 rfl)
set_option maxRecDepth 8000 in
theorem wS9_X10_338 : ("CavershamShift", 338, "missed") ∈ STRL := str_in (wT6 209 rfl)
set_option maxRecDepth 8000 in
theorem wS9_X10_533 : ("CavershamShift", 533, "flash") ∈ STRL := str_in (wT6 213 rfl)
set_option maxRecDepth 8000 in
theorem wS9_X10_535 : ("CavershamShift", 535, "text") ∈ STRL := str_in (wT6 214 rfl)
set_option maxRecDepth 8000 in
theorem wS9_X10_537 : ("CavershamShift", 537, "summary") ∈ STRL := str_in (wT6 215 rfl)
set_option maxRecDepth 8000 in
theorem wS9_X10_539 : ("CavershamShift", 539, "dropped") ∈ STRL := str_in (wT6 216 rfl)
set_option maxRecDepth 8000 in
theorem wS9_X10_541 : ("CavershamShift", 541, " sent") ∈ STRL := str_in (wT6 220 rfl)
set_option maxRecDepth 8000 in
theorem wS9_X10_543 : ("CavershamShift", 543, " stale") ∈ STRL := str_in (wT6 221 rfl)
set_option maxRecDepth 8000 in
theorem wS9_X10_545 : ("CavershamShift", 545, " given") ∈ STRL := str_in (wT6 222 rfl)
set_option maxRecDepth 8000 in
theorem wS9_X10_547 : ("CavershamShift", 547, "") ∈ STRL := str_in (wT6 223 rfl)
set_option maxRecDepth 8000 in
theorem wS9_X10_357 : ("CavershamShift", 357, "no such hour") ∈ STRL := str_in (wT7 59 rfl)
set_option maxRecDepth 8000 in
theorem wS9_X10_372 : ("CavershamShift", 372, "the talk is over") ∈ STRL := str_in (wT7 74 rfl)
set_option maxRecDepth 8000 in
theorem wS9_X16_313 : ("CavershamShiftModel", 313, "") ∈ STRL := str_in (wT9 104 rfl)
set_option maxRecDepth 8000 in
theorem wS9_X16_317 : ("CavershamShiftModel", 317, "dropped") ∈ STRL := str_in (wT9 107 rfl)
set_option maxRecDepth 8000 in
theorem wS9_X16_319 : ("CavershamShiftModel", 319, "summary") ∈ STRL := str_in (wT9 108 rfl)
set_option maxRecDepth 8000 in
theorem wS9_X16_321 : ("CavershamShiftModel", 321, "text") ∈ STRL := str_in (wT9 109 rfl)
set_option maxRecDepth 8000 in
theorem wS9_X16_323 : ("CavershamShiftModel", 323, "flash") ∈ STRL := str_in (wT9 110 rfl)
set_option maxRecDepth 8000 in
theorem wS9_X16_325 : ("CavershamShiftModel", 325, "missed") ∈ STRL := str_in (wT9 111 rfl)
set_option maxRecDepth 8000 in
theorem wS9_X16_327 : ("CavershamShiftModel", 327, "to come") ∈ STRL := str_in (wT9 112 rfl)
set_option maxRecDepth 8000 in
theorem wS9_X16_336 : ("CavershamShiftModel", 336, " sent") ∈ STRL := str_in (wT9 116 rfl)
set_option maxRecDepth 8000 in
theorem wS9_X16_338 : ("CavershamShiftModel", 338, " stale") ∈ STRL := str_in (wT9 117 rfl)
set_option maxRecDepth 8000 in
theorem wS9_X16_340 : ("CavershamShiftModel", 340, " given") ∈ STRL := str_in (wT9 118 rfl)
set_option maxRecDepth 8000 in
theorem wS9_X16_349 : ("CavershamShiftModel", 349, ": ") ∈ STRL := str_in (wT9 121 rfl)
set_option maxRecDepth 8000 in
theorem wS9_X16_351 : ("CavershamShiftModel", 351, " at ") ∈ STRL := str_in (wT9 122 rfl)
set_option maxRecDepth 8000 in
theorem wS9_X16_353 : ("CavershamShiftModel", 353, ", ") ∈ STRL := str_in (wT9 123 rfl)
