/-! the classes of the worlds, by number; the fields, 16 codes a class -/
abbrev CL : List vw_C := [(RX0, TX0, 2), (RX1, TX1, 2), (RX2, TX2, 5), (RX3, TX3, 4), (RX4, TX4, 7), (RX5, TX5, 3), (RX6, TX6, 13), (RX7, TX7, 4), (RX8, TX8, 7), (RX9, TX9, 9), (RX10, TX10, 6), (RX11, TX11, 3), (RX12, TX12, 4), (RX13, TX13, 3), (RX14, TX14, 6), (RX15, TX15, 14), (RX16, TX16, 14), (RJx4a65c, TJx4a65c, 3), (RJ4, TJ4, 4), (RJ0, TJ0, 4), (RJ6, TJ6, 1)]
def nfL : List Nat := [2, 2, 5, 4, 7, 3, 13, 4, 7, 9, 6, 3, 4, 3, 6, 14, 14, 3, 4, 4, 1]
def nf (t : Nat) : Nat := nfL.getD t 0
def tyL : List Nat := [1, 1, 0, 0, 0, 0, 0, 0, 0, 0, 0, 0, 0, 0, 0, 0, 0, 0, 0, 0, 0, 0, 0, 0, 0, 0, 0, 0, 0, 0, 0, 0, 1, 1, 1, 1, 1, 0, 0, 0, 0, 0, 0, 0, 0, 0, 0, 0, 0, 0, 0, 0, 0, 0, 0, 0, 0, 0, 0, 0, 0, 0, 0, 0, 1, 1, 1, 0, 0, 0, 0, 0, 0, 0, 0, 0, 0, 0, 0, 0, 0, 0, 0, 0, 0, 0, 0, 0, 0, 0, 0, 0, 0, 0, 0, 0, 0, 0, 0, 0, 0, 0, 0, 0, 0, 0, 0, 0, 0, 0, 0, 0, 1, 1, 1, 1, 0, 0, 0, 0, 0, 0, 0, 0, 0, 0, 0, 0, 0, 0, 0, 0, 0, 0, 0, 0, 0, 0, 0, 0, 0, 0, 0, 0, 0, 1, 0, 0, 0, 0, 0, 0, 1, 0, 0, 0, 0, 0, 0, 0, 1, 1, 1, 1, 0, 0, 0, 0, 0, 0, 0, 0, 0, 0, 0, 0, 2, 3, 1, 0, 0, 0, 0, 0, 0, 0, 0, 0, 0, 0, 0, 0, 1, 0, 0, 0, 0, 0, 0, 0, 0, 0, 0, 0, 0, 0, 0, 0, 0, 0, 1, 0, 0, 0, 0, 0, 0, 0, 0, 0, 0, 0, 0, 0, 0, 0, 0, 0, 0, 0, 0, 0, 0, 0, 0, 0, 0, 0, 0, 0, 0, 0, 0, 0, 0, 0, 0, 0, 0, 0, 0, 0, 0, 0, 0, 0, 0, 0, 0, 0, 0, 0, 1, 1, 1, 1, 1, 1, 1, 1, 0, 0, 0, 1, 0, 0, 0, 0, 0, 0, 0, 0, 0, 0, 0, 0, 0, 0, 1, 0, 0, 0, 0, 0, 0, 0, 0, 0, 0, 0, 0, 0, 0, 0, 1, 0, 0, 0, 0, 0, 0, 0, 0, 0, 0, 0, 0, 0, 0, 0, 0, 0, 0, 0, 0, 0, 0, 0, 0, 0, 0, 0, 0, 0, 0, 0]
def tyF (f : Nat) : Nat := tyL.getD f 0
theorem in_0 : ∀ w ∈ u_ws RX0 TX0 2, w ∈ ALLW := by decide +kernel
theorem in_1 : ∀ w ∈ u_ws RX1 TX1 2, w ∈ ALLW := by decide +kernel
theorem in_2 : ∀ w ∈ u_ws RX2 TX2 5, w ∈ ALLW := by decide +kernel
theorem in_3 : ∀ w ∈ u_ws RX3 TX3 4, w ∈ ALLW := by decide +kernel
theorem in_4 : ∀ w ∈ u_ws RX4 TX4 7, w ∈ ALLW := by decide +kernel
theorem in_5 : ∀ w ∈ u_ws RX5 TX5 3, w ∈ ALLW := by decide +kernel
theorem in_6 : ∀ w ∈ u_ws RX6 TX6 13, w ∈ ALLW := by decide +kernel
theorem in_7 : ∀ w ∈ u_ws RX7 TX7 4, w ∈ ALLW := by decide +kernel
theorem in_8 : ∀ w ∈ u_ws RX8 TX8 7, w ∈ ALLW := by decide +kernel
theorem in_9 : ∀ w ∈ u_ws RX9 TX9 9, w ∈ ALLW := by decide +kernel
theorem in_10 : ∀ w ∈ u_ws RX10 TX10 6, w ∈ ALLW := by decide +kernel
theorem in_11 : ∀ w ∈ u_ws RX11 TX11 3, w ∈ ALLW := by decide +kernel
theorem in_12 : ∀ w ∈ u_ws RX12 TX12 4, w ∈ ALLW := by decide +kernel
theorem in_13 : ∀ w ∈ u_ws RX13 TX13 3, w ∈ ALLW := by decide +kernel
theorem in_14 : ∀ w ∈ u_ws RX14 TX14 6, w ∈ ALLW := by decide +kernel
theorem in_15 : ∀ w ∈ u_ws RX15 TX15 14, w ∈ ALLW := by decide +kernel
theorem in_16 : ∀ w ∈ u_ws RX16 TX16 14, w ∈ ALLW := by decide +kernel
theorem in_17 : ∀ w ∈ u_ws RJx4a65c TJx4a65c 3, w ∈ ALLW := by decide +kernel
theorem in_18 : ∀ w ∈ u_ws RJ4 TJ4 4, w ∈ ALLW := by decide +kernel
theorem in_19 : ∀ w ∈ u_ws RJ0 TJ0 4, w ∈ ALLW := by decide +kernel
theorem in_20 : ∀ w ∈ u_ws RJ6 TJ6 1, w ∈ ALLW := by decide +kernel
/-! the heap by roles: an object or array is the role (t, i): t its kind (below 21 a class of CL, from 30 on arrays), i its number.
V: which roles stand; G: their addresses; I, R, L, D: fields by code (16 t + k) and i; N: lengths; A, B: what arrays hold -/
abbrev HS : Type := (Nat → Nat → Prop) × (Nat → Nat → Nat) × (Nat → Nat → Int32) × (Nat → Nat → Option Nat) × (Nat → Nat → Nat) × (Nat → Nat → Nat → Int32) × (Nat → Nat → Nat → Option Nat) × (Nat → Int64) × (Nat → UInt64)
def vV (S : HS) : Nat → Nat → Prop := S.1
def gG (S : HS) : Nat → Nat → Nat := S.2.1
def mI (S : HS) : Nat → Nat → Int32 := S.2.2.1
def mR (S : HS) : Nat → Nat → Option Nat := S.2.2.2.1
def mN (S : HS) : Nat → Nat → Nat := S.2.2.2.2.1
def mA (S : HS) : Nat → Nat → Nat → Int32 := S.2.2.2.2.2.1
def mB (S : HS) : Nat → Nat → Nat → Option Nat := S.2.2.2.2.2.2.1
def mL (S : HS) : Nat → Int64 := S.2.2.2.2.2.2.2.1
def mD (S : HS) : Nat → UInt64 := S.2.2.2.2.2.2.2.2
def up2 {α : Type} (f : Nat → Nat → α) (a b : Nat) (v : α) : Nat → Nat → α := fun x y => if x = a ∧ y = b then v else f x y
theorem up2_s {α : Type} (f : Nat → Nat → α) (a b : Nat) (v : α) : up2 f a b v a b = v := if_pos ⟨rfl, rfl⟩
theorem up2_n {α : Type} {f : Nat → Nat → α} {a b x y : Nat} {v : α} (h : ¬ (x = a ∧ y = b)) : up2 f a b v x y = f x y := if_neg h
def sI (S : HS) (f i : Nat) (v : Int32) : HS := (S.1, S.2.1, up2 S.2.2.1 f i v, S.2.2.2)
def sR (S : HS) (f i : Nat) (v : Option Nat) : HS := (S.1, S.2.1, S.2.2.1, up2 S.2.2.2.1 f i v, S.2.2.2.2)
def sA (S : HS) (t i : Nat) (v : Nat → Int32) : HS := (S.1, S.2.1, S.2.2.1, S.2.2.2.1, S.2.2.2.2.1, up2 S.2.2.2.2.2.1 t i v, S.2.2.2.2.2.2)
def sB (S : HS) (t i : Nat) (v : Nat → Option Nat) : HS := (S.1, S.2.1, S.2.2.1, S.2.2.2.1, S.2.2.2.2.1, S.2.2.2.2.2.1, up2 S.2.2.2.2.2.2.1 t i v, S.2.2.2.2.2.2.2)
def sL (S : HS) (f : Nat) (v : Int64) : HS := (S.1, S.2.1, S.2.2.1, S.2.2.2.1, S.2.2.2.2.1, S.2.2.2.2.2.1, S.2.2.2.2.2.2.1, (fun g => if g = f then v else S.2.2.2.2.2.2.2.1 g), S.2.2.2.2.2.2.2.2)
def sD (S : HS) (f : Nat) (v : UInt64) : HS := (S.1, S.2.1, S.2.2.1, S.2.2.2.1, S.2.2.2.2.1, S.2.2.2.2.2.1, S.2.2.2.2.2.2.1, S.2.2.2.2.2.2.2.1, (fun g => if g = f then v else S.2.2.2.2.2.2.2.2 g))
/-- a new object of class t, its number i, at the address q -/
def sNew (S : HS) (t i q : Nat) : HS := ((fun t' i' => S.1 t' i' ∨ (t' = t ∧ i' = i)), up2 S.2.1 t i q, (fun f i' => if f / 16 = t ∧ i' = i then 0 else S.2.2.1 f i'), (fun f i' => if f / 16 = t ∧ i' = i then none else S.2.2.2.1 f i'), S.2.2.2.2.1, S.2.2.2.2.2.1, S.2.2.2.2.2.2.1, (fun f => if f / 16 = t then 0 else S.2.2.2.2.2.2.2.1 f), (fun f => if f / 16 = t then 0 else S.2.2.2.2.2.2.2.2 f))
/-- a new array of kind t, of n places -/
def sArr (S : HS) (t i q n : Nat) : HS := ((fun t' i' => S.1 t' i' ∨ (t' = t ∧ i' = i)), up2 S.2.1 t i q, S.2.2.1, S.2.2.2.1, up2 S.2.2.2.2.1 t i n, up2 S.2.2.2.2.2.1 t i (fun _ => 0), up2 S.2.2.2.2.2.2.1 t i (fun _ => none), S.2.2.2.2.2.2.2)
/-- the roles that P names are no longer told of -/
def sDrop (S : HS) (P : Nat → Nat → Prop) : HS := ((fun t i => S.1 t i ∧ ¬ P t i), S.2)
def fval (S : HS) (f i : Nat) : Value := match tyF f with
  | 0 => .int (mI S f i)
  | 1 => va_rf (mR S f i)
  | 2 => .long (mL S f)
  | _ => .double (mD S f)
def isRefA (t : Nat) : Bool := t == 30 || t == 31 || t == 38 || t == 41
/-- which of the array classes a kind has -/
def akL : List Nat := [0, 0, 1, 1, 1, 1, 1, 1, 4, 1, 2, 5, 3]
def ak (t : Nat) : Nat := akL.getD (t - 30) 0
def cellM (cy : Nat → ClassId) (S : HS) (t i : Nat) : va_E := if t < 21 then .inr (t, (List.range (nf t)).map (fun k => fval S (16 * t + k) i)) else if isRefA t then .inl (cy (ak t), mN S t i, .inr (.inr (.inr (.inr (mB S t i))))) else .inl (cy (ak t), mN S t i, .inl (mA S t i))
abbrev TY (cy : Nat → ClassId) : List (ClassId × FieldType) := [(cy 0, .object "java/lang/Object"), (cy 1, .int), (cy 2, .boolean), (cy 3, .byte), (cy 4, .array .int), (cy 5, .object "java/lang/String")]
def A0 (s0 : State) : Nat → Prop := fun q => s0.heap.size ≤ q
/-- the texts of the tables: class, index, text; where each lies -/
def strOf : Cond → Option (String × Nat × String)
  | .stringRef o k t => some (o, k, t)
  | _ => none
def STRL : List (String × Nat × String) := lw_tbl.filterMap strOf
theorem str_in {o : String} {k : Nat} {t : String} (h : Cond.stringRef o k t ∈ lw_tbl) : (o, k, t) ∈ STRL := List.mem_filterMap.mpr ⟨_, h, rfl⟩
def saOf (s0 : State) (o : String) (k : Nat) : Nat := match (Term.string o k).eval #[] s0 none [] s0 with
  | some (.ref a) => a
  | _ => 0
/-- U stands behind s0: the same tables, and what lay at s0 lies there still -/
def Bs (s0 U : State) : Prop := s0.vm.Alike U.vm ∧ s0.heap.size ≤ U.heap.size ∧ (∀ q : Nat, q < s0.heap.size → U.heap[q]? = s0.heap[q]?) ∧ (∀ w ∈ NSTW, va_Nw w U) ∧ ∀ x ∈ STRL, vk_R x.1 x.2.1 x.2.2 (saOf s0 x.1 x.2.1) U
/-- what is given once and for all of the start -/
def Gl (s0 : State) (l : Launch) (D : va_G) (cy : Nat → ClassId) : Prop := va_K D CL (TY cy) s0 ∧ l.stackTraces = false ∧ ∃ b : Nat, (∀ w ∈ lw_tbl, w.before #[Value.ref b] s0 = true) ∧ (Jvm.Cond.and given_1 narrow_1).before #[Value.ref b] s0 = true
def WP (s0 : State) (D : va_G) (cy : Nat → ClassId) (S : HS) (H : Heap) : Prop := (∃ ws : va_W, va_P D CL ws H ∧ va_D (A0 s0) ws ∧ ∀ t i, vV S t i → (gG S t i, cellM cy S t i) ∈ ws) ∧ ∀ t i t' i', vV S t i → vV S t' i' → gG S t i = gG S t' i' → t = t' ∧ i = i'
def Wd (s0 : State) (D : va_G) (cy : Nat → ClassId) (S : HS) (H0 H : Heap) (locs : List Loc) : Prop := WP s0 D cy S H ∧ va_S (A0 s0) H0 H locs
/-- what holds all through a method's body -/
def Cx (s0 : State) (l : Launch) (D : va_G) (cy : Nat → ClassId) (p : Program) (s : State) (m : MethodId) (args : Array Value) (meth : Method) (c : Code) (cc : ByteArray) (nL : Nat) (own : String) (ret : Option FieldType) : Prop :=
  p.tables.exec = Jvm.exec ∧ c.code = cc ∧ c.maxLocals = nL ∧ s.vm.findClass own = some m.cls ∧ (∀ w ∈ ALLW, w.before args s = true) ∧ meth.sig.returnType = ret ∧ meth.locks = false ∧ va_K D CL (TY cy) s ∧ Bs s0 s ∧ Gl s0 l D cy
def GQ (s0 : State) (D : va_G) (cy : Nat → ClassId) (post : Option Value → HS → Prop) : Array Value → State → Outcome → State → Prop := fun _ st oc t => (∃ (v : Option Value) (S' : HS), oc = .returned v ∧ post v S' ∧ WP s0 D cy S' t.heap) ∧ va_F (A0 s0) st t
/-- the contract of a method that returns: from the state S, with the arguments As, to an answer and a state of which post holds -/
def Ctr (s0 : State) (l : Launch) (D : va_G) (cy : Nat → ClassId) (y : MethodName) (cc : ByteArray) (n : Nat) (ret : Option FieldType) (rm : Room) (S : HS) (As : List Value) (post : Option Value → HS → Prop) : Prop :=
  Met l y (Cond.code y cc n ret :: ALLW) rm (va_Pc As (fun U => Bs s0 U ∧ WP s0 D cy S U.heap)) (GQ s0 D cy post) rm.cells rm.slots (A0 s0)
theorem cell_obj {cy : Nat → ClassId} {S : HS} {t i : Nat} (h : t < 21) : cellM cy S t i = .inr (t, (List.range (nf t)).map (fun k => fval S (16 * t + k) i)) := if_pos h
theorem fv_sI {S : HS} {f i : Nat} {x : Int32} (h : tyF f = 0) : fval (sI S f i x) f i = .int x := by unfold fval; rw [h]; show Value.int (up2 _ f i x f i) = _; rw [up2_s]
theorem fv_sR {S : HS} {f i : Nat} {x : Option Nat} (h : tyF f = 1) : fval (sR S f i x) f i = va_rf x := by unfold fval; rw [h]; show va_rf (up2 _ f i x f i) = _; rw [up2_s]
theorem fv_sI_ne {S : HS} {f i g j : Nat} {x : Int32} (h : ¬ (g = f ∧ j = i)) : fval (sI S f i x) g j = fval S g j := by
  unfold fval
  have e : mI (sI S f i x) g j = mI S g j := up2_n h
  rw [e]; rfl
theorem fv_sR_ne {S : HS} {f i g j : Nat} {x : Option Nat} (h : ¬ (g = f ∧ j = i)) : fval (sR S f i x) g j = fval S g j := by
  unfold fval
  have e : mR (sR S f i x) g j = mR S g j := up2_n h
  rw [e]; rfl
theorem nar_z {x : Int32} (h : x = 0 ∨ x = 1) : narrow .boolean (.int x) = .int x := by rcases h with rfl | rfl <;> rfl
theorem fit_z {x : Int32} (h : x = 0 ∨ x = 1) : fits .boolean (.int x) = true := by rcases h with rfl | rfl <;> rfl
theorem nar_o {C : String} (x : Option Nat) : narrow (.object C) (va_rf x) = va_rf x := by cases x <;> rfl
theorem fit_o {C : String} (x : Option Nat) : fits (.object C) (va_rf x) = true := by cases x <;> rfl
theorem nar_a {T : FieldType} (x : Option Nat) : narrow (.array T) (va_rf x) = va_rf x := by cases x <;> rfl
theorem fit_a {T : FieldType} (x : Option Nat) : fits (.array T) (va_rf x) = true := by cases x <;> rfl
theorem rng_get {α : Type} (g : Nat → α) {n k : Nat} (h : k < n) : ((List.range n).map g)[k]? = some (g k) := by simp [h]
theorem rng_set {α : Type} (g g' : Nat → α) {n k : Nat} (h : ∀ j, j < n → j ≠ k → g' j = g j) : ((List.range n).map g).set k (g' k) = (List.range n).map g' := by
  apply List.ext_getElem?
  intro j
  by_cases hj : j < n
  · by_cases e : j = k
    · subst e
      rw [List.getElem?_set_self (by simpa using hj)]
      simp [hj]
    · rw [List.getElem?_set_ne (Ne.symm e)]
      simp [hj, h j hj e]
  · rw [List.getElem?_eq_none (by simpa using Nat.le_of_not_lt hj), List.getElem?_eq_none (by simpa using Nat.le_of_not_lt hj)]
theorem Wd.at {s0 : State} {D : va_G} {cy : Nat → ClassId} {S : HS} {H0 H : Heap} {locs : List Loc} (w : Wd s0 D cy S H0 H locs) {t i : Nat} (hV : vV S t i) : ∃ (ws : va_W) (k : Nat), va_P D CL ws H ∧ va_D (A0 s0) ws ∧ ws[k]? = some (gG S t i, cellM cy S t i) ∧ ∀ t i, vV S t i → (gG S t i, cellM cy S t i) ∈ ws := by
  obtain ⟨⟨⟨ws, hP, hD, hm⟩, -⟩, -⟩ := w
  obtain ⟨k, hk⟩ := List.getElem?_of_mem (hm t i hV)
  exact ⟨ws, k, hP, hD, hk, hm⟩
/-- the world behind a store into the role (t, i) -/
theorem WP.put {s0 : State} {D : va_G} {cy : Nat → ClassId} {S S' : HS} {H1 : Heap} {ws : va_W} {t i k : Nat} {e1 : va_E} (inj : ∀ t i t' i', vV S t i → vV S t' i' → gG S t i = gG S t' i' → t = t' ∧ i = i') (hD : va_D (A0 s0) ws) (hV : vV S t i) (hk : ws[k]? = some (gG S t i, cellM cy S t i)) (hm : ∀ t i, vV S t i → (gG S t i, cellM cy S t i) ∈ ws)
    (hP1 : va_P D CL (ws.set k (gG S t i, e1)) H1) (hD1 : va_D (A0 s0) (ws.set k (gG S t i, e1))) (eV : vV S' = vV S) (eG : gG S' = gG S) (he : cellM cy S' t i = e1) (ho : ∀ t' i', ¬ (t' = t ∧ i' = i) → cellM cy S' t' i' = cellM cy S t' i') : WP s0 D cy S' H1 := by
  refine ⟨⟨_, hP1, hD1, fun t' i' h => ?_⟩, fun a b a' b' h h' hg => ?_⟩
  · rw [eV] at h
    rw [eG]
    by_cases q : t' = t ∧ i' = i
    · obtain ⟨rfl, rfl⟩ := q
      rw [he]
      exact List.mem_of_getElem? (List.getElem?_set_self (List.getElem?_eq_some_iff.mp hk).1)
    · rw [ho t' i' q]
      obtain ⟨k', hk'⟩ := List.getElem?_of_mem (hm t' i' h)
      refine List.mem_of_getElem? (i := k') ?_
      rw [List.getElem?_set_ne ?_]
      · exact hk'
      · intro z
        subst z
        have := hk.symm.trans hk'
        have e1 : gG S t i = gG S t' i' := congrArg (fun q => q.1) (Option.some.inj this)
        obtain ⟨rfl, rfl⟩ := inj t i t' i' hV h e1
        exact q ⟨rfl, rfl⟩
  · rw [eV] at h h'
    rw [eG] at hg
    exact inj a b a' b' h h' hg
theorem nf_le (t : Nat) : nf t ≤ 16 := by
  unfold nf
  rw [List.getD_eq_getElem?_getD]
  cases h : nfL[t]? with
  | none => simp
  | some x =>
    have hx : x ∈ nfL := List.mem_of_getElem? h
    have : ∀ x ∈ nfL, x ≤ 16 := by decide
    simpa using this x hx
section CORE
variable {p : Program} {l : Launch} {e : Env} {R : Room} {s : State} {m : MethodId} {args : Array Value} {below : List Frame} {meth : Method} {c : Code} {H : Heap} {locs : List Loc} {cells slots : Nat} {Q : State → Prop} {cc : ByteArray} {pc nL : Nat} {ls : Array Slot} {rest : List Value} {s0 : State} {D : va_G} {cy : Nat → ClassId} {S : HS} {own : String} {ret : Option FieldType}
theorem gF {t k i index : Nat} {ref nm ds C : String} {T : u_T} {v : Value} (X : Cx s0 l D cy p s m args meth c cc nL own ret) (w : Wd s0 D cy S s.heap H locs) (hV : vV S t i) (ht : t < 21) (hc : CL[t]? = some (C, T, nf t)) (hk : k < nf t) (hin : ∀ w ∈ u_ws C T (nf t), w ∈ ALLW) (h1 : (T k).1 = ref) (h2 : (T k).2.1 = nm) (h3 : (T k).2.2.1 = ds) (hl : Cond.fieldLink own index ref nm ds ∈ ALLW) (hv : fval S (16 * t + k) i = v) (hdg : decode cc pc = .ok (.getfield index, 3))
    (kk : W p l e R s m args below meth c H locs cells slots Q (F0 m (pc + 3) ls (v :: rest))) : W p l e R s m args below meth c H locs cells slots Q (F0 m pc ls (.ref (gG S t i) :: rest)) := by
  obtain ⟨ws, q0, hP, hD, hq, hm⟩ := w.at hV
  rw [cell_obj ht] at hq
  subst h1; subst h2; subst h3
  exact va_get X.1 X.2.1 X.2.2.2.2.1 hin X.2.2.2.1 X.2.2.2.2.2.2.2.1 hP q0 hq hc k hk (X.2.2.2.2.1 _ hl) (fun _ h => h) (by rw [rng_get _ hk, hv]) hdg kk
theorem pF {t k i index : Nat} {ref nm ds C : String} {T : u_T} {S' : HS} {v : Value} {ty : FieldType} (X : Cx s0 l D cy p s m args meth c cc nL own ret) (w : Wd s0 D cy S s.heap H locs) (hV : vV S t i) (ht : t < 21) (hc : CL[t]? = some (C, T, nf t)) (hk : k < nf t) (hin : ∀ w ∈ u_ws C T (nf t), w ∈ ALLW) (h1 : (T k).1 = ref) (h2 : (T k).2.1 = nm) (h3 : (T k).2.2.1 = ds) (hfin : (T k).2.2.2 = false) (hl : Cond.fieldLink own index ref nm ds ∈ ALLW) (ty0 : Nat → FieldType) (hty : ∀ k, k < nf t → parseFieldDescriptor (T k).2.2.1 = some (ty0 k)) (hnm : ∀ a, a < nf t → ∀ b, b < nf t → a ≠ b → (T a).2.1 ≠ (T b).2.1) (hd : parseFieldDescriptor (T k).2.2.1 = some ty) (hn : narrow ty v = v) (hfit : fits ty v = true)
    (ho : ∀ f j, ¬ (f = 16 * t + k ∧ j = i) → fval S' f j = fval S f j) (hs : fval S' (16 * t + k) i = v) (hdg : decode cc pc = .ok (.putfield index, 3))
    (kk : ∀ (H1 : Heap) (locs1 : List Loc), Wd s0 D cy S' s.heap H1 locs1 → W p l e R s m args below meth c H1 locs1 cells slots Q (F0 m (pc + 3) ls rest)) (hSame : vV S' = vV S ∧ gG S' = gG S ∧ mN S' = mN S ∧ mA S' = mA S ∧ mB S' = mB S := by exact ⟨rfl, rfl, rfl, rfl, rfl⟩) : W p l e R s m args below meth c H locs cells slots Q (F0 m pc ls (v :: .ref (gG S t i) :: rest)) := by
  obtain ⟨ws, q0, hP, hD, hq, hm⟩ := w.at hV
  have hq' := hq
  rw [cell_obj ht] at hq
  subst h1; subst h2; subst h3
  refine va_put X.1 X.2.1 X.2.2.2.2.1 hin ty0 hty hnm X.2.2.2.1 X.2.2.2.2.2.2.2.1 hP hD w.2 q0 hq hc k hk (X.2.2.2.2.1 _ hl) (fun _ h => h) hfin hd hn hfit (by simpa using hk) hdg (fun H1 locs1 a b c' => ?_)
  refine kk H1 locs1 ⟨WP.put w.1.2 hD hV hq' hm a b hSame.1 hSame.2.1 ?_ (fun t' i' h => ?_), c'⟩
  · rw [cell_obj ht, ← hs, rng_set (fun k => fval S (16 * t + k) i) (fun k => fval S' (16 * t + k) i) (fun j hj h => ho _ _ (fun z => h (by omega)))]
  · unfold cellM
    rw [hSame.2.2.1, hSame.2.2.2.1, hSame.2.2.2.2]
    by_cases h21 : t' < 21
    · rw [if_pos h21, if_pos h21]
      congr 2
      apply List.map_congr_left
      intro j hj
      have hj16 : j < 16 := Nat.lt_of_lt_of_le (List.mem_range.mp hj) (nf_le t')
      have hk16 : k < 16 := Nat.lt_of_lt_of_le hk (nf_le t)
      exact ho _ _ (fun z => h ⟨by omega, z.2⟩)
    · rw [if_neg h21, if_neg h21]
theorem pFf {t k i index : Nat} {ref nm ds C : String} {T : u_T} {S' : HS} {v : Value} {ty : FieldType} (X : Cx s0 l D cy p s m args meth c cc nL own ret) (w : Wd s0 D cy S s.heap H locs) (hin2 : meth.name = "<init>") (hV : vV S t i) (ht : t < 21) (hc : CL[t]? = some (C, T, nf t)) (hk : k < nf t) (hin : ∀ w ∈ u_ws C T (nf t), w ∈ ALLW) (h1 : (T k).1 = ref) (h2 : (T k).2.1 = nm) (h3 : (T k).2.2.1 = ds) (hfin : (T k).2.2.2 = true) (hl : Cond.fieldLink own index ref nm ds ∈ ALLW) (ty0 : Nat → FieldType) (hty : ∀ k, k < nf t → parseFieldDescriptor (T k).2.2.1 = some (ty0 k)) (hnm : ∀ a, a < nf t → ∀ b, b < nf t → a ≠ b → (T a).2.1 ≠ (T b).2.1) (hd : parseFieldDescriptor (T k).2.2.1 = some ty) (hn : narrow ty v = v) (hfit : fits ty v = true)
    (ho : ∀ f j, ¬ (f = 16 * t + k ∧ j = i) → fval S' f j = fval S f j) (hs : fval S' (16 * t + k) i = v) (hdg : decode cc pc = .ok (.putfield index, 3))
    (kk : ∀ (H1 : Heap) (locs1 : List Loc), Wd s0 D cy S' s.heap H1 locs1 → W p l e R s m args below meth c H1 locs1 cells slots Q (F0 m (pc + 3) ls rest)) (hSame : vV S' = vV S ∧ gG S' = gG S ∧ mN S' = mN S ∧ mA S' = mA S ∧ mB S' = mB S := by exact ⟨rfl, rfl, rfl, rfl, rfl⟩) (hdecl : (T k).1 = own := by rfl) : W p l e R s m args below meth c H locs cells slots Q (F0 m pc ls (v :: .ref (gG S t i) :: rest)) := by
  obtain ⟨ws, q0, hP, hD, hq, hm⟩ := w.at hV
  have hq' := hq
  rw [cell_obj ht] at hq
  subst h1; subst h2; subst h3
  refine va_putF X.1 X.2.1 X.2.2.2.2.1 hin ty0 hty hnm X.2.2.2.1 X.2.2.2.2.2.2.2.1 hP hD w.2 q0 hq hc k hk (X.2.2.2.2.1 _ hl) (fun _ h => h) hfin hin2 hdecl hd hn hfit (by simpa using hk) hdg (fun H1 locs1 a b c' => ?_)
  refine kk H1 locs1 ⟨WP.put w.1.2 hD hV hq' hm a b hSame.1 hSame.2.1 ?_ (fun t' i' h => ?_), c'⟩
  · rw [cell_obj ht, ← hs, rng_set (fun k => fval S (16 * t + k) i) (fun k => fval S' (16 * t + k) i) (fun j hj h => ho _ _ (fun z => h (by omega)))]
  · unfold cellM
    rw [hSame.2.2.1, hSame.2.2.2.1, hSame.2.2.2.2]
    by_cases h21 : t' < 21
    · rw [if_pos h21, if_pos h21]
      congr 2
      apply List.map_congr_left
      intro j hj
      have hj16 : j < 16 := Nat.lt_of_lt_of_le (List.mem_range.mp hj) (nf_le t')
      have hk16 : k < 16 := Nat.lt_of_lt_of_le hk (nf_le t)
      exact ho _ _ (fun z => h ⟨by omega, z.2⟩)
    · rw [if_neg h21, if_neg h21]
end CORE

