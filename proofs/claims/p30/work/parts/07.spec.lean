/-! small words of the specification -/
def b2i (b : Bool) : Int32 := if b = true then 1 else 0
theorem b2i_01 (b : Bool) : b2i b = 0 ∨ b2i b = 1 := by cases b <;> decide
theorem b2i_t {b : Bool} (h : ¬ b2i b = 0) : b = true := by cases b <;> simp_all [b2i]
theorem b2i_f {b : Bool} (h : b2i b = 0) : b = false := by cases b <;> simp_all [b2i]
theorem b2i_1 {b : Bool} (h : b = true) : b2i b = 1 := by rw [h]; rfl
theorem b2i_0 {b : Bool} (h : b = false) : b2i b = 0 := by rw [h]; rfl
/-- it returns r, and the state is as it was -/
def PU (S : HS) (r : Option Value) : Option Value → HS → Prop := fun v S' => r = v ∧ S = S'
theorem pu_i {S : HS} {r v : Int32} (h : r = v) : PU S (some (.int r)) (some (.int v)) S := ⟨by rw [h], rfl⟩
theorem pu_l {S : HS} {r v : Int64} (h : r = v) : PU S (some (.long r)) (some (.long v)) S := ⟨by rw [h], rfl⟩
theorem pu_a {S : HS} {r v : Option Nat} (h : r = v) : PU S (some (va_rf r)) (some (va_rf v)) S := ⟨by rw [h], rfl⟩
def sOut (v lo hi : Int32) : Bool := decide (v < lo) || decide (hi < v)
def sIn (set k : Int32) : Bool := decide ((set >>> (k &&& 31)) &&& 1 = 1)
def sMin (x y : Int32) : Int32 := if y < x then y else x
def sMax (x y : Int32) : Int32 := if x < y then y else x
def sHold (v lo hi : Int32) : Int32 := sMax lo (sMin hi v)
def sNear (a b : Int32) : Bool := decide ((if 0 ≤ (a - b) then (a - b) else 0 - (a - b)) ≤ 1)
def sNight (h : Int32) : Bool := decide (18 ≤ h) || decide (h ≤ 5)
theorem ge_of {a b : Int32} : ¬ b < a ↔ a ≤ b := by rw [Int32.not_lt]
theorem sec_ref {p : Prop} (h : p) : p := h
section LX
variable {p : Program} {l : Launch} {e : Env} {R : Room} {s : State} {m : MethodId} {args : Array Value} {below : List Frame} {meth : Method} {c : Code} {H : Heap} {locs : List Loc} {cells slots : Nat} {Q : State → Prop} {cc : ByteArray} {pc : Nat} {ls : Array Slot} {rest : List Value}
theorem lx_aload_n (hexec : p.tables.exec = Jvm.exec) (hb : c.code = cc) {k : Fin 4} {i : Nat} {x : Option Nat} (hdg : decode cc pc = .ok (.aload_n k, 1)) (hi : (k : Nat) = i) (hl : ls[i]? = some (.val (va_rf x))) (kk : W p l e R s m args below meth c H locs cells slots Q (F0 m (pc + 1) ls (va_rf x :: rest))) : W p l e R s m args below meth c H locs cells slots Q (F0 m pc ls rest) := by
  cases x with
  | none => exact lv_aload_nN hexec hb hdg hi hl kk
  | some a => exact lv_aload_n hexec hb hdg hi hl kk
theorem lx_aload (hexec : p.tables.exec = Jvm.exec) (hb : c.code = cc) {i : Nat} {x : Option Nat} (hdg : decode cc pc = .ok (.aload i, 2)) (hl : ls[i]? = some (.val (va_rf x))) (kk : W p l e R s m args below meth c H locs cells slots Q (F0 m (pc + 2) ls (va_rf x :: rest))) : W p l e R s m args below meth c H locs cells slots Q (F0 m pc ls rest) := by
  cases x with
  | none => exact lv_aloadN hexec hb hdg hl kk
  | some a => exact lv_aload hexec hb hdg hl kk
theorem lx_astore_n (hexec : p.tables.exec = Jvm.exec) (hb : c.code = cc) {k : Fin 4} {i nL : Nat} {x : Option Nat} {lv lv' : List (Nat × Value)} (hdg : decode cc pc = .ok (.astore_n k, 1)) (hi : (k : Nat) = i) (h : lv_has ls nL lv) (hn : i < nL) (hl : (i, va_rf x) :: lv.filter (fun q => !(q.1 == i) && !(q.1 + 1 == i && q.2.category == 2)) = lv') (kk : ∀ ls' : Array Slot, lv_has ls' nL lv' → W p l e R s m args below meth c H locs cells slots Q (F0 m (pc + 1) ls' rest)) : W p l e R s m args below meth c H locs cells slots Q (F0 m pc ls (va_rf x :: rest)) := by
  cases x with
  | none => exact lv_astore_nN hexec hb hdg hi h hn hl kk
  | some a => exact lv_astore_n hexec hb hdg hi h hn hl kk
theorem lx_astore (hexec : p.tables.exec = Jvm.exec) (hb : c.code = cc) {i nL : Nat} {x : Option Nat} {lv lv' : List (Nat × Value)} (hdg : decode cc pc = .ok (.astore i, 2)) (h : lv_has ls nL lv) (hn : i < nL) (hl : (i, va_rf x) :: lv.filter (fun q => !(q.1 == i) && !(q.1 + 1 == i && q.2.category == 2)) = lv') (kk : ∀ ls' : Array Slot, lv_has ls' nL lv' → W p l e R s m args below meth c H locs cells slots Q (F0 m (pc + 2) ls' rest)) : W p l e R s m args below meth c H locs cells slots Q (F0 m pc ls (va_rf x :: rest)) := by
  cases x with
  | none => exact lv_astoreN hexec hb hdg h hn hl kk
  | some a => exact lv_astore hexec hb hdg h hn hl kk
end LX
