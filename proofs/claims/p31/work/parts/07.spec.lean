/-! small words of the specification -/
def b2i (b : Bool) : Int32 := if b = true then 1 else 0
theorem b2i_01 (b : Bool) : b2i b = 0 ∨ b2i b = 1 := by cases b <;> decide
theorem b2i_t {b : Bool} (h : ¬ b2i b = 0) : b = true := by cases b <;> simp_all [b2i]
theorem b2i_f {b : Bool} (h : b2i b = 0) : b = false := by cases b <;> simp_all [b2i]
theorem b2i_1 {b : Bool} (h : b = true) : b2i b = 1 := by rw [h]; rfl
theorem b2i_0 {b : Bool} (h : b = false) : b2i b = 0 := by rw [h]; rfl
/-- it returns r, and the state is as it was -/
def PU (S : HS) (r : Option Value) : Option Value → HS → Prop := fun v S' => r = v ∧ S = S'
theorem pu_i {S : HS} {r v : Int32} (h : r = v) : PU S (some (.int r)) (some (.int v)) S := ⟨by rw [h], rfl⟩
theorem pu_l {S : HS} {r v : Int64} (h : r = v) : PU S (some (.long r)) (some (.long v)) S := ⟨by rw [h], rfl⟩
theorem pu_a {S : HS} {r v : Option Nat} (h : r = v) : PU S (some (va_rf r)) (some (va_rf v)) S := ⟨by rw [h], rfl⟩
def sOut (v lo hi : Int32) : Bool := decide (v < lo) || decide (hi < v)
def sIn (set k : Int32) : Bool := decide ((set >>> (k &&& 31)) &&& 1 = 1)
def sMin (x y : Int32) : Int32 := if y < x then y else x
def sMax (x y : Int32) : Int32 := if x < y then y else x
def sHold (v lo hi : Int32) : Int32 := sMax lo (sMin hi v)
def sNear (a b : Int32) : Bool := decide ((if 0 ≤ (a - b) then (a - b) else 0 - (a - b)) ≤ 1)
def sNight (h : Int32) : Bool := decide (18 ≤ h) || decide (h ≤ 5)
section LX
variable {p : Program} {l : Launch} {e : Env} {R : Room} {s : State} {m : MethodId} {args : Array Value} {below : List Frame} {meth : Method} {c : Code} {H : Heap} {locs : List Loc} {cells slots : Nat} {Q : State → Prop} {cc : ByteArray} {pc : Nat} {ls : Array Slot} {rest : List Value}
end LX

