/-- it returns some number (boolean, long, double), and the state is as it was -/
def PXi (S : HS) : Option Value → HS → Prop := fun v S' => (∃ x : Int32, some (.int x) = v) ∧ S = S'
def PXz (S : HS) : Option Value → HS → Prop := fun v S' => (∃ b : Bool, some (.int (b2i b)) = v) ∧ S = S'
def PXl (S : HS) : Option Value → HS → Prop := fun v S' => (∃ x : Int64, some (.long x) = v) ∧ S = S'
theorem px_i {S : HS} {x : Int32} : PXi S (some (.int x)) S := ⟨⟨x, rfl⟩, rfl⟩
theorem px_z {S : HS} {b : Bool} : PXz S (some (.int (b2i b))) S := ⟨⟨b, rfl⟩, rfl⟩
theorem px_z01 {S : HS} {x : Int32} (h : x = 0 ∨ x = 1) : PXz S (some (.int x)) S := by
  rcases h with rfl | rfl
  · exact px_z (b := false)
  · exact px_z (b := true)
theorem px_l {S : HS} {x : Int64} : PXl S (some (.long x)) S := ⟨⟨x, rfl⟩, rfl⟩
section
variable {p : Program} {l : Launch} {e : Env} {R : Room} {s : State} {m : MethodId} {args : Array Value} {below : List Frame} {meth : Method} {c : Code} {H : Heap} {locs : List Loc} {cells slots : Nat} {Q : State → Prop} {cc : ByteArray} {pc nL : Nat} {ls : Array Slot} {rest : List Value} {s0 : State} {D : va_G} {cy : Nat → ClassId} {S S' : HS} {own : String} {ret : Option FieldType} {post : Option Value → HS → Prop} {mc ms : Nat}
theorem rD {v : UInt64} (X : Cx s0 l D cy p s m args meth c cc nL own ret) (w : Wd s0 D cy S' s.heap H locs) (hr : ret = some .double) (hdg : decode cc pc = .ok (.dreturn, 1)) (hc : cells ≤ mc) (hs : slots ≤ ms) (hp : post (some (.double v)) S') : W p l e R s m args below meth c H locs cells slots (MQ below (GQ s0 D cy post) args s mc ms (A0 s0)) (F0 m pc ls [.double v]) :=
  W.widen hc hs (W.dret X.1 X.2.1 (X.2.2.2.2.2.1.trans hr) (fun _ ht _ => ⟨⟨_, S', rfl, hp, by rw [ht]; exact w.1⟩, w.2.F ht⟩) w.2.2.2 hdg X.2.2.2.2.2.2.1)
end
/-- it returns a double that is a number -/
def PXn (S : HS) : Option Value → HS → Prop := fun v S' => (∃ x : UInt64, some (.double x) = v ∧ FP.Core.dIsNaN x = false) ∧ S = S'
theorem n64_of {a : UInt64} (h : FP.Core.dIsNaN a = false) : vf_n64 a := by
  have h1 : ¬ (9218868437227405312 < a.toNat % 2 ^ 63) := fun z => by
    rw [(FP.Core.isNaN_bits a).mpr z] at h
    exact Bool.false_ne_true h.symm
  unfold vf_n64
  rw [UInt64.le_iff_toNat_le, UInt64.toNat_and]
  have e : (0x7fffffffffffffff : UInt64).toNat = 2 ^ 63 - 1 := by decide
  rw [e, Nat.and_two_pow_sub_one_eq_mod]
  exact Nat.le_of_not_lt h1
theorem nan_div (x : Int32) {y : Int32} (h : ¬ y = 0) : FP.Core.dIsNaN (FP.ddiv (FP.i2d x) (FP.i2d y)) = false :=
  FP.Core.ddiv_out ((FP.Core.notNaN_iff _).mpr (by obtain ⟨s, c, q, e⟩ := FP.Core.i2d_fin x; rw [e]; exact fun z => by cases z)) (FP.Core.i2d_fin y) (fun z => FP.Core.i2d_ne_zero h ((FP.Core.zero_bits2 _).mp z))
theorem nan_mul {x : UInt64} (h : FP.Core.dIsNaN x = false) : FP.Core.dIsNaN (FP.dmul 4634204016564240384 x) = false := by
  show FP.Core.dIsNaN (FP.Core.dmul _ x) = false
  rw [FP.Core.dmul_comm]
  exact FP.Core.dmul_out' h ((FP.Core.fin_bits _).mpr (by decide)) (fun z => absurd ((FP.Core.zero_bits2 _).mp z) (by decide))
theorem px_n {S : HS} {x : UInt64} (h : FP.Core.dIsNaN x = false) : PXn S (some (.double x)) S := ⟨⟨x, rfl, h⟩, rfl⟩

