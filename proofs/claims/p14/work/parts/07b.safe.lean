/-- it returns some number (boolean, long, double), and the state is as it was -/
def PXi (S : HS) : Option Value → HS → Prop := fun v S' => (∃ x : Int32, some (.int x) = v) ∧ S = S'
def PXz (S : HS) : Option Value → HS → Prop := fun v S' => (∃ b : Bool, some (.int (b2i b)) = v) ∧ S = S'
def PXl (S : HS) : Option Value → HS → Prop := fun v S' => (∃ x : Int64, some (.long x) = v) ∧ S = S'
def PXd (S : HS) : Option Value → HS → Prop := fun v S' => (∃ x : UInt64, some (.double x) = v) ∧ S = S'
theorem px_i {S : HS} {x : Int32} : PXi S (some (.int x)) S := ⟨⟨x, rfl⟩, rfl⟩
theorem px_z {S : HS} {b : Bool} : PXz S (some (.int (b2i b))) S := ⟨⟨b, rfl⟩, rfl⟩
theorem px_z01 {S : HS} {x : Int32} (h : x = 0 ∨ x = 1) : PXz S (some (.int x)) S := by
  rcases h with rfl | rfl
  · exact px_z (b := false)
  · exact px_z (b := true)
theorem px_l {S : HS} {x : Int64} : PXl S (some (.long x)) S := ⟨⟨x, rfl⟩, rfl⟩
theorem px_d {S : HS} {x : UInt64} : PXd S (some (.double x)) S := ⟨⟨x, rfl⟩, rfl⟩
theorem b2i_zo (b : Bool) : b2i b = 0 ∨ b2i b = 1 := b2i_01 b
