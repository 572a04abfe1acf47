/-- each report stands as one of five -/
def STR (A : HS) (nt : Nat) : Prop := ∀ j, j < nt → mI A 247 j = -1 ∨ ∃ g, g < 5 ∧ mI A 247 j = nI g
