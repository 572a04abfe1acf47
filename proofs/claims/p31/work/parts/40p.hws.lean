theorem seT_o {A : HS} {nr g j f : Nat} (h1 : ¬ f = 253) (h2 : ¬ f = 247) (h3 : ¬ f = 251) (h4 : ¬ f = 252) (h5 : ¬ f = 261) (h6 : ¬ f = 258) (i : Nat) : mI (seT A nr g j) f i = mI A f i := by
  unfold seT
  rw [enA_I h1, goS_I]
  unfold seT0
  exact (up2_n (fun y => h6 y.1)).trans ((up2_n (fun y => h5 y.1)).trans ((up2_n (fun y => h4 y.1)).trans ((up2_n (fun y => h3 y.1)).trans (up2_n (fun y => h2 y.1)))))
/-- Q is A, but for what is sent in Q -/
def GH (A Q : HS) (ns nm nt : Nat) : Prop := (∀ j, mI Q 241 j = mI A 241 j) ∧ (∀ j, mI Q 243 j = mI A 243 j) ∧ (∀ j, mI Q 244 j = mI A 244 j) ∧ (∀ j, mI Q 248 j = mI A 248 j) ∧ AOK Q ns nm nt ∧ AQ2 Q nt
theorem GH.rf {A : HS} {ns nm nt : Nat} {w9 : Int32} (h : AOK A ns nm nt) (q : AQ2 A nt) : GH A (sI A 258 0 w9) ns nm nt := ⟨fun _ => rfl, fun _ => rfl, fun _ => rfl, fun _ => rfl, h, q⟩
theorem GH.send {A Q : HS} {ns nm nt nr g k : Nat} (h : GH A Q ns nm nt) (hk : k < nt) (hz : mI Q 247 k = 0) : GH A (seT Q nr g k) ns nm nt := by
  have e8 := seT_o (A := Q) (nr := nr) (g := g) (j := k) (f := 248) (by decide) (by decide) (by decide) (by decide) (by decide) (by decide)
  have e0 := seT_o (A := Q) (nr := nr) (g := g) (j := k) (f := 250) (by decide) (by decide) (by decide) (by decide) (by decide) (by decide)
  have e1 := seT_o (A := Q) (nr := nr) (g := g) (j := k) (f := 241) (by decide) (by decide) (by decide) (by decide) (by decide) (by decide)
  have e3 := seT_o (A := Q) (nr := nr) (g := g) (j := k) (f := 243) (by decide) (by decide) (by decide) (by decide) (by decide) (by decide)
  have e4 := seT_o (A := Q) (nr := nr) (g := g) (j := k) (f := 244) (by decide) (by decide) (by decide) (by decide) (by decide) (by decide)
  obtain ⟨h1, h2, h3, h4, h5, h6⟩ := h
  refine ⟨fun j => (e1 j).trans (h1 j), fun j => (e3 j).trans (h2 j), fun j => (e4 j).trans (h3 j), fun j => (e8 j).trans (h4 j), AOK.pic h5 km_seT (fun j hj => ?_), fun j hj z => ?_⟩
  · rw [seT_247, e8, e0]
    by_cases c : j = k
    · rw [if_pos c]
      exact Or.inr ((h5.2.2.2 j hj).resolve_left (fun z => by rw [c, hz] at z; exact absurd z (by decide)))
    · rw [if_neg c]; exact h5.2.2.2 j hj
  · rw [seT_247] at z
    by_cases c : j = k
    · rw [if_pos c] at z; exact absurd z (by decide)
    · rw [if_neg c] at z; rw [e4]; exact h6 j hj z
/-- what the class has not come to is in Q as in A -/
def UN (A Q : HS) (nt kw k : Nat) : Prop := ∀ j, j < nt → ∀ w, w ≤ 9 → mI A 244 j = nI w → ¬ (kw < w ∨ (w = kw ∧ j < k)) → mI Q 247 j = mI A 247 j
theorem UN.step {A Q : HS} {nt kw k : Nat} (h : UN A Q nt kw k) : UN A Q nt kw (k + 1) := fun j hj w hw ew c => h j hj w hw ew (fun z => c (z.imp id (fun y => ⟨y.1, by omega⟩)))
theorem UN.send {A Q : HS} {nt nr g kw k : Nat} (h : UN A Q nt kw k) (hkw : kw ≤ 9) (e : mI A 244 k = nI kw) : UN A (seT Q nr g k) nt kw (k + 1) := fun j hj w hw ew c => by
  rw [seT_247]
  by_cases d : j = k
  · exfalso
    rw [d, e] at ew
    have := (nI_eq (by omega) (by omega)).mp ew
    exact c (Or.inr ⟨this.symm, by omega⟩)
  · rw [if_neg d]; exact h j hj w hw ew (fun z => c (z.imp id (fun y => ⟨y.1, by omega⟩)))
theorem UN.out {A Q : HS} {nt kw k : Nat} (h : UN A Q nt kw k) (hk : nt ≤ k) (h1 : 1 ≤ kw) : UN A Q nt (kw - 1) 0 := fun j hj w hw ew c => h j hj w hw ew (fun z => c (by omega))
