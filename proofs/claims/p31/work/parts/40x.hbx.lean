/-- a pair by the reference's number s * nm + m; N, and what is above: none -/
def rQ (Q : Nat → Nat → Nat) (nm N a : Nat) : Nat := if a < N then Q (a / nm) (a % nm) else 0
def tkO (f : Nat → Bool) (N a i : Nat) : Nat → Bool := if a < N then tk f i else f
def rFr (Q : Nat → Nat → Nat) (nm N : Nat) (S M : Nat → Bool) (a : Nat) : Prop := a < N → S (a / nm) = false ∧ M (a % nm) = false ∧ 0 < Q (a / nm) (a % nm)
def rMt (nm N a b : Nat) : Prop := a < N ∧ b < N ∧ (a / nm = b / nm ∨ a % nm = b % nm)
def rOk (Q : Nat → Nat → Nat) (nm N a : Nat) : Prop := a < N → 0 < Q (a / nm) (a % nm)
def rVd (Q : Nat → Nat → Nat) (nm N a b c : Nat) : Prop := rOk Q nm N a ∧ rOk Q nm N b ∧ rOk Q nm N c ∧ ¬ rMt nm N a b ∧ ¬ rMt nm N a c ∧ ¬ rMt nm N b c
def rCh (Q : Nat → Nat → Nat) (nm N k : Nat) (S M : Nat → Bool) : Nat := if bCh Q k S M < 40 then bCh Q k S M / 5 * nm + bCh Q k S M % 5 else N
section RCH
variable {Q : Nat → Nat → Nat} {ns nm N k a b c : Nat} {S M : Nat → Bool}
theorem dmn (hm : b < nm) : (a * nm + b) / nm = a ∧ (a * nm + b) % nm = b := by
  have h0 : 0 < nm := by omega
  rw [Nat.add_comm, Nat.mul_comm]
  exact ⟨by rw [Nat.add_mul_div_left _ _ h0, Nat.div_eq_of_lt hm, Nat.zero_add], by rw [Nat.add_mul_mod_self_left, Nat.mod_eq_of_lt hm]⟩
theorem pr_lt (hN : N = ns * nm) (hs : a < ns) (hm : b < nm) : a * nm + b < N := by
  rw [hN]
  have h1 : (a + 1) * nm ≤ ns * nm := Nat.mul_le_mul_right nm hs
  rw [Nat.succ_mul] at h1
  omega
theorem pr_d (hN : N = ns * nm) (h : a < N) : a / nm < ns ∧ a % nm < nm ∧ 0 < nm := by
  rw [hN] at h
  have h0 : 0 < nm := Nat.pos_of_ne_zero (fun z => by rw [z, Nat.mul_zero] at h; exact absurd h (Nat.not_lt_zero _))
  exact ⟨Nat.div_lt_of_lt_mul (by rw [Nat.mul_comm]; exact h), Nat.mod_lt _ h0, h0⟩
/-- a pair that is free, and the greatest sum of what is left, is at most the greatest sum -/
theorem rO_le (hN : N = ns * nm) (h8 : ns ≤ 8) (h5 : nm ≤ 5) (h : rFr Q nm N S M a) : rQ Q nm N a + bG Q k (tkO S N a (a / nm)) (tkO M N a (a % nm)) ≤ bG Q (k + 1) S M := by
  unfold rQ tkO
  by_cases l : a < N
  · obtain ⟨p1, p2, -⟩ := pr_d hN l
    obtain ⟨f1, f2, f3⟩ := h l
    rw [if_pos l, if_pos l, if_pos l]
    have d := dm5 (s := a / nm) (m := a % nm) (by omega)
    have y := bG_p (Q := Q) (S := S) (M := M) (k := k) (q := a / nm * 5 + a % nm) (by omega) ⟨by rw [d.1]; exact f1, by rw [d.2]; exact f2, by rw [d.1, d.2]; exact f3⟩
    rw [d.1, d.2] at y; exact y
  · rw [if_neg l, if_neg l, if_neg l, Nat.zero_add]; exact bG_mono
/-- the choice: free, it reaches the greatest sum, and none ahead of it does -/
theorem rCh_is (hN : N = ns * nm) (h8 : ns ≤ 8) (h5 : nm ≤ 5) (hz : ∀ s m, ¬ (s < ns ∧ m < nm) → Q s m = 0) :
    rCh Q nm N k S M ≤ N ∧ rFr Q nm N S M (rCh Q nm N k S M) ∧ rQ Q nm N (rCh Q nm N k S M) + bG Q k (tkO S N (rCh Q nm N k S M) (rCh Q nm N k S M / nm)) (tkO M N (rCh Q nm N k S M) (rCh Q nm N k S M % nm)) = bG Q (k + 1) S M ∧
    (∀ j, j < rCh Q nm N k S M → rFr Q nm N S M j → rQ Q nm N j + bG Q k (tkO S N j (j / nm)) (tkO M N j (j % nm)) < bG Q (k + 1) S M) ∧
    (rCh Q nm N k S M < N ↔ bCh Q k S M < 40) ∧ (bCh Q k S M < 40 → rCh Q nm N k S M / nm = bCh Q k S M / 5 ∧ rCh Q nm N k S M % nm = bCh Q k S M % 5) := by
  obtain ⟨r1, r2⟩ := bCh_rest (Q := Q) (k := k) (S := S) (M := M)
  have least : ∀ j, j < N → rFr Q nm N S M j → j / nm * 5 + j % nm < bCh Q k S M → rQ Q nm N j + bG Q k (tkO S N j (j / nm)) (tkO M N j (j % nm)) < bG Q (k + 1) S M := fun j hj hf hlt => by
    refine Nat.lt_of_le_of_ne (rO_le hN h8 h5 hf) (fun e => ?_)
    obtain ⟨p1, p2, -⟩ := pr_d hN hj
    have d := dm5 (s := j / nm) (m := j % nm) (by omega)
    obtain ⟨f1, f2, f3⟩ := hf hj
    unfold rQ tkO at e
    rw [if_pos hj, if_pos hj, if_pos hj] at e
    have t : bT Q k S M (bG Q (k + 1) S M) (j / nm * 5 + j % nm) = true := bT_iff.mpr ⟨⟨by rw [d.1]; exact f1, by rw [d.2]; exact f2, by rw [d.1, d.2]; exact f3⟩, by rw [d.1, d.2]; exact e⟩
    have y := bFst_le (p := bT Q k S M (bG Q (k + 1) S M)) 40 40 _ (by omega) t
    have y2 : bCh Q k S M ≤ j / nm * 5 + j % nm := y
    omega
  by_cases l : bCh Q k S M < 40
  · obtain ⟨⟨f1, f2, f3⟩, e⟩ := r1 l
    have q2 : bCh Q k S M / 5 < ns ∧ bCh Q k S M % 5 < nm := Decidable.byContradiction (fun z => by rw [hz _ _ z] at f3; exact absurd f3 (Nat.lt_irrefl _))
    have er : rCh Q nm N k S M = bCh Q k S M / 5 * nm + bCh Q k S M % 5 := if_pos l
    have d := dmn (a := bCh Q k S M / 5) q2.2
    have lN := pr_lt hN q2.1 q2.2
    rw [er]
    refine ⟨Nat.le_of_lt lN, fun _ => by rw [d.1, d.2]; exact ⟨f1, f2, f3⟩, ?_, fun j hj hf => ?_, ⟨fun _ => l, fun _ => lN⟩, fun _ => d⟩
    · unfold rQ tkO
      rw [if_pos lN, if_pos lN, if_pos lN, d.1, d.2]; exact e.symm
    · refine least j (by omega) hf ?_
      obtain ⟨p1, p2, p3⟩ := pr_d hN (show j < N by omega)
      have ej : nm * (j / nm) + j % nm = j := Nat.div_add_mod j nm
      rcases Nat.lt_trichotomy (j / nm) (bCh Q k S M / 5) with z | z | z
      · omega
      · rw [z, Nat.mul_comm] at ej; omega
      · exfalso
        have h1 : (bCh Q k S M / 5 + 1) * nm ≤ j / nm * nm := Nat.mul_le_mul_right nm z
        rw [Nat.succ_mul] at h1
        rw [Nat.mul_comm] at ej
        omega
  · obtain ⟨e40, e⟩ := r2 l
    have er : rCh Q nm N k S M = N := if_neg l
    rw [er]
    refine ⟨Nat.le_refl _, fun z => absurd z (Nat.lt_irrefl _), ?_, fun j hj hf => ?_, ⟨fun z => absurd z (Nat.lt_irrefl _), fun z => absurd z l⟩, fun z => absurd z l⟩
    · unfold rQ tkO
      rw [if_neg (Nat.lt_irrefl _), if_neg (Nat.lt_irrefl _), if_neg (Nat.lt_irrefl _), Nat.zero_add]; exact e.symm
    · obtain ⟨p1, p2, -⟩ := pr_d hN hj
      exact least j hj hf (by omega)
end RCH
theorem tkO_f {f : Nat → Bool} {N a i j : Nat} (h : tkO f N a i j = false) : f j = false ∧ (a < N → ¬ j = i) := by
  unfold tkO at h
  by_cases l : a < N
  · rw [if_pos l] at h; exact ⟨(tk_f h).1, fun _ => (tk_f h).2⟩
  · rw [if_neg l] at h; exact ⟨h, fun z => absurd z l⟩
theorem tkO_n {f : Nat → Bool} {N a i j : Nat} (h : f j = false) (n : a < N → ¬ j = i) : tkO f N a i j = false := by
  unfold tkO
  by_cases l : a < N
  · rw [if_pos l]; exact tk_n h (n l)
  · rw [if_neg l]; exact h
theorem fr_1 {Q : Nat → Nat → Nat} {nm N a : Nat} : rFr Q nm N nF nF a ↔ rOk Q nm N a := ⟨fun h l => (h l).2.2, fun h l => ⟨rfl, rfl, h l⟩⟩
theorem fr_2 {Q : Nat → Nat → Nat} {nm N a b : Nat} {S M : Nat → Bool} : rFr Q nm N (tkO S N a (a / nm)) (tkO M N a (a % nm)) b ↔ rFr Q nm N S M b ∧ ¬ rMt nm N a b := by
  constructor
  · intro h
    refine ⟨fun l => ⟨(tkO_f (h l).1).1, (tkO_f (h l).2.1).1, (h l).2.2⟩, fun ⟨la, lb, z⟩ => ?_⟩
    rcases z with z | z
    · exact (tkO_f (h lb).1).2 la z.symm
    · exact (tkO_f (h lb).2.1).2 la z.symm
  · rintro ⟨h, n⟩ l
    exact ⟨tkO_n (h l).1 (fun la z => n ⟨la, l, Or.inl z.symm⟩), tkO_n (h l).2.1 (fun la z => n ⟨la, l, Or.inr z.symm⟩), (h l).2.2⟩
theorem bS_O {Q : Nat → Nat → Nat} {N k : Nat} {S M f : Nat → Bool} {a : Nat} (h : a < N ↔ bCh Q k S M < 40) {i j : Nat} (e : bCh Q k S M < 40 → i = j) : bS f (bCh Q k S M) j = tkO f N a i := by
  unfold bS tkO
  by_cases l : bCh Q k S M < 40
  · rw [if_pos l, if_pos (h.mpr l), e l]
  · rw [if_neg l, if_neg (fun z => l (h.mp z))]
/-- the triples in their order end at the class's sum and pairs -/
theorem rTri {Q : Nat → Nat → Nat} {ns nm N g ta tb tc : Nat} (hN : N = ns * nm) (h8 : ns ≤ 8) (h5 : nm ≤ 5) (hz : ∀ s m, ¬ (s < ns ∧ m < nm) → Q s m = 0)
    (i1 : ∀ a b c, a ≤ N → b ≤ N → c ≤ N → rVd Q nm N a b c → rQ Q nm N a + rQ Q nm N b + rQ Q nm N c ≤ g)
    (i2 : (g = 0 ∧ ta = N ∧ tb = N ∧ tc = N) ∨ (0 < g ∧ ta ≤ N ∧ tb ≤ N ∧ tc ≤ N ∧ rVd Q nm N ta tb tc ∧ rQ Q nm N ta + rQ Q nm N tb + rQ Q nm N tc = g ∧ ∀ a b c, a ≤ N → b ≤ N → c ≤ N → rVd Q nm N a b c → (a < ta ∨ (a = ta ∧ (b < tb ∨ (b = tb ∧ c < tc)))) → rQ Q nm N a + rQ Q nm N b + rQ Q nm N c < g)) :
    g = bG Q 3 nF nF ∧ ta = rCh Q nm N 2 (bSM Q 0).1 (bSM Q 0).2 ∧ tb = rCh Q nm N 1 (bSM Q 1).1 (bSM Q 1).2 ∧ tc = rCh Q nm N 0 (bSM Q 2).1 (bSM Q 2).2 := by
  obtain ⟨x1, x2, x3, x4, x5, x6⟩ := rCh_is (k := 2) (S := nF) (M := nF) hN h8 h5 hz
  have eS1 : (bSM Q 1).1 = tkO nF N (rCh Q nm N 2 nF nF) (rCh Q nm N 2 nF nF / nm) := bS_O (N := N) x5 (fun l => (x6 l).1)
  have eM1 : (bSM Q 1).2 = tkO nF N (rCh Q nm N 2 nF nF) (rCh Q nm N 2 nF nF % nm) := bS_O (N := N) x5 (fun l => (x6 l).2)
  obtain ⟨y1, y2, y3, y4, y5, y6⟩ := rCh_is (k := 1) (S := (bSM Q 1).1) (M := (bSM Q 1).2) hN h8 h5 hz
  have eS2 : (bSM Q 2).1 = tkO (bSM Q 1).1 N (rCh Q nm N 1 (bSM Q 1).1 (bSM Q 1).2) (rCh Q nm N 1 (bSM Q 1).1 (bSM Q 1).2 / nm) := bS_O (N := N) y5 (fun l => (y6 l).1)
  have eM2 : (bSM Q 2).2 = tkO (bSM Q 1).2 N (rCh Q nm N 1 (bSM Q 1).1 (bSM Q 1).2) (rCh Q nm N 1 (bSM Q 1).1 (bSM Q 1).2 % nm) := bS_O (N := N) y5 (fun l => (y6 l).2)
  obtain ⟨z1, z2, z3, z4, -, -⟩ := rCh_is (k := 0) (S := (bSM Q 2).1) (M := (bSM Q 2).2) hN h8 h5 hz
  show g = bG Q 3 nF nF ∧ ta = rCh Q nm N 2 nF nF ∧ _
  generalize ex : rCh Q nm N 2 nF nF = x at *
  generalize ey : rCh Q nm N 1 (bSM Q 1).1 (bSM Q 1).2 = y at *
  generalize ez : rCh Q nm N 0 (bSM Q 2).1 (bSM Q 2).2 = z at *
  rw [eS1, eM1] at y2 y3 y4
  rw [eS2, eM2, eS1, eM1] at z2 z3 z4
  have g0 : ∀ S M, bG Q 0 S M = 0 := fun _ _ => rfl
  rw [g0, Nat.add_zero] at z3
  simp only [Nat.reduceAdd] at x3 x4 y3 y4 z3 z4
  -- the triple of the choices is valid, and has the greatest sum
  have vx : rOk Q nm N x := fr_1.mp x2
  have vy := fr_2.mp y2
  have vz := fr_2.mp z2
  have vz1 := fr_2.mp vz.1
  have vt : rVd Q nm N x y z := ⟨vx, fr_1.mp vy.1, fr_1.mp vz1.1, vy.2, vz1.2, vz.2⟩
  have sumT : rQ Q nm N x + rQ Q nm N y + rQ Q nm N z = bG Q 3 nF nF := by
    have a1 := x3; have a2 := y3; have a3 := z3
    omega
  have low := i1 x y z x1 y1 z1 vt
  -- a valid triple is at most the greatest, by its first, by its second
  have up3 : ∀ a b c, rVd Q nm N a b c → rQ Q nm N c ≤ bG Q 1 (tkO (tkO nF N a (a / nm)) N b (b / nm)) (tkO (tkO nF N a (a % nm)) N b (b % nm)) := fun a b c v => by
    have f := rO_le (k := 0) hN h8 h5 (fr_2.mpr ⟨fr_2.mpr ⟨fr_1.mpr v.2.2.1, v.2.2.2.2.1⟩, v.2.2.2.2.2⟩)
    rw [g0, Nat.add_zero] at f
    simp only [Nat.reduceAdd] at f
    exact f
  have up2 : ∀ a b c, rVd Q nm N a b c → rQ Q nm N b + rQ Q nm N c ≤ bG Q 2 (tkO nF N a (a / nm)) (tkO nF N a (a % nm)) := fun a b c v => by
    have f := rO_le (k := 1) hN h8 h5 (fr_2.mpr ⟨fr_1.mpr v.2.1, v.2.2.2.1⟩)
    have f3 := up3 a b c v
    simp only [Nat.reduceAdd] at f
    omega
  have up1 : ∀ a b c, rVd Q nm N a b c → rQ Q nm N a + rQ Q nm N b + rQ Q nm N c ≤ bG Q 3 nF nF := fun a b c v => by
    have f := rO_le (k := 2) hN h8 h5 (fr_1.mpr v.1)
    have f2 := up2 a b c v
    simp only [Nat.reduceAdd] at f
    omega
  rcases i2 with ⟨e0, ea, eb, ec⟩ | ⟨gp, la, lb, lc, v, es, ifi⟩
  · -- nothing has a quality
    have none : ∀ a, a ≤ N → rOk Q nm N a → rQ Q nm N a = 0 → a = N := fun a ha hk hq => by
      by_cases l : a < N
      · have := hk l
        unfold rQ at hq
        rw [if_pos l] at hq; omega
      · omega
    have hx := none x x1 vx (by omega)
    have hy := none y y1 vt.2.1 (by omega)
    have hz2 := none z z1 vt.2.2.1 (by omega)
    exact ⟨by omega, by omega, by omega, by omega⟩
  · have hg : g = bG Q 3 nF nF := by have := up1 ta tb tc v; omega
    have nlt : ¬ (x < ta ∨ (x = ta ∧ (y < tb ∨ (y = tb ∧ z < tc)))) := fun l => by
      have := ifi x y z x1 y1 z1 vt l; omega
    have hx : ta = x := by
      by_cases l : ta < x
      · have a := x4 ta l (fr_1.mpr v.1)
        have b := up2 ta tb tc v
        omega
      · by_cases e : ta = x
        · exact e
        · exact absurd (Or.inl (by omega)) nlt
    have hy : tb = y := by
      by_cases l : tb < y
      · have a := y4 tb l (fr_2.mpr ⟨fr_1.mpr v.2.1, by rw [← hx]; exact v.2.2.2.1⟩)
        have b := up3 ta tb tc v
        rw [hx] at b es
        omega
      · by_cases e : tb = y
        · exact e
        · exact absurd (Or.inr ⟨hx.symm, Or.inl (by omega)⟩) nlt
    have hz3 : tc = z := by
      by_cases l : tc < z
      · have a := z4 tc l (fr_2.mpr ⟨fr_2.mpr ⟨fr_1.mpr v.2.2.1, by rw [← hx]; exact v.2.2.2.2.1⟩, by rw [← hy]; exact v.2.2.2.2.2⟩)
        rw [g0, Nat.add_zero] at a
        rw [hx, hy] at es
        omega
      · by_cases e : tc = z
        · exact e
        · exact absurd (Or.inr ⟨hx.symm, Or.inr ⟨hy.symm, by omega⟩⟩) nlt
    exact ⟨hg, hx, hy, hz3⟩

