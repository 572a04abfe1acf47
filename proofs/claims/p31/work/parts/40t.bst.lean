/-! the greatest sum of at most k pairs: Q the qualities, S and M what is taken -/
def tk (f : Nat → Bool) (i : Nat) : Nat → Bool := fun j => f j || decide (j = i)
theorem tk_f {f : Nat → Bool} {i j : Nat} (h : tk f i j = false) : f j = false ∧ ¬ j = i := by
  unfold tk at h
  rw [Bool.or_eq_false_iff] at h
  exact ⟨h.1, of_decide_eq_false h.2⟩
theorem tk_n {f : Nat → Bool} {i j : Nat} (h : f j = false) (n : ¬ j = i) : tk f i j = false := by
  unfold tk
  rw [h, decide_eq_false n]; rfl
theorem tk_s {f : Nat → Bool} {i : Nat} : tk f i i = true := by
  unfold tk
  rw [decide_eq_true rfl, Bool.or_true]
def bMx (f : Nat → Nat) : Nat → Nat
  | 0 => 0
  | n + 1 => max (bMx f n) (f n)
theorem bMx_le {f : Nat → Nat} : ∀ n k, k < n → f k ≤ bMx f n
  | 0, _, h => absurd h (Nat.not_lt_zero _)
  | n + 1, k, h => by
    rcases Nat.lt_succ_iff_lt_or_eq.mp h with h | h
    · exact Nat.le_trans (bMx_le n k h) (Nat.le_max_left _ _)
    · rw [h]; exact Nat.le_max_right _ _
theorem bMx_ex {f : Nat → Nat} : ∀ n, bMx f n = 0 ∨ ∃ k, k < n ∧ bMx f n = f k
  | 0 => Or.inl rfl
  | n + 1 => by
    show max (bMx f n) (f n) = 0 ∨ ∃ k, k < n + 1 ∧ max (bMx f n) (f n) = f k
    rcases Nat.le_total (bMx f n) (f n) with h | h
    · rw [Nat.max_eq_right h]; exact Or.inr ⟨n, Nat.lt_succ_self n, rfl⟩
    · rw [Nat.max_eq_left h]
      exact (bMx_ex n).imp id (fun ⟨k, h1, h2⟩ => ⟨k, Nat.lt_succ_of_lt h1, h2⟩)
/-- a pair that is free, by its number 5 s + m -/
def bF (Q : Nat → Nat → Nat) (S M : Nat → Bool) (q : Nat) : Prop := S (q / 5) = false ∧ M (q % 5) = false ∧ 0 < Q (q / 5) (q % 5)
def bG (Q : Nat → Nat → Nat) : Nat → (Nat → Bool) → (Nat → Bool) → Nat
  | 0, _, _ => 0
  | k + 1, S, M => max (bG Q k S M) (bMx (fun q => if S (q / 5) = false ∧ M (q % 5) = false ∧ 0 < Q (q / 5) (q % 5) then Q (q / 5) (q % 5) + bG Q k (tk S (q / 5)) (tk M (q % 5)) else 0) 40)
section BG
variable {Q : Nat → Nat → Nat} {S M : Nat → Bool} {K k n w v s m q : Nat}
theorem bG_mono : bG Q k S M ≤ bG Q (k + 1) S M := Nat.le_max_left _ _
theorem bG_le : ∀ {j k : Nat}, j ≤ k → bG Q j S M ≤ bG Q k S M
  | j, 0, h => by rw [Nat.le_zero.mp h]; exact Nat.le_refl _
  | j, k + 1, h => by
    rcases Nat.le_succ_iff.mp h with h | h
    · exact Nat.le_trans (bG_le h) bG_mono
    · rw [h]; exact Nat.le_refl _
theorem bG_p (hq : q < 40) (h : bF Q S M q) : Q (q / 5) (q % 5) + bG Q k (tk S (q / 5)) (tk M (q % 5)) ≤ bG Q (k + 1) S M := by
  refine Nat.le_trans ?_ (Nat.le_max_right _ _)
  have y := bMx_le (f := fun q => if S (q / 5) = false ∧ M (q % 5) = false ∧ 0 < Q (q / 5) (q % 5) then Q (q / 5) (q % 5) + bG Q k (tk S (q / 5)) (tk M (q % 5)) else 0) 40 q hq
  refine Nat.le_trans ?_ y
  show _ ≤ (if S (q / 5) = false ∧ M (q % 5) = false ∧ 0 < Q (q / 5) (q % 5) then Q (q / 5) (q % 5) + bG Q k (tk S (q / 5)) (tk M (q % 5)) else 0)
  rw [if_pos (show S (q / 5) = false ∧ M (q % 5) = false ∧ 0 < Q (q / 5) (q % 5) from h)]; exact Nat.le_refl _
/-- it is reached by what is without a further pair, or by a pair -/
theorem bG_ex : bG Q (k + 1) S M = bG Q k S M ∨ ∃ q, q < 40 ∧ bF Q S M q ∧ bG Q (k + 1) S M = Q (q / 5) (q % 5) + bG Q k (tk S (q / 5)) (tk M (q % 5)) := by
  show max (bG Q k S M) (bMx _ 40) = bG Q k S M ∨ _
  rcases Nat.le_total (bMx (fun q => if S (q / 5) = false ∧ M (q % 5) = false ∧ 0 < Q (q / 5) (q % 5) then Q (q / 5) (q % 5) + bG Q k (tk S (q / 5)) (tk M (q % 5)) else 0) 40) (bG Q k S M) with h | h
  · exact Or.inl (Nat.max_eq_left h)
  · rcases bMx_ex (f := fun q => if S (q / 5) = false ∧ M (q % 5) = false ∧ 0 < Q (q / 5) (q % 5) then Q (q / 5) (q % 5) + bG Q k (tk S (q / 5)) (tk M (q % 5)) else 0) 40 with e | ⟨q, hq, e⟩
    · rw [e] at h
      exact Or.inl (Nat.max_eq_left (by rw [e]; exact Nat.zero_le _))
    · by_cases c : S (q / 5) = false ∧ M (q % 5) = false ∧ 0 < Q (q / 5) (q % 5)
      · refine Or.inr ⟨q, hq, c, ?_⟩
        show max (bG Q k S M) (bMx _ 40) = _
        rw [Nat.max_eq_right h, e]
        exact if_pos c
      · have e2 : bMx (fun q => if S (q / 5) = false ∧ M (q % 5) = false ∧ 0 < Q (q / 5) (q % 5) then Q (q / 5) (q % 5) + bG Q k (tk S (q / 5)) (tk M (q % 5)) else 0) 40 = 0 := e.trans (if_neg c)
        exact Or.inl (Nat.max_eq_left (by rw [e2]; exact Nat.zero_le _))
/-! sets of monitors as numbers below 32 -/
def bc (w : Nat) : Nat := (w.testBit 0).toNat + ((w.testBit 1).toNat + ((w.testBit 2).toNat + ((w.testBit 3).toNat + (w.testBit 4).toNat)))
theorem bc_or : ∀ w, w < 32 → ∀ m, m < 5 → w.testBit m = false → bc (w ||| 2 ^ m) = bc w + 1 ∧ w ||| 2 ^ m < 32 ∧ w < w ||| 2 ^ m := by decide +kernel
theorem tb_or : ∀ w, w < 32 → ∀ m, m < 5 → ∀ i, i < 5 → (w ||| 2 ^ m).testBit i = (w.testBit i || decide (i = m)) := by decide +kernel
/-- with the first n stations, the monitors w, the sum v -/
def Rp (Q : Nat → Nat → Nat) (K : Nat) (S M : Nat → Bool) : Nat → Nat → Nat → Prop
  | 0, w, v => w = 0 ∧ v = 0
  | n + 1, w, v => Rp Q K S M n w v ∨ (S n = false ∧ ∃ m w' v', m < 5 ∧ M m = false ∧ 0 < Q n m ∧ w'.testBit m = false ∧ bc w' < K ∧ w = w' ||| 2 ^ m ∧ v = v' + Q n m ∧ Rp Q K S M n w' v')
theorem Rp_lt : ∀ n {w v : Nat}, Rp Q K S M n w v → w < 32 ∧ bc w ≤ K
  | 0, _, _, h => by rw [h.1]; exact ⟨by decide, Nat.zero_le _⟩
  | n + 1, _, _, h => by
    rcases h with h | ⟨-, m, w', v', hm, -, -, ht, hb, rfl, -, h⟩
    · exact Rp_lt n h
    · have a := bc_or w' (Rp_lt n h).1 m hm ht
      exact ⟨a.2.1, by omega⟩
theorem Rp_no (hM : M m = true) (hm : m < 5) : ∀ n {w v : Nat}, Rp Q K S M n w v → w.testBit m = false
  | 0, _, _, h => by rw [h.1]; exact Nat.zero_testBit m
  | n + 1, _, _, h => by
    rcases h with h | ⟨-, m', w', v', hm', hM', -, ht, -, rfl, -, h⟩
    · exact Rp_no hM hm n h
    · have ne : ¬ m = m' := fun z => by rw [z, hM'] at hM; exact absurd hM (by decide)
      rw [tb_or w' (Rp_lt n h).1 m' hm' m hm, Rp_no hM hm n h, decide_eq_false ne]; rfl
theorem Rp_wk : ∀ n {w v : Nat}, Rp Q K (tk S s) (tk M m) n w v → Rp Q K S M n w v
  | 0, _, _, h => h
  | n + 1, _, _, h => by
    rcases h with h | ⟨hS, m', w', v', hm', hM', hq, ht, hb, e1, e2, h⟩
    · exact Or.inl (Rp_wk n h)
    · exact Or.inr ⟨(tk_f hS).1, m', w', v', hm', (tk_f hM').1, hq, ht, hb, e1, e2, Rp_wk n h⟩
theorem Rp_av (hm : m < 5) : ∀ n {w v : Nat}, n ≤ s → w.testBit m = false → Rp Q K S M n w v → Rp Q K (tk S s) (tk M m) n w v
  | 0, _, _, _, _, h => h
  | n + 1, _, _, hs, hw, h => by
    rcases h with h | ⟨hS, m', w', v', hm', hM', hq, ht, hb, rfl, e2, h⟩
    · exact Or.inl (Rp_av hm n (by omega) hw h)
    · rw [tb_or w' (Rp_lt n h).1 m' hm' m hm, Bool.or_eq_false_iff] at hw
      have ne := of_decide_eq_false hw.2
      exact Or.inr ⟨tk_n hS (by omega), m', w', v', hm', tk_n hM' (fun z => ne z.symm), hq, ht, hb, rfl, e2, Rp_av hm n (by omega) hw.1 h⟩
theorem Rp_ins (hm : m < 5) (hS : S s = false) (hM : M m = false) (hq : 0 < Q s m) : ∀ n {w v : Nat}, s < n → bc w < K → Rp Q K (tk S s) (tk M m) n w v → Rp Q K S M n (w ||| 2 ^ m) (v + Q s m)
  | 0, _, _, hs, _, _ => absurd hs (Nat.not_lt_zero _)
  | n + 1, w, v, hs, hb, h => by
    have nt := Rp_no (Q := Q) (K := K) (S := tk S s) (M := tk M m) tk_s hm (n + 1) h
    rcases h with h | ⟨hS', m', w', v', hm', hM', hq', ht, hb', rfl, rfl, h⟩
    · by_cases e : s = n
      · subst e
        exact Or.inr ⟨hS, m, w, v, hm, hM, hq, nt, hb, rfl, rfl, Rp_wk s h⟩
      · exact Or.inl (Rp_ins hm hS hM hq n (by omega) hb h)
    · have e : ¬ n = s := (tk_f hS').2
      have w3 := (Rp_lt n h).1
      have b3 := bc_or w' w3 m' hm' ht
      have ne : ¬ m' = m := (tk_f hM').2
      have nt' := Rp_no (Q := Q) (K := K) (S := tk S s) (M := tk M m) tk_s hm n h
      have b4 := bc_or w' w3 m hm nt'
      refine Or.inr ⟨(tk_f hS').1, m', w' ||| 2 ^ m, v' + Q s m, hm', (tk_f hM').1, hq', ?_, by omega, ?_, by omega, Rp_ins hm hS hM hq n (by omega) (by omega) h⟩
      · rw [tb_or w' w3 m hm m' hm', ht, decide_eq_false ne]; rfl
      · rw [Nat.or_assoc, Nat.or_comm (2 ^ m'), ← Nat.or_assoc]
theorem dm5 (hm : m < 5) : (s * 5 + m) / 5 = s ∧ (s * 5 + m) % 5 = m := by omega
theorem Rp_A : ∀ n {w v : Nat} {S M : Nat → Bool}, n ≤ 8 → Rp Q K S M n w v → v ≤ bG Q (bc w) S M
  | 0, _, _, _, _, _, h => by rw [h.2]; exact Nat.zero_le _
  | n + 1, _, _, S, M, hn, h => by
    rcases h with h | ⟨hS, m, w', v', hm, hM, hq, ht, hb, rfl, rfl, h⟩
    · exact Rp_A n (by omega) h
    · have a := Rp_A n (by omega) (Rp_av (s := n) hm n (Nat.le_refl _) ht h)
      rw [(bc_or w' (Rp_lt n h).1 m hm ht).1]
      have d := dm5 (s := n) hm
      have y := bG_p (Q := Q) (S := S) (M := M) (k := bc w') (q := n * 5 + m) (by omega) ⟨by rw [d.1]; exact hS, by rw [d.2]; exact hM, by rw [d.1, d.2]; exact hq⟩
      rw [d.1, d.2] at y
      omega
theorem Rp_0 : ∀ n, Rp Q K S M n 0 0
  | 0 => ⟨rfl, rfl⟩
  | n + 1 => Or.inl (Rp_0 n)
theorem Rp_B : ∀ k {S M : Nat → Bool}, k ≤ K → ∃ w, Rp Q K S M 8 w (bG Q k S M) ∧ bc w ≤ k
  | 0, _, _, _ => ⟨0, Rp_0 8, Nat.zero_le _⟩
  | k + 1, S, M, hk => by
    rcases bG_ex (Q := Q) (S := S) (M := M) (k := k) with e | ⟨q, hq, ⟨h1, h2, h3⟩, e⟩
    · obtain ⟨w, a, b⟩ := Rp_B k (S := S) (M := M) (by omega)
      exact ⟨w, by rw [e]; exact a, by omega⟩
    · obtain ⟨w, a, b⟩ := Rp_B k (S := tk S (q / 5)) (M := tk M (q % 5)) (by omega)
      have hm : q % 5 < 5 := Nat.mod_lt _ (by decide)
      have nt := Rp_no (Q := Q) (K := K) (S := tk S (q / 5)) (M := tk M (q % 5)) tk_s hm 8 a
      refine ⟨w ||| 2 ^ (q % 5), ?_, by have := (bc_or w (Rp_lt 8 a).1 _ hm nt).1; omega⟩
      rw [e, Nat.add_comm]
      exact Rp_ins hm h1 h2 h3 8 (by omega) (by omega) a
/-- stations of no quality don't matter -/
theorem Rp_ns (h : ∀ s m, n ≤ s → Q s m = 0) : ∀ d {w v : Nat}, Rp Q K S M (n + d) w v → Rp Q K S M n w v
  | 0, _, _, z => z
  | d + 1, _, _, z => by
    rcases z with z | ⟨-, m, w', v', -, -, hq, -⟩
    · exact Rp_ns h d z
    · have hq2 : 0 < Q (n + d) m := hq
      rw [h (n + d) m (by omega)] at hq2; exact absurd hq2 (Nat.lt_irrefl _)
theorem Rp_v (h18 : ∀ s m, Q s m ≤ 18) : ∀ n {w v : Nat}, Rp Q K S M n w v → v ≤ 18 * bc w
  | 0, _, _, h => by rw [h.2]; exact Nat.zero_le _
  | n + 1, _, _, h => by
    rcases h with h | ⟨-, m, w', v', hm, -, -, ht, -, rfl, rfl, h⟩
    · exact Rp_v h18 n h
    · have a := Rp_v h18 n h
      have b := (bc_or w' (Rp_lt n h).1 m hm ht).1
      have c := h18 n m
      omega
end BG
/-- f tells, of each set of monitors, the greatest sum that R reaches with it, or -1 -/
def Chr (f : Nat → Int32) (R : Nat → Nat → Prop) : Prop := ∀ w, w < 32 → (f w = -1 ∧ ∀ v, ¬ R w v) ∨ ∃ v, v ≤ 90 ∧ f w = nI v ∧ R w v ∧ ∀ v', R w v' → v' ≤ v
/-- the greatest of all is bG -/
theorem Chr_max {Q : Nat → Nat → Nat} {K n : Nat} {S M : Nat → Bool} {f : Nat → Int32} (h : Chr f (Rp Q K S M n)) (hn : n ≤ 8) (hz : ∀ s m, n ≤ s → Q s m = 0) : (∀ w, w < 32 → ∀ v, f w = nI v → v ≤ 90 → v ≤ bG Q K S M) ∧ ∃ w, w < 32 ∧ f w = nI (bG Q K S M) ∧ bG Q K S M ≤ 90 := by
  obtain ⟨d, hd⟩ : ∃ d, 8 = n + d := ⟨8 - n, by omega⟩
  refine ⟨fun w hw v ev hv => ?_, ?_⟩
  · rcases h w hw with ⟨e, -⟩ | ⟨v2, h1, h2, h3, -⟩
    · rw [e] at ev; exact absurd ev.symm (nI_neg1 (by omega))
    · have e : v = v2 := (nI_eq (by omega) (by omega)).mp (ev.symm.trans h2)
      rw [e]
      have a := Rp_A (Q := Q) (K := K) n hn h3
      exact Nat.le_trans a (bG_le (Rp_lt n h3).2)
  · obtain ⟨w, a, -⟩ := Rp_B (Q := Q) (K := K) K (S := S) (M := M) (Nat.le_refl _)
    rw [hd] at a
    have a2 := Rp_ns hz d a
    refine ⟨w, (Rp_lt n a2).1, ?_⟩
    rcases h w (Rp_lt n a2).1 with ⟨-, e⟩ | ⟨v2, h1, h2, h3, h4⟩
    · exact absurd a2 (e _)
    · have y1 := h4 _ a2
      have y2 := Nat.le_trans (Rp_A (Q := Q) (K := K) n hn h3) (bG_le (Rp_lt n h3).2)
      have e9 : v2 = bG Q K S M := by omega
      rw [h2, e9]; exact ⟨rfl, by omega⟩

/-! a station more, pair by pair: from the greatest set of monitors down -/
def bP (mn m0 w' m : Nat) : Prop := mn < w' ∨ (w' = mn ∧ m < m0)
def Rq (Q : Nat → Nat → Nat) (K : Nat) (S M : Nat → Bool) (n : Nat) (P : Nat → Nat → Prop) (w v : Nat) : Prop := Rp Q K S M n w v ∨ (S n = false ∧ ∃ m w' v', m < 5 ∧ M m = false ∧ 0 < Q n m ∧ w'.testBit m = false ∧ bc w' < K ∧ w = w' ||| 2 ^ m ∧ v = v' + Q n m ∧ Rp Q K S M n w' v' ∧ P w' m)
theorem Chr_iff {f : Nat → Int32} {R R' : Nat → Nat → Prop} (h : Chr f R) (e : ∀ w v, R w v ↔ R' w v) : Chr f R' := fun w hw => (h w hw).imp (fun ⟨a, b⟩ => ⟨a, fun v z => b v ((e w v).mpr z)⟩) (fun ⟨v, a, b, c, d⟩ => ⟨v, a, b, (e w v).mp c, fun v' z => d v' ((e w v').mpr z)⟩)
section RQ
variable {Q : Nat → Nat → Nat} {S M : Nat → Bool} {K k n w v s m q mn m0 : Nat}
theorem Rq_start : Rp Q K S M n w v ↔ Rq Q K S M n (fun w' _ => 32 ≤ w') w v := ⟨Or.inl, fun h => by
  rcases h with h | ⟨-, m, w', v', -, -, -, -, -, -, -, h, z⟩
  · exact h
  · have := (Rp_lt n h).1; omega⟩
theorem Rq_end (hS : S n = false) : Rq Q K S M n (fun w' _ => 0 ≤ w') w v ↔ Rp Q K S M (n + 1) w v := ⟨fun h => h.imp id (fun ⟨a, m, w', v', h1, h2, h3, h4, h5, h6, h7, h8, _⟩ => ⟨a, m, w', v', h1, h2, h3, h4, h5, h6, h7, h8⟩), fun h => h.imp id (fun ⟨a, m, w', v', h1, h2, h3, h4, h5, h6, h7, h8⟩ => ⟨a, m, w', v', h1, h2, h3, h4, h5, h6, h7, h8, Nat.zero_le _⟩)⟩
theorem Rq_in : Rq Q K S M n (fun w' _ => mn + 1 ≤ w') w v ↔ Rq Q K S M n (bP mn 0) w v := by
  constructor <;> intro h <;> refine h.imp id (fun ⟨a, m, w', v', h1, h2, h3, h4, h5, h6, h7, h8, h9⟩ => ⟨a, m, w', v', h1, h2, h3, h4, h5, h6, h7, h8, ?_⟩)
  · exact Or.inl h9
  · rcases h9 with h9 | h9
    · exact h9
    · exact absurd h9.2 (Nat.not_lt_zero _)
theorem Rq_out : Rq Q K S M n (bP mn 5) w v ↔ Rq Q K S M n (fun w' _ => mn ≤ w') w v := by
  constructor <;> intro h <;> refine h.imp id (fun ⟨a, m, w', v', h1, h2, h3, h4, h5, h6, h7, h8, h9⟩ => ⟨a, m, w', v', h1, h2, h3, h4, h5, h6, h7, h8, ?_⟩)
  · rcases h9 with h9 | h9
    · exact Nat.le_of_lt h9
    · exact Nat.le_of_eq h9.1.symm
  · have h9 : mn ≤ w' := h9
    by_cases c : mn = w'
    · exact Or.inr ⟨c.symm, h1⟩
    · exact Or.inl (by omega)
/-- what isn't reached, or is large enough, adds nothing -/
theorem Rq_skip (h : ¬ (bc mn < K ∧ ∃ v', Rp Q K S M n mn v')) : Rq Q K S M n (fun w' _ => mn + 1 ≤ w') w v ↔ Rq Q K S M n (fun w' _ => mn ≤ w') w v := by
  constructor <;> intro y <;> refine y.imp id (fun ⟨a, m, w', v', h1, h2, h3, h4, h5, h6, h7, h8, h9⟩ => ⟨a, m, w', v', h1, h2, h3, h4, h5, h6, h7, h8, ?_⟩)
  · exact Nat.le_of_succ_le h9
  · have h9 : mn ≤ w' := h9
    by_cases c : mn = w'
    · subst c; exact absurd ⟨h5, v', h8⟩ h
    · show mn + 1 ≤ w'
      omega
theorem Rq_self (h : Rq Q K S M n (bP mn m0) mn v) : Rp Q K S M n mn v := by
  rcases h with h | ⟨-, m, w', v', hm, -, -, ht, -, e, -, h8, h9⟩
  · exact h
  · have a := (bc_or w' (Rp_lt n h8).1 m hm ht).2.2
    rw [← e] at a
    rcases h9 with h9 | h9 <;> omega
theorem Rq_no (h : ¬ (M m0 = false ∧ 0 < Q n m0 ∧ mn.testBit m0 = false ∧ bc mn < K ∧ ∃ v', Rp Q K S M n mn v')) : Rq Q K S M n (bP mn m0) w v ↔ Rq Q K S M n (bP mn (m0 + 1)) w v := by
  constructor <;> intro y <;> refine y.imp id (fun ⟨a, m, w', v', h1, h2, h3, h4, h5, h6, h7, h8, h9⟩ => ⟨a, m, w', v', h1, h2, h3, h4, h5, h6, h7, h8, ?_⟩)
  · exact h9.imp id (fun z => ⟨z.1, by omega⟩)
  · refine h9.imp id (fun z => ⟨z.1, ?_⟩)
    by_cases c : m = m0
    · obtain ⟨z1, -⟩ := z
      subst z1 c
      exact absurd ⟨h2, h3, h4, h5, v', h8⟩ h
    · omega
theorem Rq_yes (hS : S n = false) (hM : M m0 = false) (hq : 0 < Q n m0) (ht : mn.testBit m0 = false) (hb : bc mn < K) (h5' : m0 < 5) : (Rq Q K S M n (bP mn m0) w v ∨ (w = mn ||| 2 ^ m0 ∧ ∃ v', v = v' + Q n m0 ∧ Rp Q K S M n mn v')) ↔ Rq Q K S M n (bP mn (m0 + 1)) w v := by
  constructor
  · intro y
    rcases y with y | ⟨e, v', e2, h⟩
    · exact y.imp id (fun ⟨a, m, w', v', h1, h2, h3, h4, h5, h6, h7, h8, h9⟩ => ⟨a, m, w', v', h1, h2, h3, h4, h5, h6, h7, h8, h9.imp id (fun z => ⟨z.1, by omega⟩)⟩)
    · exact Or.inr ⟨hS, m0, mn, v', h5', hM, hq, ht, hb, e, e2, h, Or.inr ⟨rfl, Nat.lt_succ_self _⟩⟩
  · intro y
    rcases y with y | ⟨a, m, w', v', h1, h2, h3, h4, h5, h6, h7, h8, h9⟩
    · exact Or.inl (Or.inl y)
    · rcases h9 with h9 | ⟨z1, z2⟩
      · exact Or.inl (Or.inr ⟨a, m, w', v', h1, h2, h3, h4, h5, h6, h7, h8, Or.inl h9⟩)
      · by_cases c : m = m0
        · subst z1 c
          exact Or.inr ⟨h6, v', h7, h8⟩
        · exact Or.inl (Or.inr ⟨a, m, w', v', h1, h2, h3, h4, h5, h6, h7, h8, Or.inr ⟨z1, by omega⟩⟩)
end RQ
theorem so_jn {i n : Nat} (hi : i < n) (hn : n ≤ 1000) : sOut (nI i) 0 (nI n - 1) = false := by
  have e : nI n - 1 = nI (n - 1) := pk_sub (a := n) (b := 1) (by omega)
  unfold sOut
  rw [e, decide_eq_false (nI_pos (n := i) (by omega)), decide_eq_false (fun z => by have := (nI_ltI (a := n - 1) (b := i) (by omega) (by omega)).mp z; omega)]; rfl
theorem nI_m1lt {n : Nat} (h : n < 2 ^ 31) : (-1 : Int32) < nI n := by
  rw [Int32.lt_iff_toInt_lt, nI_toInt h]
  have e : (-1 : Int32).toInt = -1 := by decide
  rw [e]; omega
/-- a greater sum is stored -/
theorem Chr_upd {f : Nat → Int32} {R R' T : Nat → Nat → Prop} {w1 v0 q : Nat} {x : Int32} (h : Chr f R) (hw : w1 < 32) (hT : T w1 v0) (hm : ∀ v', T w1 v' → v' ≤ v0) (hv : v0 + q ≤ 90) (hx : x = (if f w1 < nI v0 + nI q then nI v0 + nI q else f w1)) (e : ∀ w v, (R w v ∨ (w = w1 ∧ ∃ v', v = v' + q ∧ T w1 v')) ↔ R' w v) : Chr (upd f w1 x) R' := fun w h32 => by
  by_cases c : w = w1
  · rw [c, upd_s]
    have e9 : nI v0 + nI q = nI (v0 + q) := nI_add _ _
    rw [e9] at hx
    have r2 : R' w1 (v0 + q) := (e w1 _).mp (Or.inr ⟨rfl, v0, rfl, hT⟩)
    rcases h w1 hw with ⟨a, b⟩ | ⟨u, a, b, d, g⟩
    · rw [a, if_pos (nI_m1lt (by omega))] at hx
      refine Or.inr ⟨v0 + q, hv, hx, r2, fun v' z => ?_⟩
      rcases (e w1 v').mpr z with z | ⟨-, v2, z1, z2⟩
      · exact absurd z (b v')
      · have := hm v2 z2; omega
    · rw [b] at hx
      by_cases lt : nI u < nI (v0 + q)
      · have l2 := (nI_ltI (by omega) (by omega)).mp lt
        rw [if_pos lt] at hx
        refine Or.inr ⟨v0 + q, hv, hx, r2, fun v' z => ?_⟩
        rcases (e w1 v').mpr z with z | ⟨-, v2, z1, z2⟩
        · have := g v' z; omega
        · have := hm v2 z2; omega
      · have l2 : v0 + q ≤ u := Nat.le_of_not_lt (fun z => lt ((nI_ltI (by omega) (by omega)).mpr z))
        rw [if_neg lt] at hx
        refine Or.inr ⟨u, a, hx, (e w1 u).mp (Or.inl d), fun v' z => ?_⟩
        rcases (e w1 v').mpr z with z | ⟨-, v2, z1, z2⟩
        · exact g v' z
        · have := hm v2 z2; omega
  · rw [upd_o c]
    have e2 : ∀ v, R w v ↔ R' w v := fun v => ⟨fun z => (e w v).mp (Or.inl z), fun z => ((e w v).mpr z).elim id (fun y => absurd y.1 c)⟩
    exact (h w h32).imp (fun ⟨a, b⟩ => ⟨a, fun v z => b v ((e2 v).mpr z)⟩) (fun ⟨v, a, b, d, g⟩ => ⟨v, a, b, (e2 v).mp d, fun v' z => g v' ((e2 v').mpr z)⟩)
/-! the choice: the smallest pair with which the greatest sum comes about; 40: none -/
def bT (Q : Nat → Nat → Nat) (k : Nat) (S M : Nat → Bool) (rest q : Nat) : Bool := (!(S (q / 5)) && (!(M (q % 5)) && (decide (0 < Q (q / 5) (q % 5)) && decide (Q (q / 5) (q % 5) + bG Q k (tk S (q / 5)) (tk M (q % 5)) = rest))))
theorem bT_iff {Q : Nat → Nat → Nat} {k rest q : Nat} {S M : Nat → Bool} : bT Q k S M rest q = true ↔ bF Q S M q ∧ Q (q / 5) (q % 5) + bG Q k (tk S (q / 5)) (tk M (q % 5)) = rest := by
  unfold bT bF
  simp only [Bool.and_eq_true, Bool.not_eq_true', decide_eq_true_eq, and_assoc]
/-- the smallest below n, or d -/
def bFst (p : Nat → Bool) : Nat → Nat → Nat
  | 0, d => d
  | n + 1, d => bFst p n (if p n = true then n else d)
theorem bFst_no {p : Nat → Bool} : ∀ n d, (∀ q, q < n → p q = false) → bFst p n d = d
  | 0, _, _ => rfl
  | n + 1, d, h => by
    show bFst p n (if p n = true then n else d) = d
    rw [h n (Nat.lt_succ_self n), if_neg (by decide)]
    exact bFst_no n d (fun q hq => h q (Nat.lt_succ_of_lt hq))
theorem bFst_lt {p : Nat → Bool} : ∀ n d, (∃ q, q < n ∧ p q = true) → bFst p n d < n ∧ p (bFst p n d) = true
  | 0, _, ⟨q, h, _⟩ => absurd h (Nat.not_lt_zero _)
  | n + 1, d, ⟨q, h, hp⟩ => by
    show bFst p n (if p n = true then n else d) < n + 1 ∧ p (bFst p n (if p n = true then n else d)) = true
    by_cases c : ∃ q, q < n ∧ p q = true
    · have a := bFst_lt n (if p n = true then n else d) c
      exact ⟨by omega, a.2⟩
    · have e : ∀ x, bFst p n x = x := fun x => bFst_no n x (fun j hj => Bool.eq_false_iff.mpr (fun z => c ⟨j, hj, z⟩))
      have hn : q = n := by
        by_cases z : q = n
        · exact z
        · exact absurd ⟨q, by omega, hp⟩ c
      rw [hn] at hp
      rw [e, if_pos hp]; exact ⟨Nat.lt_succ_self n, hp⟩
theorem bFst_le {p : Nat → Bool} : ∀ n d q, q < n → p q = true → bFst p n d ≤ q
  | 0, _, _, h, _ => absurd h (Nat.not_lt_zero _)
  | n + 1, d, q, h, hp => by
    show bFst p n (if p n = true then n else d) ≤ q
    by_cases c : ∃ j, j < n ∧ p j = true
    · by_cases z : q < n
      · exact bFst_le n _ q z hp
      · have := (bFst_lt n (if p n = true then n else d) c).1; omega
    · have e : ∀ x, bFst p n x = x := fun x => bFst_no n x (fun j hj => Bool.eq_false_iff.mpr (fun z => c ⟨j, hj, z⟩))
      have hn : q = n := by
        by_cases z : q = n
        · exact z
        · exact absurd ⟨q, by omega, hp⟩ c
      rw [hn] at hp
      rw [e, if_pos hp, hn]; exact Nat.le_refl _
/-- what is the smallest is bFst -/
theorem bFst_is {p : Nat → Bool} {q : Nat} (hq : q < 40) (hp : p q = true) (hs : ∀ j, j < q → p j = false) : bFst p 40 40 = q := by
  have a := bFst_le 40 40 q hq hp
  have b := bFst_lt 40 40 ⟨q, hq, hp⟩
  by_cases c : bFst p 40 40 = q
  · exact c
  · have z := hs (bFst p 40 40) (by omega)
    rw [b.2] at z; exact absurd z (by decide)
def bS (f : Nat → Bool) (c i : Nat) : Nat → Bool := if c < 40 then tk f i else f
def bCh (Q : Nat → Nat → Nat) (k : Nat) (S M : Nat → Bool) : Nat := bFst (bT Q k S M (bG Q (k + 1) S M)) 40 40
/-- the rest is the greatest sum of what is left, whether a pair was taken or none -/
theorem bCh_rest {Q : Nat → Nat → Nat} {k : Nat} {S M : Nat → Bool} : (bCh Q k S M < 40 → bF Q S M (bCh Q k S M) ∧ bG Q (k + 1) S M = Q (bCh Q k S M / 5) (bCh Q k S M % 5) + bG Q k (tk S (bCh Q k S M / 5)) (tk M (bCh Q k S M % 5))) ∧ (¬ bCh Q k S M < 40 → bCh Q k S M = 40 ∧ bG Q (k + 1) S M = bG Q k S M) := by
  by_cases c : ∃ q, q < 40 ∧ bT Q k S M (bG Q (k + 1) S M) q = true
  · have a := bFst_lt 40 40 c
    have b := bT_iff.mp a.2
    exact ⟨fun _ => ⟨b.1, b.2.symm⟩, fun z => absurd a.1 z⟩
  · have e : bCh Q k S M = 40 := bFst_no 40 40 (fun j hj => Bool.eq_false_iff.mpr (fun z => c ⟨j, hj, z⟩))
    refine ⟨fun z => by omega, fun _ => ⟨e, ?_⟩⟩
    rcases bG_ex (Q := Q) (S := S) (M := M) (k := k) with z | ⟨q, hq, hf, z⟩
    · exact z
    · exact absurd ⟨q, hq, bT_iff.mpr ⟨hf, z.symm⟩⟩ c
def nF : Nat → Bool := fun _ => false
/-- what is taken ahead of the k-th set of the best shift, and its pair -/
def bSM (Q : Nat → Nat → Nat) : Nat → (Nat → Bool) × (Nat → Bool)
  | 0 => (nF, nF)
  | k + 1 => (bS (bSM Q k).1 (bCh Q (2 - k) (bSM Q k).1 (bSM Q k).2) (bCh Q (2 - k) (bSM Q k).1 (bSM Q k).2 / 5), bS (bSM Q k).2 (bCh Q (2 - k) (bSM Q k).1 (bSM Q k).2) (bCh Q (2 - k) (bSM Q k).1 (bSM Q k).2 % 5))
def bCk (Q : Nat → Nat → Nat) (k : Nat) : Nat := bCh Q (2 - k) (bSM Q k).1 (bSM Q k).2
theorem bG_18 {Q : Nat → Nat → Nat} (h18 : ∀ s m, Q s m ≤ 18) : ∀ k (S M : Nat → Bool), bG Q k S M ≤ 18 * k
  | 0, _, _ => Nat.le_refl _
  | k + 1, S, M => by
    rcases bG_ex (Q := Q) (S := S) (M := M) (k := k) with e | ⟨q, -, -, e⟩
    · have := bG_18 h18 k S M; omega
    · have a := bG_18 h18 k (tk S (q / 5)) (tk M (q % 5))
      have b := h18 (q / 5) (q % 5)
      omega
def rC (c : Nat) : Int32 := if c < 40 then nI c else -1

