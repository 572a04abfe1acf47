def cntB (p : Nat → Bool) : Nat → Nat
  | 0 => 0
  | n + 1 => cntB p n + (if p n = true then 1 else 0)
theorem cntB_le (p : Nat → Bool) : ∀ n, cntB p n ≤ n
  | 0 => Nat.le_refl _
  | n + 1 => by
    have := cntB_le p n
    show cntB p n + _ ≤ n + 1
    split <;> omega
theorem cntB_mono {p q : Nat → Bool} : ∀ n, (∀ j, j < n → p j = true → q j = true) → cntB p n ≤ cntB q n
  | 0, _ => Nat.le_refl _
  | n + 1, h => by
    have h1 := cntB_mono n (fun j hj => h j (Nat.lt_succ_of_lt hj))
    have h2 := h n (Nat.lt_succ_self n)
    show cntB p n + _ ≤ cntB q n + _
    by_cases hp : p n = true
    · rw [if_pos hp, if_pos (h2 hp)]; omega
    · rw [if_neg hp]; omega
theorem cntB_lt {p q : Nat → Bool} : ∀ n, (∀ j, j < n → p j = true → q j = true) → ∀ k, k < n → p k = false → q k = true → cntB p n + 1 ≤ cntB q n
  | 0, _, k, hk, _, _ => absurd hk (Nat.not_lt_zero k)
  | n + 1, h, k, hk, h1, h2 => by
    show cntB p n + _ + 1 ≤ cntB q n + _
    rcases Nat.lt_succ_iff_lt_or_eq.mp hk with hk | rfl
    · have h3 := cntB_lt n (fun j hj => h j (Nat.lt_succ_of_lt hj)) k hk h1 h2
      by_cases hp : p n = true
      · rw [if_pos hp, if_pos (h n (Nat.lt_succ_self n) hp)]; omega
      · rw [if_neg hp]; omega
    · have h3 := cntB_mono k (fun j hj => h j (Nat.lt_succ_of_lt hj))
      rw [if_neg (by rw [h1]; exact Bool.false_ne_true), if_pos h2]; omega
/-- talk j has a report that is sent, and a print -/
def pOut (S : HS) (j : Nat) : Bool := decide (mR S 152 j ≠ none) && (decide (mI S 104 j = 1) && decide (mI S 151 j ≠ -1))

/-- the class, with ns stations, nj jammers, nm monitors, nt talks, nr readers, nc corrections -/
def CI (ea : Nat) (S : HS) (ns nj nm nt nr nc : Nat) : Prop :=
  (vV S 10 0) ∧
  (mR S 160 0 = some (gG S 0 0)) ∧
  (mR S 161 0 = some (gG S 7 0)) ∧
  (mR S 162 0 = some (gG S 4 0)) ∧
  (mR S 163 0 = some (gG S 2 0)) ∧
  (vV S 0 0) ∧
  (mR S 0 0 = some (gG S 17 0)) ∧
  (mR S 1 0 = some (gG S 17 1)) ∧
  (vV S 7 0) ∧
  (mR S 112 0 = some (gG S 0 0)) ∧
  (mR S 113 0 = some (gG S 17 2)) ∧
  (mR S 114 0 = some (gG S 32 0)) ∧
  (mR S 115 0 = some (gG S 32 1)) ∧
  (vV S 4 0) ∧
  (mR S 64 0 = some (gG S 17 3)) ∧
  (mR S 65 0 = some (gG S 17 4)) ∧
  (mR S 66 0 = some (gG S 17 5)) ∧
  (vV S 2 0) ∧
  (mR S 32 0 = some (gG S 0 0)) ∧
  (mR S 33 0 = some (gG S 7 0)) ∧
  (mR S 34 0 = some (gG S 32 2)) ∧
  (mR S 35 0 = some (gG S 32 3)) ∧
  (mR S 36 0 = some (gG S 32 4)) ∧
  (vV S 32 0 ∧ mN S 32 0 = 72) ∧
  (vV S 32 1 ∧ mN S 32 1 = 72) ∧
  (vV S 32 2 ∧ mN S 32 2 = 40) ∧
  (vV S 32 3 ∧ mN S 32 3 = 32) ∧
  (vV S 32 4 ∧ mN S 32 4 = 3) ∧
  (LsOk ea S 0 ns) ∧
  (LsOk ea S 1 nj) ∧
  (LsOk ea S 2 nm) ∧
  (LsOk ea S 3 nt) ∧
  (LsOk ea S 4 nr) ∧
  (LsOk ea S 5 nc) ∧
  (ns ≤ 8) ∧
  (nj ≤ 6) ∧
  (nm ≤ 5) ∧
  (nt ≤ 40) ∧
  (nr ≤ 4) ∧
  (nc ≤ 40) ∧
  (∀ j, j < ns → mB S 30 0 j = some (gG S 8 j) ∧ vV S 8 j) ∧
  (∀ j, j < nj → mB S 30 1 j = some (gG S 1 j) ∧ vV S 1 j) ∧
  (∀ j, j < nm → mB S 30 2 j = some (gG S 3 j) ∧ vV S 3 j) ∧
  (∀ j, j < nt → mB S 30 3 j = some (gG S 9 j) ∧ vV S 9 j) ∧
  (∀ j, j < nr → mB S 30 4 j = some (gG S 5 j) ∧ vV S 5 j) ∧
  (∀ j, j < nc → ∃ i, i < nt ∧ mB S 30 5 j = some (gG S 9 i)) ∧
  (∀ j, j < nt → ∃ i, i < ns ∧ mR S 145 j = some (gG S 8 i)) ∧
  (∀ j, j < nt → mR S 152 j = none ∨ (mR S 152 j = some (gG S 6 j) ∧ vV S 6 j)) ∧
  (∀ j, j < ns → ∃ g, g < 5 ∧ mI S 133 j = nI g) ∧
  (∃ g, g ≤ 720 ∧ mI S 164 0 = nI g) ∧
  (∀ j, j < nt → ∃ g, g < 720 ∧ mI S 146 j = nI g) ∧
  (∀ j, j < nt → ∃ g, g ≤ 300 ∧ mI S 148 j = nI g) ∧
  (∀ j, j < nt → ¬ (mR S 152 j ≠ none ∧ mI S 97 j < 0)) ∧
  (∃ g, g ≤ nc ∧ mI S 67 0 = nI g) ∧
  (¬ mI S 69 0 < 0) ∧
  (∀ j, j < ns → mI S 128 j = nI j) ∧
  (∀ j, j < nm → mI S 48 j = nI j) ∧
  (∀ j, j < nt → mI S 144 j = nI j) ∧
  (∀ j, j < nr → mI S 80 j = nI j) ∧
  (∀ j, ns ≤ j → ¬ vV S 8 j) ∧
  (∀ j, nj ≤ j → ¬ vV S 1 j) ∧
  (∀ j, nm ≤ j → ¬ vV S 3 j) ∧
  (∀ j, nt ≤ j → ¬ vV S 9 j) ∧
  (∀ j, nr ≤ j → ¬ vV S 5 j) ∧
  (∀ j, nt ≤ j → ¬ vV S 6 j) ∧
  ((ns = 0 → ¬ vV S 30 0) ∧ (nj = 0 → ¬ vV S 30 1) ∧ (nm = 0 → ¬ vV S 30 2) ∧ (nt = 0 → ¬ vV S 30 3) ∧ (nr = 0 → ¬ vV S 30 4) ∧ (nc = 0 → ¬ vV S 30 5)) ∧
  (∀ k, ¬ vV S 31 k) ∧
  (nc ≤ cntB (pOut S) nt)
theorem CI.v10 {ea : Nat} {S : HS} {ns nj nm nt nr nc : Nat} (h : CI ea S ns nj nm nt nr nc) : vV S 10 0 := h.1
theorem CI.f160 {ea : Nat} {S : HS} {ns nj nm nt nr nc : Nat} (h : CI ea S ns nj nm nt nr nc) : mR S 160 0 = some (gG S 0 0) := h.2.1
theorem CI.f161 {ea : Nat} {S : HS} {ns nj nm nt nr nc : Nat} (h : CI ea S ns nj nm nt nr nc) : mR S 161 0 = some (gG S 7 0) := h.2.2.1
theorem CI.f162 {ea : Nat} {S : HS} {ns nj nm nt nr nc : Nat} (h : CI ea S ns nj nm nt nr nc) : mR S 162 0 = some (gG S 4 0) := h.2.2.2.1
theorem CI.f163 {ea : Nat} {S : HS} {ns nj nm nt nr nc : Nat} (h : CI ea S ns nj nm nt nr nc) : mR S 163 0 = some (gG S 2 0) := h.2.2.2.2.1
theorem CI.v0 {ea : Nat} {S : HS} {ns nj nm nt nr nc : Nat} (h : CI ea S ns nj nm nt nr nc) : vV S 0 0 := h.2.2.2.2.2.1
theorem CI.f0 {ea : Nat} {S : HS} {ns nj nm nt nr nc : Nat} (h : CI ea S ns nj nm nt nr nc) : mR S 0 0 = some (gG S 17 0) := h.2.2.2.2.2.2.1
theorem CI.f1 {ea : Nat} {S : HS} {ns nj nm nt nr nc : Nat} (h : CI ea S ns nj nm nt nr nc) : mR S 1 0 = some (gG S 17 1) := h.2.2.2.2.2.2.2.1
theorem CI.v7 {ea : Nat} {S : HS} {ns nj nm nt nr nc : Nat} (h : CI ea S ns nj nm nt nr nc) : vV S 7 0 := h.2.2.2.2.2.2.2.2.1
theorem CI.f112 {ea : Nat} {S : HS} {ns nj nm nt nr nc : Nat} (h : CI ea S ns nj nm nt nr nc) : mR S 112 0 = some (gG S 0 0) := h.2.2.2.2.2.2.2.2.2.1
theorem CI.f113 {ea : Nat} {S : HS} {ns nj nm nt nr nc : Nat} (h : CI ea S ns nj nm nt nr nc) : mR S 113 0 = some (gG S 17 2) := h.2.2.2.2.2.2.2.2.2.2.1
theorem CI.f114 {ea : Nat} {S : HS} {ns nj nm nt nr nc : Nat} (h : CI ea S ns nj nm nt nr nc) : mR S 114 0 = some (gG S 32 0) := h.2.2.2.2.2.2.2.2.2.2.2.1
theorem CI.f115 {ea : Nat} {S : HS} {ns nj nm nt nr nc : Nat} (h : CI ea S ns nj nm nt nr nc) : mR S 115 0 = some (gG S 32 1) := h.2.2.2.2.2.2.2.2.2.2.2.2.1
theorem CI.v4 {ea : Nat} {S : HS} {ns nj nm nt nr nc : Nat} (h : CI ea S ns nj nm nt nr nc) : vV S 4 0 := h.2.2.2.2.2.2.2.2.2.2.2.2.2.1
theorem CI.f64 {ea : Nat} {S : HS} {ns nj nm nt nr nc : Nat} (h : CI ea S ns nj nm nt nr nc) : mR S 64 0 = some (gG S 17 3) := h.2.2.2.2.2.2.2.2.2.2.2.2.2.2.1
theorem CI.f65 {ea : Nat} {S : HS} {ns nj nm nt nr nc : Nat} (h : CI ea S ns nj nm nt nr nc) : mR S 65 0 = some (gG S 17 4) := h.2.2.2.2.2.2.2.2.2.2.2.2.2.2.2.1
theorem CI.f66 {ea : Nat} {S : HS} {ns nj nm nt nr nc : Nat} (h : CI ea S ns nj nm nt nr nc) : mR S 66 0 = some (gG S 17 5) := h.2.2.2.2.2.2.2.2.2.2.2.2.2.2.2.2.1
theorem CI.v2 {ea : Nat} {S : HS} {ns nj nm nt nr nc : Nat} (h : CI ea S ns nj nm nt nr nc) : vV S 2 0 := h.2.2.2.2.2.2.2.2.2.2.2.2.2.2.2.2.2.1
theorem CI.f32 {ea : Nat} {S : HS} {ns nj nm nt nr nc : Nat} (h : CI ea S ns nj nm nt nr nc) : mR S 32 0 = some (gG S 0 0) := h.2.2.2.2.2.2.2.2.2.2.2.2.2.2.2.2.2.2.1
theorem CI.f33 {ea : Nat} {S : HS} {ns nj nm nt nr nc : Nat} (h : CI ea S ns nj nm nt nr nc) : mR S 33 0 = some (gG S 7 0) := h.2.2.2.2.2.2.2.2.2.2.2.2.2.2.2.2.2.2.2.1
theorem CI.f34 {ea : Nat} {S : HS} {ns nj nm nt nr nc : Nat} (h : CI ea S ns nj nm nt nr nc) : mR S 34 0 = some (gG S 32 2) := h.2.2.2.2.2.2.2.2.2.2.2.2.2.2.2.2.2.2.2.2.1
theorem CI.f35 {ea : Nat} {S : HS} {ns nj nm nt nr nc : Nat} (h : CI ea S ns nj nm nt nr nc) : mR S 35 0 = some (gG S 32 3) := h.2.2.2.2.2.2.2.2.2.2.2.2.2.2.2.2.2.2.2.2.2.1
theorem CI.f36 {ea : Nat} {S : HS} {ns nj nm nt nr nc : Nat} (h : CI ea S ns nj nm nt nr nc) : mR S 36 0 = some (gG S 32 4) := h.2.2.2.2.2.2.2.2.2.2.2.2.2.2.2.2.2.2.2.2.2.2.1
theorem CI.a0 {ea : Nat} {S : HS} {ns nj nm nt nr nc : Nat} (h : CI ea S ns nj nm nt nr nc) : vV S 32 0 ∧ mN S 32 0 = 72 := h.2.2.2.2.2.2.2.2.2.2.2.2.2.2.2.2.2.2.2.2.2.2.2.1
theorem CI.a1 {ea : Nat} {S : HS} {ns nj nm nt nr nc : Nat} (h : CI ea S ns nj nm nt nr nc) : vV S 32 1 ∧ mN S 32 1 = 72 := h.2.2.2.2.2.2.2.2.2.2.2.2.2.2.2.2.2.2.2.2.2.2.2.2.1
theorem CI.a2 {ea : Nat} {S : HS} {ns nj nm nt nr nc : Nat} (h : CI ea S ns nj nm nt nr nc) : vV S 32 2 ∧ mN S 32 2 = 40 := h.2.2.2.2.2.2.2.2.2.2.2.2.2.2.2.2.2.2.2.2.2.2.2.2.2.1
theorem CI.a3 {ea : Nat} {S : HS} {ns nj nm nt nr nc : Nat} (h : CI ea S ns nj nm nt nr nc) : vV S 32 3 ∧ mN S 32 3 = 32 := h.2.2.2.2.2.2.2.2.2.2.2.2.2.2.2.2.2.2.2.2.2.2.2.2.2.2.1
theorem CI.a4 {ea : Nat} {S : HS} {ns nj nm nt nr nc : Nat} (h : CI ea S ns nj nm nt nr nc) : vV S 32 4 ∧ mN S 32 4 = 3 := h.2.2.2.2.2.2.2.2.2.2.2.2.2.2.2.2.2.2.2.2.2.2.2.2.2.2.2.1
theorem CI.l_st {ea : Nat} {S : HS} {ns nj nm nt nr nc : Nat} (h : CI ea S ns nj nm nt nr nc) : LsOk ea S 0 ns := h.2.2.2.2.2.2.2.2.2.2.2.2.2.2.2.2.2.2.2.2.2.2.2.2.2.2.2.2.1
theorem CI.l_jm {ea : Nat} {S : HS} {ns nj nm nt nr nc : Nat} (h : CI ea S ns nj nm nt nr nc) : LsOk ea S 1 nj := h.2.2.2.2.2.2.2.2.2.2.2.2.2.2.2.2.2.2.2.2.2.2.2.2.2.2.2.2.2.1
theorem CI.l_mo {ea : Nat} {S : HS} {ns nj nm nt nr nc : Nat} (h : CI ea S ns nj nm nt nr nc) : LsOk ea S 2 nm := h.2.2.2.2.2.2.2.2.2.2.2.2.2.2.2.2.2.2.2.2.2.2.2.2.2.2.2.2.2.2.1
theorem CI.l_ta {ea : Nat} {S : HS} {ns nj nm nt nr nc : Nat} (h : CI ea S ns nj nm nt nr nc) : LsOk ea S 3 nt := h.2.2.2.2.2.2.2.2.2.2.2.2.2.2.2.2.2.2.2.2.2.2.2.2.2.2.2.2.2.2.2.1
theorem CI.l_re {ea : Nat} {S : HS} {ns nj nm nt nr nc : Nat} (h : CI ea S ns nj nm nt nr nc) : LsOk ea S 4 nr := h.2.2.2.2.2.2.2.2.2.2.2.2.2.2.2.2.2.2.2.2.2.2.2.2.2.2.2.2.2.2.2.2.1
theorem CI.l_co {ea : Nat} {S : HS} {ns nj nm nt nr nc : Nat} (h : CI ea S ns nj nm nt nr nc) : LsOk ea S 5 nc := h.2.2.2.2.2.2.2.2.2.2.2.2.2.2.2.2.2.2.2.2.2.2.2.2.2.2.2.2.2.2.2.2.2.1
theorem CI.b_st {ea : Nat} {S : HS} {ns nj nm nt nr nc : Nat} (h : CI ea S ns nj nm nt nr nc) : ns ≤ 8 := h.2.2.2.2.2.2.2.2.2.2.2.2.2.2.2.2.2.2.2.2.2.2.2.2.2.2.2.2.2.2.2.2.2.2.1
theorem CI.b_jm {ea : Nat} {S : HS} {ns nj nm nt nr nc : Nat} (h : CI ea S ns nj nm nt nr nc) : nj ≤ 6 := h.2.2.2.2.2.2.2.2.2.2.2.2.2.2.2.2.2.2.2.2.2.2.2.2.2.2.2.2.2.2.2.2.2.2.2.1
theorem CI.b_mo {ea : Nat} {S : HS} {ns nj nm nt nr nc : Nat} (h : CI ea S ns nj nm nt nr nc) : nm ≤ 5 := h.2.2.2.2.2.2.2.2.2.2.2.2.2.2.2.2.2.2.2.2.2.2.2.2.2.2.2.2.2.2.2.2.2.2.2.2.1
theorem CI.b_ta {ea : Nat} {S : HS} {ns nj nm nt nr nc : Nat} (h : CI ea S ns nj nm nt nr nc) : nt ≤ 40 := h.2.2.2.2.2.2.2.2.2.2.2.2.2.2.2.2.2.2.2.2.2.2.2.2.2.2.2.2.2.2.2.2.2.2.2.2.2.1
theorem CI.b_re {ea : Nat} {S : HS} {ns nj nm nt nr nc : Nat} (h : CI ea S ns nj nm nt nr nc) : nr ≤ 4 := h.2.2.2.2.2.2.2.2.2.2.2.2.2.2.2.2.2.2.2.2.2.2.2.2.2.2.2.2.2.2.2.2.2.2.2.2.2.2.1
theorem CI.b_co {ea : Nat} {S : HS} {ns nj nm nt nr nc : Nat} (h : CI ea S ns nj nm nt nr nc) : nc ≤ 40 := h.2.2.2.2.2.2.2.2.2.2.2.2.2.2.2.2.2.2.2.2.2.2.2.2.2.2.2.2.2.2.2.2.2.2.2.2.2.2.2.1
theorem CI.e_st {ea : Nat} {S : HS} {ns nj nm nt nr nc : Nat} (h : CI ea S ns nj nm nt nr nc) : ∀ j, j < ns → mB S 30 0 j = some (gG S 8 j) ∧ vV S 8 j := h.2.2.2.2.2.2.2.2.2.2.2.2.2.2.2.2.2.2.2.2.2.2.2.2.2.2.2.2.2.2.2.2.2.2.2.2.2.2.2.2.1
theorem CI.e_jm {ea : Nat} {S : HS} {ns nj nm nt nr nc : Nat} (h : CI ea S ns nj nm nt nr nc) : ∀ j, j < nj → mB S 30 1 j = some (gG S 1 j) ∧ vV S 1 j := h.2.2.2.2.2.2.2.2.2.2.2.2.2.2.2.2.2.2.2.2.2.2.2.2.2.2.2.2.2.2.2.2.2.2.2.2.2.2.2.2.2.1
theorem CI.e_mo {ea : Nat} {S : HS} {ns nj nm nt nr nc : Nat} (h : CI ea S ns nj nm nt nr nc) : ∀ j, j < nm → mB S 30 2 j = some (gG S 3 j) ∧ vV S 3 j := h.2.2.2.2.2.2.2.2.2.2.2.2.2.2.2.2.2.2.2.2.2.2.2.2.2.2.2.2.2.2.2.2.2.2.2.2.2.2.2.2.2.2.1
theorem CI.e_ta {ea : Nat} {S : HS} {ns nj nm nt nr nc : Nat} (h : CI ea S ns nj nm nt nr nc) : ∀ j, j < nt → mB S 30 3 j = some (gG S 9 j) ∧ vV S 9 j := h.2.2.2.2.2.2.2.2.2.2.2.2.2.2.2.2.2.2.2.2.2.2.2.2.2.2.2.2.2.2.2.2.2.2.2.2.2.2.2.2.2.2.2.1
theorem CI.e_re {ea : Nat} {S : HS} {ns nj nm nt nr nc : Nat} (h : CI ea S ns nj nm nt nr nc) : ∀ j, j < nr → mB S 30 4 j = some (gG S 5 j) ∧ vV S 5 j := h.2.2.2.2.2.2.2.2.2.2.2.2.2.2.2.2.2.2.2.2.2.2.2.2.2.2.2.2.2.2.2.2.2.2.2.2.2.2.2.2.2.2.2.2.1
theorem CI.e_co {ea : Nat} {S : HS} {ns nj nm nt nr nc : Nat} (h : CI ea S ns nj nm nt nr nc) : ∀ j, j < nc → ∃ i, i < nt ∧ mB S 30 5 j = some (gG S 9 i) := h.2.2.2.2.2.2.2.2.2.2.2.2.2.2.2.2.2.2.2.2.2.2.2.2.2.2.2.2.2.2.2.2.2.2.2.2.2.2.2.2.2.2.2.2.2.1
theorem CI.t_st {ea : Nat} {S : HS} {ns nj nm nt nr nc : Nat} (h : CI ea S ns nj nm nt nr nc) : ∀ j, j < nt → ∃ i, i < ns ∧ mR S 145 j = some (gG S 8 i) := h.2.2.2.2.2.2.2.2.2.2.2.2.2.2.2.2.2.2.2.2.2.2.2.2.2.2.2.2.2.2.2.2.2.2.2.2.2.2.2.2.2.2.2.2.2.2.1
theorem CI.t_rp {ea : Nat} {S : HS} {ns nj nm nt nr nc : Nat} (h : CI ea S ns nj nm nt nr nc) : ∀ j, j < nt → mR S 152 j = none ∨ (mR S 152 j = some (gG S 6 j) ∧ vV S 6 j) := h.2.2.2.2.2.2.2.2.2.2.2.2.2.2.2.2.2.2.2.2.2.2.2.2.2.2.2.2.2.2.2.2.2.2.2.2.2.2.2.2.2.2.2.2.2.2.2.1
theorem CI.x_to {ea : Nat} {S : HS} {ns nj nm nt nr nc : Nat} (h : CI ea S ns nj nm nt nr nc) : ∀ j, j < ns → ∃ g, g < 5 ∧ mI S 133 j = nI g := h.2.2.2.2.2.2.2.2.2.2.2.2.2.2.2.2.2.2.2.2.2.2.2.2.2.2.2.2.2.2.2.2.2.2.2.2.2.2.2.2.2.2.2.2.2.2.2.2.1
theorem CI.x_ho {ea : Nat} {S : HS} {ns nj nm nt nr nc : Nat} (h : CI ea S ns nj nm nt nr nc) : ∃ g, g ≤ 720 ∧ mI S 164 0 = nI g := h.2.2.2.2.2.2.2.2.2.2.2.2.2.2.2.2.2.2.2.2.2.2.2.2.2.2.2.2.2.2.2.2.2.2.2.2.2.2.2.2.2.2.2.2.2.2.2.2.2.1
theorem CI.x_th {ea : Nat} {S : HS} {ns nj nm nt nr nc : Nat} (h : CI ea S ns nj nm nt nr nc) : ∀ j, j < nt → ∃ g, g < 720 ∧ mI S 146 j = nI g := h.2.2.2.2.2.2.2.2.2.2.2.2.2.2.2.2.2.2.2.2.2.2.2.2.2.2.2.2.2.2.2.2.2.2.2.2.2.2.2.2.2.2.2.2.2.2.2.2.2.2.1
theorem CI.x_tw {ea : Nat} {S : HS} {ns nj nm nt nr nc : Nat} (h : CI ea S ns nj nm nt nr nc) : ∀ j, j < nt → ∃ g, g ≤ 300 ∧ mI S 148 j = nI g := h.2.2.2.2.2.2.2.2.2.2.2.2.2.2.2.2.2.2.2.2.2.2.2.2.2.2.2.2.2.2.2.2.2.2.2.2.2.2.2.2.2.2.2.2.2.2.2.2.2.2.2.1
theorem CI.x_rl {ea : Nat} {S : HS} {ns nj nm nt nr nc : Nat} (h : CI ea S ns nj nm nt nr nc) : ∀ j, j < nt → ¬ (mR S 152 j ≠ none ∧ mI S 97 j < 0) := h.2.2.2.2.2.2.2.2.2.2.2.2.2.2.2.2.2.2.2.2.2.2.2.2.2.2.2.2.2.2.2.2.2.2.2.2.2.2.2.2.2.2.2.2.2.2.2.2.2.2.2.2.1
theorem CI.x_cs {ea : Nat} {S : HS} {ns nj nm nt nr nc : Nat} (h : CI ea S ns nj nm nt nr nc) : ∃ g, g ≤ nc ∧ mI S 67 0 = nI g := h.2.2.2.2.2.2.2.2.2.2.2.2.2.2.2.2.2.2.2.2.2.2.2.2.2.2.2.2.2.2.2.2.2.2.2.2.2.2.2.2.2.2.2.2.2.2.2.2.2.2.2.2.2.1
theorem CI.x_wl {ea : Nat} {S : HS} {ns nj nm nt nr nc : Nat} (h : CI ea S ns nj nm nt nr nc) : ¬ mI S 69 0 < 0 := h.2.2.2.2.2.2.2.2.2.2.2.2.2.2.2.2.2.2.2.2.2.2.2.2.2.2.2.2.2.2.2.2.2.2.2.2.2.2.2.2.2.2.2.2.2.2.2.2.2.2.2.2.2.2.1
theorem CI.n_st {ea : Nat} {S : HS} {ns nj nm nt nr nc : Nat} (h : CI ea S ns nj nm nt nr nc) : ∀ j, j < ns → mI S 128 j = nI j := h.2.2.2.2.2.2.2.2.2.2.2.2.2.2.2.2.2.2.2.2.2.2.2.2.2.2.2.2.2.2.2.2.2.2.2.2.2.2.2.2.2.2.2.2.2.2.2.2.2.2.2.2.2.2.2.1
theorem CI.n_mo {ea : Nat} {S : HS} {ns nj nm nt nr nc : Nat} (h : CI ea S ns nj nm nt nr nc) : ∀ j, j < nm → mI S 48 j = nI j := h.2.2.2.2.2.2.2.2.2.2.2.2.2.2.2.2.2.2.2.2.2.2.2.2.2.2.2.2.2.2.2.2.2.2.2.2.2.2.2.2.2.2.2.2.2.2.2.2.2.2.2.2.2.2.2.2.1
theorem CI.n_ta {ea : Nat} {S : HS} {ns nj nm nt nr nc : Nat} (h : CI ea S ns nj nm nt nr nc) : ∀ j, j < nt → mI S 144 j = nI j := h.2.2.2.2.2.2.2.2.2.2.2.2.2.2.2.2.2.2.2.2.2.2.2.2.2.2.2.2.2.2.2.2.2.2.2.2.2.2.2.2.2.2.2.2.2.2.2.2.2.2.2.2.2.2.2.2.2.1
theorem CI.n_re {ea : Nat} {S : HS} {ns nj nm nt nr nc : Nat} (h : CI ea S ns nj nm nt nr nc) : ∀ j, j < nr → mI S 80 j = nI j := h.2.2.2.2.2.2.2.2.2.2.2.2.2.2.2.2.2.2.2.2.2.2.2.2.2.2.2.2.2.2.2.2.2.2.2.2.2.2.2.2.2.2.2.2.2.2.2.2.2.2.2.2.2.2.2.2.2.2.1
theorem CI.z_st {ea : Nat} {S : HS} {ns nj nm nt nr nc : Nat} (h : CI ea S ns nj nm nt nr nc) : ∀ j, ns ≤ j → ¬ vV S 8 j := h.2.2.2.2.2.2.2.2.2.2.2.2.2.2.2.2.2.2.2.2.2.2.2.2.2.2.2.2.2.2.2.2.2.2.2.2.2.2.2.2.2.2.2.2.2.2.2.2.2.2.2.2.2.2.2.2.2.2.2.1
theorem CI.z_jm {ea : Nat} {S : HS} {ns nj nm nt nr nc : Nat} (h : CI ea S ns nj nm nt nr nc) : ∀ j, nj ≤ j → ¬ vV S 1 j := h.2.2.2.2.2.2.2.2.2.2.2.2.2.2.2.2.2.2.2.2.2.2.2.2.2.2.2.2.2.2.2.2.2.2.2.2.2.2.2.2.2.2.2.2.2.2.2.2.2.2.2.2.2.2.2.2.2.2.2.2.1
theorem CI.z_mo {ea : Nat} {S : HS} {ns nj nm nt nr nc : Nat} (h : CI ea S ns nj nm nt nr nc) : ∀ j, nm ≤ j → ¬ vV S 3 j := h.2.2.2.2.2.2.2.2.2.2.2.2.2.2.2.2.2.2.2.2.2.2.2.2.2.2.2.2.2.2.2.2.2.2.2.2.2.2.2.2.2.2.2.2.2.2.2.2.2.2.2.2.2.2.2.2.2.2.2.2.2.1
theorem CI.z_ta {ea : Nat} {S : HS} {ns nj nm nt nr nc : Nat} (h : CI ea S ns nj nm nt nr nc) : ∀ j, nt ≤ j → ¬ vV S 9 j := h.2.2.2.2.2.2.2.2.2.2.2.2.2.2.2.2.2.2.2.2.2.2.2.2.2.2.2.2.2.2.2.2.2.2.2.2.2.2.2.2.2.2.2.2.2.2.2.2.2.2.2.2.2.2.2.2.2.2.2.2.2.2.1
theorem CI.z_re {ea : Nat} {S : HS} {ns nj nm nt nr nc : Nat} (h : CI ea S ns nj nm nt nr nc) : ∀ j, nr ≤ j → ¬ vV S 5 j := h.2.2.2.2.2.2.2.2.2.2.2.2.2.2.2.2.2.2.2.2.2.2.2.2.2.2.2.2.2.2.2.2.2.2.2.2.2.2.2.2.2.2.2.2.2.2.2.2.2.2.2.2.2.2.2.2.2.2.2.2.2.2.2.1
theorem CI.z_rp {ea : Nat} {S : HS} {ns nj nm nt nr nc : Nat} (h : CI ea S ns nj nm nt nr nc) : ∀ j, nt ≤ j → ¬ vV S 6 j := h.2.2.2.2.2.2.2.2.2.2.2.2.2.2.2.2.2.2.2.2.2.2.2.2.2.2.2.2.2.2.2.2.2.2.2.2.2.2.2.2.2.2.2.2.2.2.2.2.2.2.2.2.2.2.2.2.2.2.2.2.2.2.2.2.1
theorem CI.z30 {ea : Nat} {S : HS} {ns nj nm nt nr nc : Nat} (h : CI ea S ns nj nm nt nr nc) : (ns = 0 → ¬ vV S 30 0) ∧ (nj = 0 → ¬ vV S 30 1) ∧ (nm = 0 → ¬ vV S 30 2) ∧ (nt = 0 → ¬ vV S 30 3) ∧ (nr = 0 → ¬ vV S 30 4) ∧ (nc = 0 → ¬ vV S 30 5) := h.2.2.2.2.2.2.2.2.2.2.2.2.2.2.2.2.2.2.2.2.2.2.2.2.2.2.2.2.2.2.2.2.2.2.2.2.2.2.2.2.2.2.2.2.2.2.2.2.2.2.2.2.2.2.2.2.2.2.2.2.2.2.2.2.2.1
theorem CI.z31 {ea : Nat} {S : HS} {ns nj nm nt nr nc : Nat} (h : CI ea S ns nj nm nt nr nc) : ∀ k, ¬ vV S 31 k := h.2.2.2.2.2.2.2.2.2.2.2.2.2.2.2.2.2.2.2.2.2.2.2.2.2.2.2.2.2.2.2.2.2.2.2.2.2.2.2.2.2.2.2.2.2.2.2.2.2.2.2.2.2.2.2.2.2.2.2.2.2.2.2.2.2.2.1
theorem CI.x_co {ea : Nat} {S : HS} {ns nj nm nt nr nc : Nat} (h : CI ea S ns nj nm nt nr nc) : nc ≤ cntB (pOut S) nt := h.2.2.2.2.2.2.2.2.2.2.2.2.2.2.2.2.2.2.2.2.2.2.2.2.2.2.2.2.2.2.2.2.2.2.2.2.2.2.2.2.2.2.2.2.2.2.2.2.2.2.2.2.2.2.2.2.2.2.2.2.2.2.2.2.2.2.2
/-- of a list, by a number: null or the element of that number -/
def AtP (S : HS) (t n : Nat) (k : Int32) : Option Value → HS → Prop := fun v S' => ((some .null = v ∧ sOut k 0 (nI n - 1) = true) ∨ ∃ j, j < n ∧ k = nI j ∧ some (.ref (gG S t j)) = v) ∧ S = S'
theorem at_null {S : HS} {t n : Nat} {k : Int32} (h : sOut k 0 (nI n - 1) = true) : AtP S t n k (some (va_rf none)) S := ⟨Or.inl ⟨rfl, h⟩, rfl⟩
theorem at_some {S : HS} {t n j : Nat} {k : Int32} (hj : j < n) (hk : k = nI j) : AtP S t n k (some (va_rf (some (gG S t j)))) S := ⟨Or.inr ⟨j, hj, hk, rfl⟩, rfl⟩
theorem out_in {k : Int32} {n : Nat} (hn : n < 2 ^ 31) (h : sOut k 0 (nI n - 1) = false) : ∃ j, j < n ∧ k = nI j := by
  unfold sOut at h
  rw [Bool.or_eq_false_iff] at h
  have h1 : ¬ k < 0 := of_decide_eq_false h.1
  have h2 : ¬ nI n - 1 < k := of_decide_eq_false h.2
  obtain ⟨j, hj, rfl⟩ := nI_of h1
  rcases Nat.eq_zero_or_pos n with rfl | hp
  · exfalso
    have e : (nI 0 - 1 : Int32) = -1 := by decide
    rw [e] at h2
    apply h2
    rw [Int32.lt_iff_toInt_lt, nI_toInt hj]
    have : (-1 : Int32).toInt = -1 := by decide
    omega
  · have e : nI n - 1 = nI (n - 1) := pk_sub (a := n) (b := 1) hp
    rw [e] at h2
    have h3 : j ≤ n - 1 := Nat.le_of_not_lt (fun z => h2 ((nI_ltI (by omega) hj).mpr z))
    exact ⟨j, by omega, rfl⟩

/-- it returns a number from 0 to b, and the state is as it was -/
def PXb (S : HS) (b : Nat) : Option Value → HS → Prop := fun v S' => (∃ g : Nat, g ≤ b ∧ some (.int (nI g)) = v) ∧ S = S'
theorem px_b {S : HS} {b g : Nat} (h : g ≤ b) : PXb S b (some (.int (nI g))) S := ⟨⟨g, h, rfl⟩, rfl⟩
theorem px_b0 {S : HS} {b : Nat} : PXb S b (some (.int 0)) S := px_b (Nat.zero_le b)
theorem px_hold {S : HS} {x : Int32} : PXb S 18 (some (.int (sHold x 0 18))) S := by
  have m : sMin 18 x ≤ 18 := by
    unfold sMin
    by_cases z : x < 18
    · rw [if_pos z]; exact Int32.le_of_lt z
    · rw [if_neg z]; exact Int32.le_refl _
  have h0 : ¬ sHold x 0 18 < 0 := by
    unfold sHold sMax
    by_cases z : 0 < sMin 18 x
    · rw [if_pos z]; exact fun y => absurd (Int32.lt_trans z y) (by decide)
    · rw [if_neg z]; decide
  have h1 : sHold x 0 18 ≤ 18 := by
    unfold sHold sMax
    by_cases z : 0 < sMin 18 x
    · rw [if_pos z]; exact m
    · rw [if_neg z]; decide
  obtain ⟨g, hg, e⟩ := nI_of h0
  rw [e]
  rw [e] at h1
  exact px_b ((nI_leI (a := g) (b := 18) hg (by decide)).mp h1)
/-- it returns whether .., and where it's so talk j has a report that is sent, and a print -/
def PXe (S : HS) (j : Nat) : Option Value → HS → Prop := fun v S' => (∃ b : Bool, some (.int (b2i b)) = v ∧ (b = true → pOut S j = true)) ∧ S = S'
theorem pxe {S : HS} {j : Nat} {x : Int32} (h : x = 0 ∨ x = 1) (hp : x = 1 → pOut S j = true) : PXe S j (some (.int x)) S := by
  rcases h with rfl | rfl
  · exact ⟨⟨false, rfl, fun z => absurd z Bool.false_ne_true⟩, rfl⟩
  · exact ⟨⟨true, rfl, fun _ => hp rfl⟩, rfl⟩

