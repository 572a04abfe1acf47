theorem rSetOf_pic {A B : HS} {x : Nat} {m : Int32} (k : KM A B) : rSetOf B x m = rSetOf A x m := by
  unfold rSetOf
  rw [show mA B 37 x = mA A 37 x from (k.1 37 x rfl).2.2.2.2]
theorem tiL_o {A : HS} {x : Nat} : ∀ n m, n ≤ m → mI (tiL A x n) 193 m = mI A 193 m ∧ mI (tiL A x n) 194 m = mI A 194 m
  | 0, m, _ => ⟨rfl, rfl⟩
  | n + 1, m, h => by
    have z := tiL_o (A := A) (x := x) n m (by omega)
    have e : ¬ m = n := by omega
    exact ⟨Eq.trans (sI_o (S := tiL A x n) (f := 193) e) z.1, Eq.trans (sI_o (S := sI (tiL A x n) 193 n (rHold (mI A 193 n + (if rSetOf A x (nI n) = -1 then -2 else 3)) 0 40)) (f := 194) e) z.2⟩
theorem tiL_T {A : HS} {x k : Nat} (e : rSetOf A x (nI k) = -1) : tiL A x (k + 1) = sI (sI (tiL A x k) 193 k (sHold (mI (tiL A x k) 193 k + (-2)) 0 40)) 194 k (mI (tiL A x k) 194 k + 0) := by
  show sI (sI (tiL A x k) 193 k (rHold (mI A 193 k + (if rSetOf A x (nI k) = -1 then -2 else 3)) 0 40)) 194 k (mI A 194 k + (if rSetOf A x (nI k) = -1 then 0 else 1)) = _
  rw [if_pos e, if_pos e, (tiL_o k k (Nat.le_refl k)).1, (tiL_o k k (Nat.le_refl k)).2, hold_eq (by decide)]
theorem tiL_F {A : HS} {x k : Nat} (e : ¬ rSetOf A x (nI k) = -1) : tiL A x (k + 1) = sI (sI (tiL A x k) 193 k (sHold (mI (tiL A x k) 193 k + 3) 0 40)) 194 k (mI (tiL A x k) 194 k + 1) := by
  show sI (sI (tiL A x k) 193 k (rHold (mI A 193 k + (if rSetOf A x (nI k) = -1 then -2 else 3)) 0 40)) 194 k (mI A 194 k + (if rSetOf A x (nI k) = -1 then 0 else 1)) = _
  rw [if_neg e, if_neg e, (tiL_o k k (Nat.le_refl k)).1, (tiL_o k k (Nat.le_refl k)).2, hold_eq (by decide)]
theorem stL_o {A : HS} {g : Nat} : ∀ n m, n ≤ m → mI (stL A g n) 247 m = mI A 247 m
  | 0, m, _ => rfl
  | n + 1, m, h => by
    have e : ¬ m = n := by omega
    show mI (if stG A g n = true then sI (stL A g n) 247 n 2 else stL A g n) 247 m = _
    split
    · rw [sI_o e]; exact stL_o n m (by omega)
    · exact stL_o n m (by omega)
theorem stG_L {A : HS} {g k : Nat} : stG (stL A g k) g k = stG A g k := by
  unfold stG
  rw [stL_o k k (Nat.le_refl k), show mI (stL A g k) 241 k = mI A 241 k from (km_stL k).I rfl]
theorem stG_f1 {A : HS} {g k : Nat} (e : ¬ mI A 247 k = 0) : stG A g k = false := by
  unfold stG
  rw [decide_eq_false e, Bool.false_and]
theorem stG_f2 {A : HS} {g k : Nat} (e : decide (24 ≤ nI g - mI A 241 k) = false) : stG A g k = false := by
  unfold stG
  rw [e, Bool.and_false]
theorem stG_t {A : HS} {g k : Nat} (e1 : mI A 247 k = 0) (e2 : decide (24 ≤ nI g - mI A 241 k) = true) : stG A g k = true := by
  unfold stG
  rw [e2, decide_eq_true e1]; rfl
theorem stL_f {A : HS} {g k : Nat} (e : stG (stL A g k) g k = false) : stL A g (k + 1) = stL A g k := if_neg (by rw [← stG_L, e]; decide)
theorem stL_t {A : HS} {g k : Nat} (e : stG (stL A g k) g k = true) : stL A g (k + 1) = sI (stL A g k) 247 k 2 := if_pos (by rw [← stG_L, e])
/-! the corrections -/
theorem coL_q {A : HS} {nr : Nat} : ∀ n, qN (coL A nr n) = qN A
  | 0 => rfl
  | n + 1 => by
    show mN (goT _ _ nr) 60 0 = _
    rw [goT_N]; exact coL_q n
theorem coL_60 {A : HS} {nr : Nat} : ∀ n, mA (coL A nr n) 60 0 = mA A 60 0
  | 0 => rfl
  | n + 1 => by
    show mA (goT _ _ nr) 60 0 = _
    rw [goT_A (by decide)]; exact coL_60 n
theorem coA_eq {A : HS} {nr : Nat} : coA A nr = sQ (coL A nr (coN A)) (qN (coL A nr (coN A)) - coN A) (fun i => mA (coL A nr (coN A)) 60 0 (i + coN A)) := by
  unfold coA
  rw [coL_q, coL_60]
theorem co_258 {A : HS} {nr w : Nat} (h : mI A 258 0 = nI w) : ∀ n, 10 * n ≤ w → mI (coL A nr n) 258 0 = nI (w - 10 * n)
  | 0, _ => h
  | n + 1, hn => by
    show mI (goT (sI (sI (coL A nr n) 258 0 (mI (coL A nr n) 258 0 - 10)) 253 (qT A n) 2) (qT A n) nr) 258 0 = _
    rw [goT_I]
    show mI (coL A nr n) 258 0 - 10 = _
    rw [co_258 h n (by omega), show nI (w - 10 * n) - 10 = nI (w - 10 * n - 10) from pk_sub (a := w - 10 * n) (b := 10) (by omega), show w - 10 * n - 10 = w - 10 * (n + 1) by omega]
theorem coN_eq {A : HS} {w : Nat} (hw : w < 2 ^ 31) (h : mI A 258 0 = nI w) : coN A ≤ qN A ∧ 10 * coN A ≤ w ∧ ∀ g, g + qN A ≤ 40 → sMin (nI w / 10) (nI (g + qN A) - nI g) = nI (coN A) := by
  have e : coN A = min (w / 10) (qN A) := by unfold coN; rw [h, nI_clamp hw]
  rw [e]
  refine ⟨Nat.min_le_right _ _, by have := Nat.min_le_left (w / 10) (qN A); omega, fun g hg => ?_⟩
  rw [show nI w / 10 = nI (w / 10) from pk_div (d := 10) hw (by decide) (by decide), show nI (g + qN A) - nI g = nI (g + qN A - g) from pk_sub (by omega), show g + qN A - g = qN A by omega]
  unfold sMin
  by_cases z : nI (qN A) < nI (w / 10)
  · rw [if_pos z]
    have z1 := (nI_ltI (a := qN A) (b := w / 10) (by omega) (by omega)).mp z
    rw [Nat.min_eq_right (by omega)]
  · rw [if_neg z]
    have z1 : w / 10 ≤ qN A := Nat.le_of_not_lt (fun y => z ((nI_ltI (a := qN A) (b := w / 10) (by omega) (by omega)).mpr y))
    rw [Nat.min_eq_left z1]
/-! who asked for it -/
def gFor (A : HS) (j r : Nat) : Bool := sIn (mI A 208 r) (mI A 226 (tS A j)) && sIn (mI A 209 r) (mI A 242 j)
theorem tS_pic {A B : HS} {j : Nat} (k : KM A B) : tS B j = tS A j := by
  unfold tS
  rw [show mI B 240 j = mI A 240 j from k.I rfl]
theorem gFor_pic {A B : HS} {j r : Nat} (k : KM A B) : gFor B j r = gFor A j r := by
  unfold gFor
  rw [tS_pic k, show mI B 208 r = mI A 208 r from k.I rfl, show mI B 209 r = mI A 209 r from k.I rfl, show mI B 226 (tS A j) = mI A 226 (tS A j) from k.I rfl, show mI B 242 j = mI A 242 j from k.I rfl]
theorem goS_I {A : HS} {j : Nat} : ∀ n, mI (goS A j n) = mI A
  | 0 => rfl
  | n + 1 => by
    show mI (if gFor A j n = true then sA (goS A j n) 35 n (upd (mA A 35 n) j 1) else goS A j n) = mI A
    split
    · exact goS_I n
    · exact goS_I n
theorem goS_o {A : HS} {j : Nat} : ∀ n r, n ≤ r → mA (goS A j n) 35 r = mA A 35 r
  | 0, _, _ => rfl
  | n + 1, r, h => by
    show mA (if gFor A j n = true then sA (goS A j n) 35 n (upd (mA A 35 n) j 1) else goS A j n) 35 r = mA A 35 r
    split
    · rw [sA_o (by omega)]; exact goS_o n r (by omega)
    · exact goS_o n r (by omega)
theorem goS_f {A : HS} {j n : Nat} (e : gFor A j n = false) : goS A j (n + 1) = goS A j n := if_neg (by rw [show (sIn (mI A 208 n) (mI A 226 (tS A j)) && sIn (mI A 209 n) (mI A 242 j)) = false from e]; decide)
theorem goS_t {A : HS} {j n : Nat} (e : gFor A j n = true) : goS A j (n + 1) = sA (goS A j n) 35 n (upd (mA (goS A j n) 35 n) j 1) := by
  rw [goS_o n n (Nat.le_refl n)]
  exact if_pos e
theorem enA_I {A : HS} {j f i : Nat} (hf : ¬ f = 253) : mI (enA A j) f i = mI A f i := by
  unfold enA
  split
  · exact up2_n (fun y => hf y.1)
  · rfl
theorem seT_258 {A : HS} {nr g j : Nat} : mI (seT A nr g j) 258 0 = mI A 258 0 - rLen (mI A 244 j) (mI A 243 j) (mI A 248 j) := by
  unfold seT
  rw [enA_I (by decide), goS_I]; rfl
theorem seT_247 {A : HS} {nr g j i : Nat} : mI (seT A nr g j) 247 i = if i = j then 1 else mI A 247 i := by
  unfold seT
  rw [enA_I (by decide), goS_I]
  by_cases e : i = j
  · subst e
    rw [if_pos rfl]
    exact sI_s (S := A)
  · rw [if_neg e]
    exact sI_o (S := A) e
theorem enA_f {A : HS} {j : Nat} (e : rWrong (mI A 247 j) (mI A 246 j) (mI A 245 j) (mI A 248 j) = false) : enA A j = A := if_neg (by rw [e, Bool.false_and]; decide)
theorem enA_t {A : HS} {j : Nat} (e : rWrong (mI A 247 j) (mI A 246 j) (mI A 245 j) (mI A 248 j) = true) (h : mI A 253 j = 0) : enA A j = sQ (sI A 253 j 1) (qN A + 1) (upd (mA A 60 0) (qN A) (nI j)) := if_pos (by rw [e, decide_eq_true h]; rfl)
theorem wr_1 {a b c d : Int32} (h : rWrong a b c d = true) : a = 1 ∧ ¬ b = -1 := by
  unfold rWrong at h
  rw [Bool.and_eq_true, Bool.and_eq_true] at h
  exact ⟨of_decide_eq_true h.1, of_decide_eq_true h.2.1⟩
theorem wr_0 {a b c d : Int32} (h : ¬ a = 1) : rWrong a b c d = false := by
  unfold rWrong
  rw [decide_eq_false h]; rfl
/-! which one goes next: the heaviest, and of those the first -/
theorem nxB_w : ∀ a, a < 10 → ∀ b, b < 10 → (decide (rSort (nI b) < rSort (nI a)) || (decide (rSort (nI a) = rSort (nI b)) && decide (nI b < nI a))) = decide (b < a) := by decide +kernel
theorem rSort_3 : ∀ a, a < 3 → rSort (nI a) = 0 := by decide +kernel
section NX
variable {A : HS} {P : Nat → Bool}
theorem rNx_n {n : Nat} (h : P n = false) : rNx A P (n + 1) = rNx A P n := if_neg (fun z => by rw [h] at z; exact absurd z.1 (by decide))
theorem rNx_0 : ∀ n, (∀ j, j < n → P j = false) → rNx A P n = -1
  | 0, _ => rfl
  | n + 1, h => by rw [rNx_n (h n (Nat.lt_succ_self n))]; exact rNx_0 n (fun j hj => h j (Nat.lt_succ_of_lt hj))
/-- one that is heavier than all that wait ahead of it, and as heavy as all behind it, is it -/
theorem rNx_k {w : Nat → Nat} {k : Nat} (hk : P k = true) : ∀ n, k < n → n < 1000 → (∀ j, j < n → w j < 10 ∧ mI A 244 j = nI (w j)) → (∀ j, j < n → P j = true → ¬ j = k → w j < w k ∨ (w j = w k ∧ k < j)) → rNx A P n = nI k := by
  have pre : ∀ n, n ≤ k → n < 1000 → (∀ j, j < n → w j < 10 ∧ mI A 244 j = nI (w j)) → (∀ j, j < n → P j = true → w j < w k) → rNx A P n = -1 ∨ ∃ b, b < n ∧ rNx A P n = nI b ∧ w b < w k := by
    intro n
    induction n with
    | zero => intros; exact Or.inl rfl
    | succ n ih =>
      intro h1 h2 h3 h4
      cases e : P n with
      | false =>
        rw [rNx_n e]
        exact (ih (by omega) (by omega) (fun j hj => h3 j (by omega)) (fun j hj => h4 j (by omega))).imp id (fun ⟨b, b1, b2⟩ => ⟨b, by omega, b2⟩)
      | true =>
        by_cases c : P n = true ∧ (rNx A P n = -1 ∨ nxB A n (rNx A P n).toNatClampNeg = true)
        · rw [show rNx A P (n + 1) = nI n from if_pos c]
          exact Or.inr ⟨n, by omega, rfl, h4 n (by omega) e⟩
        · rw [show rNx A P (n + 1) = rNx A P n from if_neg c]
          exact (ih (by omega) (by omega) (fun j hj => h3 j (by omega)) (fun j hj => h4 j (by omega))).imp id (fun ⟨b, b1, b2⟩ => ⟨b, by omega, b2⟩)
  intro n
  induction n with
  | zero => intro h; omega
  | succ n ih =>
    intro h1 h2 h3 h4
    by_cases e : n = k
    · subst e
      have z := pre n (Nat.le_refl n) (by omega) (fun j hj => h3 j (by omega)) (fun j hj hp => (h4 j (by omega) hp (by omega)).elim id (fun y => by omega))
      refine if_pos ⟨hk, z.imp id (fun ⟨b, b1, b2, b3⟩ => ?_)⟩
      rw [b2, nI_clamp (by omega)]
      unfold nxB
      rw [(h3 n (by omega)).2, (h3 b (by omega)).2, nxB_w _ (h3 n (by omega)).1 _ (h3 b (by omega)).1]
      exact decide_eq_true b3
    · have r := ih (by omega) (by omega) (fun j hj => h3 j (by omega)) (fun j hj => h4 j (by omega))
      cases f : P n with
      | false => rw [rNx_n f]; exact r
      | true =>
        have wn := h4 n (by omega) f e
        refine (if_neg (fun z => ?_)).trans r
        rcases z.2 with y | y
        · rw [r] at y; exact nI_neg1 (by omega) y
        · rw [r, nI_clamp (by omega)] at y
          unfold nxB at y
          rw [(h3 n (by omega)).2, (h3 k (by omega)).2, nxB_w _ (h3 n (by omega)).1 _ (h3 k (by omega)).1] at y
          have := of_decide_eq_true y
          omega
end NX
theorem nxP_f {A : HS} {g j : Nat} {l : Int32} (h : ¬ (mI A 247 j = 0 ∧ stG A g j = false ∧ ¬ l < rLen (mI A 244 j) (mI A 243 j) (mI A 248 j))) : nxP A g l j = false := by
  cases e : nxP A g l j with
  | false => rfl
  | true =>
    unfold nxP at e
    rw [Bool.and_eq_true, Bool.and_eq_true] at e
    exact absurd ⟨of_decide_eq_true e.1, by simpa using e.2.1, of_decide_eq_true e.2.2⟩ h
theorem nxP_e {A : HS} {g j : Nat} {l : Int32} (h : nxP A g l j = true) : mI A 247 j = 0 ∧ stG A g j = false ∧ ¬ l < rLen (mI A 244 j) (mI A 243 j) (mI A 248 j) := by
  unfold nxP at h
  rw [Bool.and_eq_true, Bool.and_eq_true] at h
  exact ⟨of_decide_eq_true h.1, by simpa using h.2.1, of_decide_eq_true h.2.2⟩
theorem nxP_t {A : HS} {g j : Nat} {l : Int32} (h1 : mI A 247 j = 0) (h2 : decide (24 ≤ nI g - mI A 241 j) = false) (h3 : ¬ l < rLen (mI A 244 j) (mI A 243 j) (mI A 248 j)) : nxP A g l j = true := by
  unfold nxP
  rw [decide_eq_true h1, stG_f2 h2, decide_eq_true h3]; rfl
theorem nx_f0 {A : HS} {g j : Nat} {l : Int32} (h : ¬ mI A 247 j = 0) : nxP A g l j = false := nxP_f (fun z => h z.1)
theorem nx_f2 {A : HS} {g j : Nat} {l : Int32} (h1 : mI A 247 j = 0) (h : decide (24 ≤ nI g - mI A 241 j) = true) : nxP A g l j = false := nxP_f (fun z => by rw [stG_t h1 h] at z; exact absurd z.2.1 (by decide))
theorem nx_f3 {A : HS} {g j : Nat} {l : Int32} (h : l < rLen (mI A 244 j) (mI A 243 j) (mI A 248 j)) : nxP A g l j = false := nxP_f (fun z => z.2.2 h)
theorem sub_le9 {a b : Int32} (hb : ¬ b < 0) (hl : ¬ a < b) : a - b ≤ a := by
  obtain ⟨y, hy, rfl⟩ := nI_of hb
  have ha : ¬ a < 0 := fun z => nI_pos (n := y) hy (Int32.lt_of_le_of_lt (Int32.not_lt.mp hl) z)
  obtain ⟨x, hx, rfl⟩ := nI_of ha
  have hxy : y ≤ x := Nat.le_of_not_lt (fun z => hl ((nI_ltI hx hy).mpr z))
  rw [show nI x - nI y = nI (x - y) from pk_sub hxy]
  exact (nI_leI (by omega) hx).mpr (by omega)
/-- what isn't next stays so, behind a sending -/
theorem nx_send {A : HS} {nr g i j : Nat} (hn : ¬ rLen (mI A 244 i) (mI A 243 i) (mI A 248 i) < 0) (hl : ¬ mI A 258 0 < rLen (mI A 244 i) (mI A 243 i) (mI A 248 i)) (h : j = i ∨ nxP A g (mI A 258 0) j = false) : nxP (seT A nr g i) g (mI (seT A nr g i) 258 0) j = false := by
  refine nxP_f (fun z => ?_)
  rw [seT_247, seT_258] at z
  by_cases e : j = i
  · rw [if_pos e] at z; exact absurd z.1 (by decide)
  · rw [if_neg e] at z
    have h := h.resolve_left e
    have k : KM A (seT A nr g i) := km_seT
    have e8 : mI (seT A nr g i) 248 j = mI A 248 j := by unfold seT; rw [enA_I (by decide), goS_I]; rfl
    have e1 : stG (seT A nr g i) g j = stG A g j := by
      unfold stG
      rw [seT_247, if_neg e, show mI (seT A nr g i) 241 j = mI A 241 j from k.I rfl]
    rw [e1, show mI (seT A nr g i) 244 j = mI A 244 j from k.I rfl, show mI (seT A nr g i) 243 j = mI A 243 j from k.I rfl, e8] at z
    have c : nxP A g (mI A 258 0) j = true := by
      unfold nxP
      have z3 : ¬ mI A 258 0 < rLen (mI A 244 j) (mI A 243 j) (mI A 248 j) := fun y => z.2.2 (Int32.lt_of_le_of_lt (sub_le9 hn hl) y)
      rw [decide_eq_true z.1, z.2.1, decide_eq_true z3]; rfl
    rw [c] at h; exact absurd h (by decide)

/-- .. over all that stand ahead in the class's order -/
theorem dq_step {A : HS} {g nt kw k : Nat} (hd : ∀ j, j < nt → ∀ w, w ≤ 9 → mI A 244 j = nI w → (kw < w ∨ (w = kw ∧ j < k)) → nxP A g (mI A 258 0) j = false) (hk : mI A 244 k = nI kw → nxP A g (mI A 258 0) k = false) : ∀ j, j < nt → ∀ w, w ≤ 9 → mI A 244 j = nI w → (kw < w ∨ (w = kw ∧ j < k + 1)) → nxP A g (mI A 258 0) j = false := fun j hj w hw ew c => by
  by_cases e : j = k ∧ w = kw
  · rw [e.1]; exact hk (by rw [← e.1, ew, e.2])
  · exact hd j hj w hw ew (c.imp id (fun z => ⟨z.1, by omega⟩))
theorem dq_send {A : HS} {nr g nt kw k : Nat} (hn : ¬ rLen (mI A 244 k) (mI A 243 k) (mI A 248 k) < 0) (hl : ¬ mI A 258 0 < rLen (mI A 244 k) (mI A 243 k) (mI A 248 k)) (hd : ∀ j, j < nt → ∀ w, w ≤ 9 → mI A 244 j = nI w → (kw < w ∨ (w = kw ∧ j < k)) → nxP A g (mI A 258 0) j = false) : ∀ j, j < nt → ∀ w, w ≤ 9 → mI (seT A nr g k) 244 j = nI w → (kw < w ∨ (w = kw ∧ j < k + 1)) → nxP (seT A nr g k) g (mI (seT A nr g k) 258 0) j = false := fun j hj w hw ew c => by
  have k9 : KM A (seT A nr g k) := km_seT
  rw [show mI (seT A nr g k) 244 j = mI A 244 j from k9.I rfl] at ew
  refine nx_send hn hl ?_
  by_cases e : j = k
  · exact Or.inl e
  · exact Or.inr (hd j hj w hw ew (c.imp id (fun z => ⟨z.1, by omega⟩)))
/-- how many wait -/
def wtN (A : HS) (nt : Nat) : Nat := cntB (fun j => decide (mI A 247 j = 0)) nt
theorem wt_send {A : HS} {nr g nt k : Nat} (hk : k < nt) (hz : mI A 247 k = 0) : wtN (seT A nr g k) nt + 1 ≤ wtN A nt := by
  refine cntB_lt nt (fun j hj z => ?_) k hk ?_ (decide_eq_true hz)
  · have z2 : mI (seT A nr g k) 247 j = 0 := of_decide_eq_true z
    rw [seT_247] at z2
    by_cases e : j = k
    · rw [if_pos e] at z2; exact absurd z2 (by decide)
    · rw [if_neg e] at z2; exact decide_eq_true z2
  · refine decide_eq_false (fun z => ?_)
    rw [seT_247, if_pos rfl] at z; exact absurd z (by decide)
/-- B is where the sending goes on, from A -/
def SeQ (A B : HS) (nt nr g : Nat) : Prop := ∃ f, wtN B nt < f ∧ seL A nt nr g (nt + 1) = seL B nt nr g f
theorem SeQ.rf {A : HS} {nt nr g : Nat} : SeQ A A nt nr g := ⟨nt + 1, Nat.lt_succ_of_le (cntB_le _ nt), rfl⟩
theorem SeQ.send {A B : HS} {ns nm nt nr g kw k : Nat} (h : SeQ A B nt nr g) (hok : AOK B ns nm nt) (hnt : nt ≤ 40) (hk : k < nt) (ew : mI B 244 k = nI kw) (hkw : kw ≤ 9) (hp : nxP B g (mI B 258 0) k = true) (hd : ∀ j, j < nt → ∀ w, w ≤ 9 → mI B 244 j = nI w → (kw < w ∨ (w = kw ∧ j < k)) → nxP B g (mI B 258 0) j = false) : SeQ A (seT B nr g k) nt nr g := by
  obtain ⟨f, hf, e⟩ := h
  have wt := wt_send (nr := nr) (g := g) hk (nxP_e hp).1
  cases f with
  | zero => omega
  | succ f =>
    refine ⟨f, by omega, e.trans ?_⟩
    have w9 : ∀ j, j < nt → ∃ w, w ≤ 9 ∧ mI B 244 j = nI w := fun j hj => (hok.2.2.1 j hj).2.2.1
    have r : rNx B (nxP B g (mI B 258 0)) nt = nI k := by
      refine rNx_k (w := fun j => (mI B 244 j).toNatClampNeg) hp nt hk (by omega) (fun j hj => ?_) (fun j hj pj ne => ?_)
      · obtain ⟨w, h1, h2⟩ := w9 j hj
        show (mI B 244 j).toNatClampNeg < 10 ∧ mI B 244 j = nI (mI B 244 j).toNatClampNeg
        rw [h2, nI_clamp (by omega)]; exact ⟨by omega, rfl⟩
      · obtain ⟨w, h1, h2⟩ := w9 j hj
        show (mI B 244 j).toNatClampNeg < (mI B 244 k).toNatClampNeg ∨ _
        rw [h2, ew, nI_clamp (by omega), nI_clamp (by omega)]
        by_cases c : kw < w ∨ (w = kw ∧ j < k)
        · rw [hd j hj w h1 h2 c] at pj; exact absurd pj (by decide)
        · omega
    show (if rNx B (nxP B g (mI B 258 0)) nt = -1 then B else seL (seT B nr g (rNx B (nxP B g (mI B 258 0)) nt).toNatClampNeg) nt nr g f) = _
    rw [r, if_neg (nI_neg1 (by omega)), nI_clamp (by omega)]
theorem SeQ.fin {A B : HS} {ns nm nt nr g kw : Nat} (h : SeQ A B nt nr g) (hok : AOK B ns nm nt) (q2 : AQ2 B nt) (hkw : kw < 3) (hd : ∀ j, j < nt → ∀ w, w ≤ 9 → kw < w → mI B 244 j = nI w → nxP B g (mI B 258 0) j = false) : seL A nt nr g (nt + 1) = B := by
  obtain ⟨f, hf, e⟩ := h
  cases f with
  | zero => omega
  | succ f =>
    refine e.trans (if_pos (rNx_0 nt (fun j hj => ?_)))
    obtain ⟨w, h1, h2⟩ := (hok.2.2.1 j hj).2.2.1
    by_cases c : kw < w
    · exact hd j hj w h1 c h2
    · refine nx_f0 (fun z => q2 j hj z ?_)
      rw [h2]; exact rSort_3 w (by omega)
theorem dq_out {A : HS} {g nt kw : Nat} {k : Nat} (hk : nt ≤ k) (hkw : 1 ≤ kw) (hd : ∀ j, j < nt → ∀ w, w ≤ 9 → mI A 244 j = nI w → (kw < w ∨ (w = kw ∧ j < k)) → nxP A g (mI A 258 0) j = false) : ∀ j, j < nt → ∀ w, w ≤ 9 → kw - 1 < w → mI A 244 j = nI w → nxP A g (mI A 258 0) j = false := fun j hj w hw c ew => hd j hj w hw ew (by omega)

