def hvD (t _ : Nat) : Bool := !(t == 60)
def hiD (f _ : Nat) : Bool := !(f == 253)
def hrD (_ _ : Nat) : Bool := true
/-- the queue, and how each correction stands, are the same -/
abbrev KD (A B : HS) : Prop := Kq hvD hiD hrD A B
theorem kd_recB {A : HS} {ns nj x j b : Nat} : KD A (recB A ns nj x j b) := ((((Kq.rf.sI rfl).sI rfl).sI rfl).sI rfl).sI rfl
theorem kd_recA {A : HS} {ns nj x j : Nat} : KD A (recA A ns nj x j) := by
  unfold recA
  split
  · exact Kq.rf
  · exact kd_recB
theorem kd_recL {A : HS} {ns nj g : Nat} : ∀ n, KD A (recL A ns nj g n)
  | 0 => Kq.rf
  | n + 1 => by
    show KD A (if mI A 241 n = nI g then recA (recL A ns nj g n) ns nj (g % 24) n else recL A ns nj g n)
    split
    · exact (kd_recL n).tr kd_recA
    · exact kd_recL n
theorem kd_tiL {A : HS} {x : Nat} : ∀ n, KD A (tiL A x n)
  | 0 => Kq.rf
  | n + 1 => ((kd_tiL n).sI rfl).sI rfl
theorem kd_stL {A : HS} {g : Nat} : ∀ n, KD A (stL A g n)
  | 0 => Kq.rf
  | n + 1 => by
    show KD A (if stG A g n = true then sI (stL A g n) 247 n 2 else stL A g n)
    split
    · exact (kd_stL n).sI rfl
    · exact kd_stL n
theorem kd_goS {A : HS} {j : Nat} : ∀ n, KD A (goS A j n)
  | 0 => Kq.rf
  | n + 1 => by
    show KD A (if (sIn (mI A 208 n) (mI A 226 (tS A j)) && sIn (mI A 209 n) (mI A 242 j)) = true then sA (goS A j n) 35 n (upd (mA A 35 n) j 1) else goS A j n)
    split
    · exact (kd_goS n).sA rfl
    · exact kd_goS n
theorem kd_seT0 {A : HS} {g j : Nat} : KD A (seT0 A g j) := ((((Kq.rf.sI rfl).sI rfl).sI rfl).sI rfl).sI rfl
theorem kd_dyA {A : HS} {g : Nat} : KD A (dyA A g) := by
  unfold dyA
  split
  · exact Kq.rf.sI rfl
  · exact Kq.rf
def c1N (A : HS) (nt : Nat) : Nat := cntB (fun k => decide (mI A 253 k = 1)) nt
def DS (A : HS) (nt : Nat) : Prop := (∀ i, i < qN A → qT A i < nt ∧ mI A 253 (qT A i) = 1) ∧ (∀ i j, i < qN A → j < qN A → qT A i = qT A j → i = j) ∧ qN A = c1N A nt ∧ ∀ k, k < nt → mI A 253 k = 0 ∨ mI A 253 k = 1 ∨ mI A 253 k = 2
theorem DS.kd {A B : HS} {nt : Nat} (h : DS A nt) (k : KD A B) : DS B nt := by
  have e1 : ∀ x, mI B 253 x = mI A 253 x := fun x => k.I rfl
  have e2 : qN B = qN A := (congrFun (congrFun (show mN B = mN B from rfl) 60) 0).trans (k.1 60 0 rfl).2.2.1
  have e3 : ∀ i, qT B i = qT A i := fun i => by unfold qT; rw [show mA B 60 0 = mA A 60 0 from (k.1 60 0 rfl).2.2.2.2]
  obtain ⟨h1, h2, h3, h4⟩ := h
  refine ⟨fun i hi => ?_, fun i j hi hj e => ?_, ?_, fun x hx => by rw [e1]; exact h4 x hx⟩
  · rw [e2] at hi; rw [e3, e1]; exact h1 i hi
  · rw [e2] at hi hj; rw [e3, e3] at e; exact h2 i j hi hj e
  · rw [e2, h3]
    exact cntB_c nt (fun x _ => by show decide (mI A 253 x = 1) = decide (mI B 253 x = 1); rw [e1])
/-- a correction begins to wait -/
theorem DS.en {A : HS} {nt j : Nat} (h : DS A nt) (hj : j < nt) (h40 : nt ≤ 40) : DS (enA A j) nt := by
  unfold enA
  split
  · rename_i g
    rw [Bool.and_eq_true] at g
    have z0 : mI A 253 j = 0 := of_decide_eq_true g.2
    obtain ⟨h1, h2, h3, h4⟩ := h
    have q9 : qN (sQ (sI A 253 j 1) (qN A + 1) (upd (mA A 60 0) (qN A) (nI j))) = qN A + 1 := rfl
    have t9 : ∀ i, qT (sQ (sI A 253 j 1) (qN A + 1) (upd (mA A 60 0) (qN A) (nI j))) i = if i = qN A then j else qT A i := fun i => by
      show (upd (mA A 60 0) (qN A) (nI j) i).toNatClampNeg = _
      by_cases e : i = qN A
      · rw [e, upd_s, if_pos rfl, nI_clamp (by omega)]
      · rw [upd_o e, if_neg e]; rfl
    have i9 : ∀ x, mI (sQ (sI A 253 j 1) (qN A + 1) (upd (mA A 60 0) (qN A) (nI j))) 253 x = if x = j then 1 else mI A 253 x := fun x => by
      by_cases e : x = j
      · rw [if_pos e, e]; exact sI_s (S := A)
      · rw [if_neg e]; exact sI_o (S := A) e
    have nj : ∀ i, i < qN A → ¬ qT A i = j := fun i hi e => by
      have z := (h1 i hi).2
      rw [e, z0] at z; exact absurd z (by decide)
    refine ⟨fun i hi => ?_, fun i k hi hk e => ?_, ?_, fun x hx => ?_⟩
    · rw [q9] at hi
      rw [t9, i9]
      by_cases e : i = qN A
      · rw [if_pos e, if_pos rfl]; exact ⟨hj, rfl⟩
      · rw [if_neg e, if_neg (nj i (by omega))]; exact h1 i (by omega)
    · rw [q9] at hi hk
      rw [t9, t9] at e
      by_cases e1 : i = qN A
      · by_cases e2 : k = qN A
        · rw [e1, e2]
        · rw [if_pos e1, if_neg e2] at e; exact absurd e.symm (nj k (by omega))
      · by_cases e2 : k = qN A
        · rw [if_neg e1, if_pos e2] at e; exact absurd e (nj i (by omega))
        · rw [if_neg e1, if_neg e2] at e; exact h2 i k (by omega) (by omega) e
    · rw [q9, h3]
      refine (cntB_up (j := j) ?_ ?_ nt hj (fun x _ e => ?_)).symm
      · show decide (mI A 253 j = 1) = false
        rw [z0]; decide
      · show decide (mI (sQ (sI A 253 j 1) (qN A + 1) (upd (mA A 60 0) (qN A) (nI j))) 253 j = 1) = true
        rw [i9, if_pos rfl]; rfl
      · show decide (mI (sQ (sI A 253 j 1) (qN A + 1) (upd (mA A 60 0) (qN A) (nI j))) 253 x = 1) = decide (mI A 253 x = 1)
        rw [i9, if_neg e]
    · rw [i9]
      by_cases e : x = j
      · rw [if_pos e]; exact Or.inr (Or.inl rfl)
      · rw [if_neg e]; exact h4 x hx
  · exact h
/-- the first k of the queue have their corrections -/
theorem ds_coL {A : HS} {nr nt : Nat} (h : DS A nt) : ∀ k, k ≤ qN A → (∀ x, (∀ i, i < k → ¬ qT A i = x) → mI (coL A nr k) 253 x = mI A 253 x) ∧ c1N (coL A nr k) nt + k = c1N A nt ∧ ∀ x, x < nt → mI (coL A nr k) 253 x = 0 ∨ mI (coL A nr k) 253 x = 1 ∨ mI (coL A nr k) 253 x = 2
  | 0, _ => ⟨fun _ _ => rfl, rfl, h.2.2.2⟩
  | k + 1, hk => by
    obtain ⟨a1, a2, a3⟩ := ds_coL h k (by omega)
    have e : ∀ x, mI (coL A nr (k + 1)) 253 x = if x = qT A k then 2 else mI (coL A nr k) 253 x := fun x => by
      show mI (goT (sI (sI (coL A nr k) 258 0 (mI (coL A nr k) 258 0 - 10)) 253 (qT A k) 2) (qT A k) nr) 253 x = _
      rw [goT_I]
      by_cases d : x = qT A k
      · rw [if_pos d, d]; exact sI_s
      · rw [if_neg d]; exact sI_o d
    have w : mI (coL A nr k) 253 (qT A k) = 1 := (a1 (qT A k) (fun i hi z => by have := h.2.1 i k (by omega) (by omega) z; omega)).trans (h.1 k (by omega)).2
    refine ⟨fun x hx => ?_, ?_, fun x hx => ?_⟩
    · rw [e, if_neg (fun z => hx k (Nat.lt_succ_self k) z.symm)]; exact a1 x (fun i hi => hx i (by omega))
    · have u := cntB_up (p := fun x => decide (mI (coL A nr (k + 1)) 253 x = 1)) (p' := fun x => decide (mI (coL A nr k) 253 x = 1)) (j := qT A k) (by show decide (mI (coL A nr (k + 1)) 253 (qT A k) = 1) = false; rw [e, if_pos rfl]; decide) (by show decide (mI (coL A nr k) 253 (qT A k) = 1) = true; rw [w]; rfl) nt (h.1 k (by omega)).1 (fun x _ d => by show decide (mI (coL A nr k) 253 x = 1) = decide (mI (coL A nr (k + 1)) 253 x = 1); rw [e, if_neg d])
      have u2 : c1N (coL A nr k) nt = c1N (coL A nr (k + 1)) nt + 1 := u
      omega
    · rw [e]
      by_cases d : x = qT A k
      · rw [if_pos d]; exact Or.inr (Or.inr rfl)
      · rw [if_neg d]; exact a3 x hx
theorem ds_coA {A : HS} {nr nt : Nat} (h : DS A nt) (h40 : nt ≤ 40) : DS (coA A nr) nt := by
  have hr : coN A ≤ qN A := Nat.min_le_right _ _
  obtain ⟨a1, a2, a3⟩ := ds_coL h (nr := nr) (coN A) hr
  have q9 : qN (coA A nr) = qN A - coN A := rfl
  have t9 : ∀ i, qT (coA A nr) i = qT A (i + coN A) := fun i => rfl
  have i9 : ∀ i, i < qN A - coN A → mI (coA A nr) 253 (qT A (i + coN A)) = 1 := fun i hi => (a1 _ (fun k hk z => by have := h.2.1 k (i + coN A) (by omega) (by omega) z; omega)).trans (h.1 _ (by omega)).2
  refine ⟨fun i hi => ?_, fun i j hi hj e => ?_, ?_, a3⟩
  · rw [q9] at hi; rw [t9]; exact ⟨(h.1 _ (by omega)).1, i9 i hi⟩
  · rw [q9] at hi hj; rw [t9, t9] at e
    have := h.2.1 _ _ (by omega) (by omega) e
    omega
  · have e : c1N (coA A nr) nt = c1N (coL A nr (coN A)) nt := rfl
    rw [q9, e, h.2.2.1]; omega
theorem ds_seT {A : HS} {nr g nt j : Nat} (h : DS A nt) (hj : j < nt) (h40 : nt ≤ 40) : DS (seT A nr g j) nt := (h.kd (kd_seT0.tr (kd_goS nr))).en hj h40
theorem rNx_in {A : HS} {P : Nat → Bool} : ∀ n, n < 1000 → rNx A P n = -1 ∨ ∃ b, b < n ∧ rNx A P n = nI b ∧ P b = true
  | 0, _ => Or.inl rfl
  | n + 1, hn => by
    by_cases c : P n = true ∧ (rNx A P n = -1 ∨ nxB A n (rNx A P n).toNatClampNeg = true)
    · exact Or.inr ⟨n, Nat.lt_succ_self n, if_pos c, c.1⟩
    · rw [show rNx A P (n + 1) = rNx A P n from if_neg c]
      exact (rNx_in n (by omega)).imp id (fun ⟨b, h1, h2⟩ => ⟨b, Nat.lt_succ_of_lt h1, h2⟩)
theorem ds_seL {nt nr g : Nat} (h40 : nt ≤ 40) : ∀ (f : Nat) (A : HS), DS A nt → DS (seL A nt nr g f) nt
  | 0, _, h => h
  | f + 1, A, h => by
    show DS (if rNx A (nxP A g (mI A 258 0)) nt = -1 then A else seL (seT A nr g (rNx A (nxP A g (mI A 258 0)) nt).toNatClampNeg) nt nr g f) nt
    split
    · exact h
    · rename_i g1
      obtain ⟨b, hb, eb, -⟩ := (rNx_in (A := A) (P := nxP A g (mI A 258 0)) nt (by omega)).resolve_left g1
      rw [eb, nI_clamp (by omega)]
      exact ds_seL h40 f _ (ds_seT h hb h40)
theorem ds_hoA {A : HS} {ns nj nm nt nr g : Nat} (h : DS A nt) (h40 : nt ≤ 40) : DS (hoA A ns nj nm nt nr g) nt :=
  (show DS (hoB A ns nj nm nt nr g) nt from ds_seL h40 (nt + 1) _ (ds_coA (h.kd (((kd_recL nt).tr (kd_tiL nm)).tr (kd_stL nt))) h40)).kd ((Kq.rf.sI rfl).tr kd_dyA)
theorem ds_hoN {A : HS} {ns nj nm nt nr g : Nat} (h : DS A nt) (h40 : nt ≤ 40) : ∀ n, DS (hoN A ns nj nm nt nr g n) nt
  | 0 => h
  | n + 1 => ds_hoA (ds_hoN h h40 n) h40
theorem DS.pr {A : HS} {nt j : Nat} {b : Int32} (h : DS A nt) (hj : j < nt) (h40 : nt ≤ 40) : DS (prA A j b) nt := (h.kd (Kq.rf.sI rfl)).en hj h40
theorem DS.as {A : HS} {nt r : Nat} {b d : Int32} (h : DS A nt) : DS (asA A r b d) nt := h.kd ((Kq.rf.sI rfl).sI rfl)
theorem DS.ta {A : HS} {nt : Nat} {a b d g e f : Int32} (h : DS A nt) : DS (taC A nt a b d g e f) (nt + 1) := by
  have q9 : qN (taC A nt a b d g e f) = qN A := taC_q
  have t9 : ∀ i, qT (taC A nt a b d g e f) i = qT A i := fun i => by unfold qT; rw [taC_A]
  have i9 : ∀ x, mI (taC A nt a b d g e f) 253 x = if x = nt then 0 else mI A 253 x := fun x => by
    by_cases c : x = nt
    · subst c; simp [taC, taA, uI_I, uI_R, uI_A, uI_Arr, uI_N, uI_add, uR_I, uR_R, uR_A, uR_Arr, uR_N, uR_add, uG_I, uG_R, uG_A, uG_Arr, uG_N, uG_add, uA_I, uA_R, uA_A, uA_Arr, uA_N, uA_add]
    · simp [taC, taA, uI_I, uI_R, uI_A, uI_Arr, uI_N, uI_add, uR_I, uR_R, uR_A, uR_Arr, uR_N, uR_add, uG_I, uG_R, uG_A, uG_Arr, uG_N, uG_add, uA_I, uA_R, uA_A, uA_Arr, uA_N, uA_add, c]
  obtain ⟨h1, h2, h3, h4⟩ := h
  refine ⟨fun i hi => ?_, fun i j hi hj z => ?_, ?_, fun x hx => ?_⟩
  · rw [q9] at hi
    have := (h1 i hi).1
    rw [t9, i9, if_neg (by omega)]; exact ⟨by omega, (h1 i hi).2⟩
  · rw [q9] at hi hj; rw [t9, t9] at z; exact h2 i j hi hj z
  · rw [q9, h3]
    show _ = cntB (fun k => decide (mI (taC A nt a b d g e f) 253 k = 1)) nt + (if decide (mI (taC A nt a b d g e f) 253 nt = 1) = true then 1 else 0)
    rw [i9, if_pos rfl, if_neg (by decide)]
    exact cntB_c nt (fun x hx => by show decide (mI A 253 x = 1) = decide (mI (taC A nt a b d g e f) 253 x = 1); rw [i9, if_neg (by omega)])
  · rw [i9]
    by_cases c : x = nt
    · rw [if_pos c]; exact Or.inl rfl
    · rw [if_neg c]; exact h4 x (by omega)

