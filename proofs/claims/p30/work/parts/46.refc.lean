def gC : Nat → Nat
  | 0 => 0
  | n + 1 => gC n + addC n
def gL : Nat → Nat
  | 0 => 0
  | n + 1 => gL n + addL n
theorem gCL : ∀ n, n ≤ 40 → gC n ≤ 5 ∧ gL n ≤ 206 := fun n h => (by decide +kernel : ∀ n, n < 41 → gC n ≤ 5 ∧ gL n ≤ 206) n (Nat.lt_succ_of_le h)
/-! the queue that is made anew: the list 12, which then is the list 11 -/
def hvC (t i : Nat) : Bool := ((t == 17 || t == 30) && i == 12) || t == 35
def hiC (f i : Nat) : Bool := f == 253 || (f == 258 || (f / 16 == 17 && i == 12))
def hrC (f i : Nat) : Bool := f == 267 || (f / 16 == 17 && i == 12)
def swQ (S T : HS) : HS :=
  ((fun t i => if (t = 17 ∨ t = 30) ∧ i = 11 then vV T t 12 else if (t = 17 ∨ t = 30) ∧ i = 12 then vV S t 12 else vV T t i),
   (fun t i => if (t = 17 ∨ t = 30) ∧ i = 11 then gG T t 12 else if (t = 17 ∨ t = 30) ∧ i = 12 then gG S t 12 else gG T t i),
   (fun f i => if (f = 272 ∨ f = 274) ∧ i = 11 then mI T f 12 else if f / 16 = 17 ∧ i = 12 then mI S f 12 else mI T f i),
   (fun f i => if f = 273 ∧ i = 11 then mR T f 12 else if f / 16 = 17 ∧ i = 12 then mR S f 12 else mR T f i),
   (fun t i => if t = 30 ∧ i = 11 then mN T t 12 else if (t = 17 ∨ t = 30) ∧ i = 12 then mN S t 12 else mN T t i),
   (fun t i => if (t = 17 ∨ t = 30) ∧ i = 12 then mA S t 12 else mA T t i),
   (fun t i => if t = 30 ∧ i = 11 then mB T t 12 else if (t = 17 ∨ t = 30) ∧ i = 12 then mB S t 12 else mB T t i),
   mL T, mD T)
theorem hvC_f {t i : Nat} (h1 : ¬ ((t = 17 ∨ t = 30) ∧ i = 12)) (h2 : ¬ t = 35) : hvC t i = false := by
  simp only [hvC, Bool.or_eq_false_iff, Bool.and_eq_false_iff, beq_eq_false_iff_ne]
  omega
theorem hvQ_f {t i : Nat} (h : hvQ t i = false) : ¬ ((t = 17 ∨ t = 30) ∧ i = 11) ∧ ¬ t = 35 := by
  simp only [hvQ, Bool.or_eq_false_iff, Bool.and_eq_false_iff, beq_eq_false_iff_ne] at h
  omega
theorem hiQ_f {f i : Nat} (h : hiQ f i = false) : ¬ ((f = 272 ∨ f = 274) ∧ i = 11) ∧ ¬ f = 253 ∧ ¬ f = 258 := by
  simp only [hiQ, Bool.or_eq_false_iff, Bool.and_eq_false_iff, beq_eq_false_iff_ne] at h
  obtain ⟨h1, h2⟩ := h
  have h3 : ¬ (246 ≤ f ∧ f ≤ 255) := fun y => by
    rcases h1 with z | z
    · rw [Nat.ble_eq.mpr y.1] at z; exact absurd z (by decide)
    · rw [Nat.ble_eq.mpr y.2] at z; exact absurd z (by decide)
  clear h1
  omega
theorem hiC_f {f i : Nat} (h1 : ¬ f = 253) (h2 : ¬ f = 258) (h3 : ¬ (f / 16 = 17 ∧ i = 12)) : hiC f i = false := by
  simp only [hiC, Bool.or_eq_false_iff, Bool.and_eq_false_iff, beq_eq_false_iff_ne]
  omega
theorem hrQ_f {f i : Nat} (h : hrQ f i = false) : ¬ (f = 273 ∧ i = 11) ∧ ¬ f = 267 := by
  simp only [hrQ, Bool.or_eq_false_iff, Bool.and_eq_false_iff, beq_eq_false_iff_ne] at h
  omega
theorem hrC_f {f i : Nat} (h1 : ¬ f = 267) (h3 : ¬ (f / 16 = 17 ∧ i = 12)) : hrC f i = false := by
  simp only [hrC, Bool.or_eq_false_iff, Bool.and_eq_false_iff, beq_eq_false_iff_ne]
  omega
theorem kq_sw {S T : HS} (k : Kq hvC hiC hrC S T) : Kq hvQ hiQ hrQ S (swQ S T) := by
  refine ⟨fun t i h => ?_, fun f i h => ?_, fun f i h => ?_, k.2.2.2⟩
  · obtain ⟨h1, h2⟩ := hvQ_f h
    have a30 : ¬ (t = 30 ∧ i = 11) := fun z => h1 ⟨Or.inr z.1, z.2⟩
    by_cases c : (t = 17 ∨ t = 30) ∧ i = 12
    · exact ⟨(if_neg h1).trans ((if_pos c).trans (by rw [c.2])), (if_neg h1).trans ((if_pos c).trans (by rw [c.2])), (if_neg a30).trans ((if_pos c).trans (by rw [c.2])), (if_neg a30).trans ((if_pos c).trans (by rw [c.2])), (if_pos c).trans (by rw [c.2])⟩
    · obtain ⟨k1, k2, k3, k4, k5⟩ := k.1 t i (hvC_f c h2)
      exact ⟨(if_neg h1).trans ((if_neg c).trans k1), (if_neg h1).trans ((if_neg c).trans k2), (if_neg a30).trans ((if_neg c).trans k3), (if_neg a30).trans ((if_neg c).trans k4), (if_neg c).trans k5⟩
  · obtain ⟨h1, h2, h3⟩ := hiQ_f h
    by_cases c : f / 16 = 17 ∧ i = 12
    · exact (if_neg h1).trans ((if_pos c).trans (by rw [c.2]))
    · exact (if_neg h1).trans ((if_neg c).trans (k.2.1 f i (hiC_f h2 h3 c)))
  · obtain ⟨h1, h2⟩ := hrQ_f h
    by_cases c : f / 16 = 17 ∧ i = 12
    · exact (if_neg h1).trans ((if_pos c).trans (by rw [c.2]))
    · exact (if_neg h1).trans ((if_neg c).trans (k.2.2.1 f i (hrC_f h2 c)))
theorem sw_w {s0 : State} {D : va_G} {cy : Nat → ClassId} {S T : HS} {H : Heap} (hZ : ¬ vV S 17 12 ∧ ¬ vV S 30 12) (h : WP s0 D cy T H) : WP s0 D cy (swQ S T) H := by
  have c12 : ∀ t i, vV (swQ S T) t i → ¬ ((t = 17 ∨ t = 30) ∧ i = 12) := fun t i hv c => by
    have e : vV (swQ S T) t i = vV S t 12 := (if_neg (fun z => by omega)).trans (if_pos c)
    rw [e] at hv
    rcases c with ⟨rfl | rfl, -⟩
    · exact hZ.1 hv
    · exact hZ.2 hv
  refine h.map (fun t i => if (t = 17 ∨ t = 30) ∧ i = 11 then (t, 12) else (t, i)) (fun t i hv => ?_) (fun t i t' i' h1 h2 e => ?_)
  · by_cases a : (t = 17 ∨ t = 30) ∧ i = 11
    · rw [if_pos a]
      refine ⟨by have e : vV (swQ S T) t i = vV T t 12 := if_pos a
                 rw [← e]; exact hv, if_pos a, ?_⟩
      rcases a with ⟨rfl | rfl, rfl⟩
      · rfl
      · rfl
    · rw [if_neg a]
      have b := c12 t i hv
      refine ⟨by have e : vV (swQ S T) t i = vV T t i := (if_neg a).trans (if_neg b)
                 rw [← e]; exact hv, (if_neg a).trans (if_neg b), ?_⟩
      show cellM cy (swQ S T) t i = cellM cy T t i
      unfold cellM
      by_cases h21 : t < 21
      · rw [if_pos h21, if_pos h21]
        congr 2
        apply List.map_congr_left
        intro k hk
        have hk16 : k < 16 := Nat.lt_of_lt_of_le (List.mem_range.mp hk) (nf_le t)
        have e1 : mI (swQ S T) (16 * t + k) i = mI T (16 * t + k) i := (if_neg (fun z => a ⟨Or.inl (by omega), z.2⟩)).trans (if_neg (fun z => b ⟨Or.inl (by omega), z.2⟩))
        have e2 : mR (swQ S T) (16 * t + k) i = mR T (16 * t + k) i := (if_neg (fun z => a ⟨Or.inl (by omega), z.2⟩)).trans (if_neg (fun z => b ⟨Or.inl (by omega), z.2⟩))
        unfold fval
        rw [e1, e2]; rfl
      · rw [if_neg h21, if_neg h21]
        have e3 : mN (swQ S T) t i = mN T t i := (if_neg (fun z => a ⟨Or.inr z.1, z.2⟩)).trans (if_neg b)
        have e4 : mB (swQ S T) t i = mB T t i := (if_neg (fun z => a ⟨Or.inr z.1, z.2⟩)).trans (if_neg b)
        have e5 : mA (swQ S T) t i = mA T t i := if_neg b
        rw [e3, e4, e5]
  · have n1 := c12 t i h1
    have n2 := c12 t' i' h2
    by_cases c : (t = 17 ∨ t = 30) ∧ i = 11
    · by_cases c' : (t' = 17 ∨ t' = 30) ∧ i' = 11
      · rw [if_pos c, if_pos c'] at e
        exact ⟨congrArg Prod.fst e, c.2.trans c'.2.symm⟩
      · rw [if_pos c, if_neg c'] at e
        have e1 : t = t' := congrArg Prod.fst e
        have e2 : 12 = i' := congrArg Prod.snd e
        exact absurd ⟨by rw [← e1]; exact c.1, e2.symm⟩ n2
    · by_cases c' : (t' = 17 ∨ t' = 30) ∧ i' = 11
      · rw [if_neg c, if_pos c'] at e
        have e1 : t = t' := congrArg Prod.fst e
        have e2 : i = 12 := congrArg Prod.snd e
        exact absurd ⟨by rw [e1]; exact c'.1, e2⟩ n1
      · rw [if_neg c, if_neg c'] at e
        exact ⟨congrArg Prod.fst e, congrArg Prod.snd e⟩
theorem QI.s253 {s0 : State} {S : HS} {nq nt g : Nat} {x : Int32} (h : QI s0 S nq nt) (hx : x ≠ 0) : QI s0 (sI S 253 g x) nq nt := h.of rfl (fun j z => by
  by_cases e : j = g
  · rw [e, show mI (sI S 253 g x) 253 g = x from up2_s _ _ _ _]; exact hx
  · rw [show mI (sI S 253 g x) 253 j = mI S 253 j from up2_n (fun y => e y.2)]; exact z)
theorem add_q12 {s0 : State} {l : Launch} {D : va_G} {cy : Nat → ClassId} (G : Gl s0 l D cy) (T : HS) (n2 nt g : Nat) (hL : LsOk (eaOf s0) T 12 n2) (hb : nt ≤ 40) (hn : n2 < 40) (hz : n2 = 0 → ¬ vV T 30 12) (h31 : ¬ vV T 31 12) (hE : ∀ j, j < n2 → ∃ g, g < nt ∧ mB T 30 12 j = some (iq s0 g)) (hg : g < nt) : Ctr s0 l D cy yJx4a65c_add_9ea2d cJx4a65c_add_9ea2d 2 (some .boolean) (rm_addn n2) T [.ref (gG T 17 12), .ref (iq s0 g)] (AddP T 12 n2 (iq s0 g)) :=
  m_addn G T 12 n2 (iq s0 g) hL (by omega) hz h31 (fun j hj y hy => by
    obtain ⟨g9, hg9, e⟩ := hE j hj
    rw [e] at hy
    cases hy
    exact EL.iq G (by omega)) (EL.iq G (by omega))
theorem LsOk.add {ea q : Nat} {S : HS} {k n : Nat} {mm : Int32} {b : Nat → Option Nat} (h : LsOk ea S k n) (hn : n < 49) : LsOk ea (addS S k q (capOf (n + 1)) mm (nI (n + 1)) b) k (n + 1) :=
  ⟨Or.inl h.1, up2_s _ _ _ _, by omega, fun z => absurd z (by omega), fun _ => ⟨Or.inr ⟨rfl, rfl⟩, (up2_s _ _ _ _).trans (congrArg some (up2_s _ _ _ _).symm), up2_s _ _ _ _⟩⟩

theorem RI.new12 {ea : Nat} {S : HS} {ns nj nm nt nr nq : Nat} (h : RI ea S ns nj nm nt nr nq) {q : Nat} : RI ea (sNew S 17 12 q) ns nj nm nt nr nq := by
  have up : ∀ t k, vV S t k → vV (sNew S 17 12 q) t k := fun t k v => Or.inl v
  have dn : ∀ t i, ¬ (t = 17 ∧ i = 12) → vV (sNew S 17 12 q) t i → vV S t i := fun t i d v => v.elim id (fun e => absurd e d)
  exact ⟨(up _ _ h.v), h.f_st, h.f_jm, h.f_mo, h.f_ta, h.f_re, h.f_qu, (h.l_st.of (up _ _) rfl rfl (up _ _) (fun _ => rfl) rfl), (h.l_jm.of (up _ _) rfl rfl (up _ _) (fun _ => rfl) rfl), (h.l_mo.of (up _ _) rfl rfl (up _ _) (fun _ => rfl) rfl), (h.l_ta.of (up _ _) rfl rfl (up _ _) (fun _ => rfl) rfl), (h.l_re.of (up _ _) rfl rfl (up _ _) (fun _ => rfl) rfl), (h.l_qu.of (up _ _) rfl rfl (up _ _) (fun _ => rfl) rfl), h.b_st, h.b_jm, h.b_mo, h.b_ta, h.b_re, h.b_qu, (fun j hj => ⟨(h.e_st j hj).1, up _ _ (h.e_st j hj).2⟩), (fun j hj => ⟨(h.e_jm j hj).1, up _ _ (h.e_jm j hj).2.1, (h.e_jm j hj).2.2⟩), (fun j hj => ⟨(h.e_mo j hj).1, up _ _ (h.e_mo j hj).2.1, (h.e_mo j hj).2.2.1, up _ _ (h.e_mo j hj).2.2.2.1, (h.e_mo j hj).2.2.2.2⟩), (fun j hj => ⟨(h.e_ta j hj).1, up _ _ (h.e_ta j hj).2⟩), (fun j hj => ⟨(h.e_re j hj).1, up _ _ (h.e_re j hj).2.1, (h.e_re j hj).2.2.1, up _ _ (h.e_re j hj).2.2.2.1, (h.e_re j hj).2.2.2.2⟩), ⟨up _ _ h.h1.1, h.h1.2⟩, (fun a ha => ⟨(h.h2 a ha).1, up _ _ (h.h2 a ha).2.1, (h.h2 a ha).2.2⟩), ⟨up _ _ h.s1.1, h.s1.2⟩, (fun a ha => ⟨(h.s2 a ha).1, up _ _ (h.s2 a ha).2.1, (h.s2 a ha).2.2⟩), h.x_st, h.x_ts, h.x_th, h.x_tt, h.x_he, h.x_si, h.x_hs, h.x_ho, (fun j hj v => h.z_st j hj (dn _ j (by omega) v)), (fun j hj v => h.z_jm j hj (dn _ j (by omega) v)), (fun j hj => ⟨fun v => (h.z_mo j hj).1 (dn _ j (by omega) v), fun v => (h.z_mo j hj).2 (dn _ j (by omega) v)⟩), (fun j hj v => h.z_ta j hj (dn _ j (by omega) v)), (fun j hj => ⟨fun v => (h.z_re j hj).1 (dn _ j (by omega) v), fun v => (h.z_re j hj).2 (dn _ j (by omega) v)⟩), ⟨(fun z v => h.z30.1 z (dn 30 6 (by omega) v)), (fun z v => h.z30.2.1 z (dn 30 7 (by omega) v)), (fun z v => h.z30.2.2.1 z (dn 30 8 (by omega) v)), (fun z v => h.z30.2.2.2.1 z (dn 30 9 (by omega) v)), (fun z v => h.z30.2.2.2.2.1 z (dn 30 10 (by omega) v)), (fun z v => h.z30.2.2.2.2.2 z (dn 30 11 (by omega) v))⟩, trivial, (fun k v => h.z31 k (dn 31 k (by omega) v))⟩
theorem RI.r12 {ea : Nat} {S : HS} {ns nj nm nt nr nq : Nat} (h : RI ea S ns nj nm nt nr nq) {x : Option Nat} : RI ea (sR S 273 12 x) ns nj nm nt nr nq := by
  exact ⟨h.v, h.f_st, h.f_jm, h.f_mo, h.f_ta, h.f_re, h.f_qu, h.l_st, h.l_jm, h.l_mo, h.l_ta, h.l_re, h.l_qu, h.b_st, h.b_jm, h.b_mo, h.b_ta, h.b_re, h.b_qu, h.e_st, h.e_jm, h.e_mo, h.e_ta, h.e_re, h.h1, h.h2, h.s1, h.s2, h.x_st, h.x_ts, h.x_th, h.x_tt, h.x_he, h.x_si, h.x_hs, h.x_ho, h.z_st, h.z_jm, h.z_mo, h.z_ta, h.z_re, h.z30, h.z12, h.z31⟩
theorem RI.add12 {ea : Nat} {S : HS} {ns nj nm nt nr nq : Nat} (h : RI ea S ns nj nm nt nr nq) {q cap : Nat} {mm z : Int32} {b : Nat → Option Nat} : RI ea (addS S 12 q cap mm z b) ns nj nm nt nr nq := by
  have up : ∀ t k, vV S t k → vV (addS S 12 q cap mm z b) t k := fun t k v => Or.inl v
  have dn : ∀ t i, ¬ (t = 30 ∧ i = 12) → vV (addS S 12 q cap mm z b) t i → vV S t i := fun t i d v => v.elim id (fun e => absurd e d)
  exact ⟨(up _ _ h.v), h.f_st, h.f_jm, h.f_mo, h.f_ta, h.f_re, h.f_qu, (h.l_st.of (up _ _) rfl rfl (up _ _) (fun _ => rfl) rfl), (h.l_jm.of (up _ _) rfl rfl (up _ _) (fun _ => rfl) rfl), (h.l_mo.of (up _ _) rfl rfl (up _ _) (fun _ => rfl) rfl), (h.l_ta.of (up _ _) rfl rfl (up _ _) (fun _ => rfl) rfl), (h.l_re.of (up _ _) rfl rfl (up _ _) (fun _ => rfl) rfl), (h.l_qu.of (up _ _) rfl rfl (up _ _) (fun _ => rfl) rfl), h.b_st, h.b_jm, h.b_mo, h.b_ta, h.b_re, h.b_qu, (fun j hj => ⟨(h.e_st j hj).1, up _ _ (h.e_st j hj).2⟩), (fun j hj => ⟨(h.e_jm j hj).1, up _ _ (h.e_jm j hj).2.1, (h.e_jm j hj).2.2⟩), (fun j hj => ⟨(h.e_mo j hj).1, up _ _ (h.e_mo j hj).2.1, (h.e_mo j hj).2.2.1, up _ _ (h.e_mo j hj).2.2.2.1, (h.e_mo j hj).2.2.2.2⟩), (fun j hj => ⟨(h.e_ta j hj).1, up _ _ (h.e_ta j hj).2⟩), (fun j hj => ⟨(h.e_re j hj).1, up _ _ (h.e_re j hj).2.1, (h.e_re j hj).2.2.1, up _ _ (h.e_re j hj).2.2.2.1, (h.e_re j hj).2.2.2.2⟩), ⟨up _ _ h.h1.1, h.h1.2⟩, (fun a ha => ⟨(h.h2 a ha).1, up _ _ (h.h2 a ha).2.1, (h.h2 a ha).2.2⟩), ⟨up _ _ h.s1.1, h.s1.2⟩, (fun a ha => ⟨(h.s2 a ha).1, up _ _ (h.s2 a ha).2.1, (h.s2 a ha).2.2⟩), h.x_st, h.x_ts, h.x_th, h.x_tt, h.x_he, h.x_si, h.x_hs, h.x_ho, (fun j hj v => h.z_st j hj (dn _ j (by omega) v)), (fun j hj v => h.z_jm j hj (dn _ j (by omega) v)), (fun j hj => ⟨fun v => (h.z_mo j hj).1 (dn _ j (by omega) v), fun v => (h.z_mo j hj).2 (dn _ j (by omega) v)⟩), (fun j hj v => h.z_ta j hj (dn _ j (by omega) v)), (fun j hj => ⟨fun v => (h.z_re j hj).1 (dn _ j (by omega) v), fun v => (h.z_re j hj).2 (dn _ j (by omega) v)⟩), ⟨(fun z v => h.z30.1 z (dn 30 6 (by omega) v)), (fun z v => h.z30.2.1 z (dn 30 7 (by omega) v)), (fun z v => h.z30.2.2.1 z (dn 30 8 (by omega) v)), (fun z v => h.z30.2.2.2.1 z (dn 30 9 (by omega) v)), (fun z v => h.z30.2.2.2.2.1 z (dn 30 10 (by omega) v)), (fun z v => h.z30.2.2.2.2.2 z (dn 30 11 (by omega) v))⟩, trivial, (fun k v => h.z31 k (dn 31 k (by omega) v))⟩
theorem RI.swq {ea : Nat} {S : HS} {ns nj nm nt nr nq : Nat} (h : RI ea S ns nj nm nt nr nq) {S0 : HS} {n2 : Nat} (hL : LsOk ea S 12 n2) (hn : n2 ≤ 40) (hz : n2 = 0 → ¬ vV S 30 12) : RI ea (swQ S0 (sR S 267 0 (some (gG S 17 12)))) ns nj nm nt nr n2 := by
  exact ⟨h.v, h.f_st, h.f_jm, h.f_mo, h.f_ta, h.f_re, (rfl), h.l_st, h.l_jm, h.l_mo, h.l_ta, h.l_re, (hL), h.b_st, h.b_jm, h.b_mo, h.b_ta, h.b_re, (hn), h.e_st, h.e_jm, h.e_mo, h.e_ta, h.e_re, h.h1, h.h2, h.s1, h.s2, h.x_st, h.x_ts, h.x_th, h.x_tt, h.x_he, h.x_si, h.x_hs, h.x_ho, h.z_st, h.z_jm, h.z_mo, h.z_ta, h.z_re, (⟨h.z30.1, h.z30.2.1, h.z30.2.2.1, h.z30.2.2.2.1, h.z30.2.2.2.2.1, hz⟩), h.z12, h.z31⟩
theorem hiC17 {f : Nat} (z : f / 16 = 17) : hiC f 12 = true := by simp [hiC, z]
theorem hrC17 {f : Nat} (z : f / 16 = 17) : hrC f 12 = true := by simp [hrC, z]

theorem dX16_correct_0 : decode cX16_correct 0 = .ok (.new 13, 3) := by decide +kernel
theorem dX16_correct_3 : decode cX16_correct 3 = .ok (.dup, 1) := by decide +kernel
theorem dX16_correct_4 : decode cX16_correct 4 = .ok (.invokespecial 15, 3) := by decide +kernel
theorem dX16_correct_7 : decode cX16_correct 7 = .ok (.astore_n 1, 1) := by decide +kernel
theorem dX16_correct_8 : decode cX16_correct 8 = .ok (.iconst 0, 1) := by decide +kernel
theorem dX16_correct_9 : decode cX16_correct 9 = .ok (.istore_n 2, 1) := by decide +kernel
theorem dX16_correct_10 : decode cX16_correct 10 = .ok (.iconst 0, 1) := by decide +kernel
theorem dX16_correct_11 : decode cX16_correct 11 = .ok (.istore_n 3, 1) := by decide +kernel
theorem dX16_correct_12 : decode cX16_correct 12 = .ok (.iload_n 3, 1) := by decide +kernel
theorem dX16_correct_13 : decode cX16_correct 13 = .ok (.aload_n 0, 1) := by decide +kernel
theorem dX16_correct_14 : decode cX16_correct 14 = .ok (.getfield 32, 3) := by decide +kernel
theorem dX16_correct_17 : decode cX16_correct 17 = .ok (.invokeinterface 73 1, 5) := by decide +kernel
theorem dX16_correct_22 : decode cX16_correct 22 = .ok (.if_icmp .ge 192, 3) := by decide +kernel
theorem dX16_correct_25 : decode cX16_correct 25 = .ok (.iload_n 2, 1) := by decide +kernel
theorem dX16_correct_26 : decode cX16_correct 26 = .ok (.aload_n 0, 1) := by decide +kernel
theorem dX16_correct_27 : decode cX16_correct 27 = .ok (.getfield 7, 3) := by decide +kernel
theorem dX16_correct_30 : decode cX16_correct 30 = .ok (.bipush 10, 2) := by decide +kernel
theorem dX16_correct_32 : decode cX16_correct 32 = .ok (.if_icmp .ge 7, 3) := by decide +kernel
theorem dX16_correct_35 : decode cX16_correct 35 = .ok (.iconst 1, 1) := by decide +kernel
theorem dX16_correct_36 : decode cX16_correct 36 = .ok (.goto 4, 3) := by decide +kernel
theorem dX16_correct_39 : decode cX16_correct 39 = .ok (.iconst 0, 1) := by decide +kernel
theorem dX16_correct_40 : decode cX16_correct 40 = .ok (.ior, 1) := by decide +kernel
theorem dX16_correct_41 : decode cX16_correct 41 = .ok (.istore_n 2, 1) := by decide +kernel
theorem dX16_correct_42 : decode cX16_correct 42 = .ok (.iload_n 2, 1) := by decide +kernel
theorem dX16_correct_43 : decode cX16_correct 43 = .ok (.ifCond .eq 26, 3) := by decide +kernel
theorem dX16_correct_46 : decode cX16_correct 46 = .ok (.aload_n 1, 1) := by decide +kernel
theorem dX16_correct_47 : decode cX16_correct 47 = .ok (.aload_n 0, 1) := by decide +kernel
theorem dX16_correct_48 : decode cX16_correct 48 = .ok (.getfield 32, 3) := by decide +kernel
theorem dX16_correct_51 : decode cX16_correct 51 = .ok (.iload_n 3, 1) := by decide +kernel
theorem dX16_correct_52 : decode cX16_correct 52 = .ok (.invokeinterface 46 2, 5) := by decide +kernel
theorem dX16_correct_57 : decode cX16_correct 57 = .ok (.checkcast 165, 3) := by decide +kernel
theorem dX16_correct_60 : decode cX16_correct 60 = .ok (.invokeinterface 170 2, 5) := by decide +kernel
theorem dX16_correct_65 : decode cX16_correct 65 = .ok (.pop, 1) := by decide +kernel
theorem dX16_correct_66 : decode cX16_correct 66 = .ok (.goto 142, 3) := by decide +kernel
theorem dX16_correct_69 : decode cX16_correct 69 = .ok (.aload_n 0, 1) := by decide +kernel
theorem dX16_correct_70 : decode cX16_correct 70 = .ok (.dup, 1) := by decide +kernel
theorem dX16_correct_71 : decode cX16_correct 71 = .ok (.getfield 7, 3) := by decide +kernel
theorem dX16_correct_74 : decode cX16_correct 74 = .ok (.bipush 10, 2) := by decide +kernel
theorem dX16_correct_76 : decode cX16_correct 76 = .ok (.isub, 1) := by decide +kernel
theorem dX16_correct_77 : decode cX16_correct 77 = .ok (.putfield 7, 3) := by decide +kernel
theorem dX16_correct_80 : decode cX16_correct 80 = .ok (.aload_n 0, 1) := by decide +kernel
theorem dX16_correct_81 : decode cX16_correct 81 = .ok (.getfield 26, 3) := by decide +kernel
theorem dX16_correct_84 : decode cX16_correct 84 = .ok (.aload_n 0, 1) := by decide +kernel
theorem dX16_correct_85 : decode cX16_correct 85 = .ok (.getfield 32, 3) := by decide +kernel
theorem dX16_correct_88 : decode cX16_correct 88 = .ok (.iload_n 3, 1) := by decide +kernel
theorem dX16_correct_89 : decode cX16_correct 89 = .ok (.invokeinterface 46 2, 5) := by decide +kernel
theorem dX16_correct_94 : decode cX16_correct 94 = .ok (.checkcast 165, 3) := by decide +kernel
theorem dX16_correct_97 : decode cX16_correct 97 = .ok (.invokevirtual 174, 3) := by decide +kernel
theorem dX16_correct_100 : decode cX16_correct 100 = .ok (.invokeinterface 46 2, 5) := by decide +kernel
theorem dX16_correct_105 : decode cX16_correct 105 = .ok (.checkcast 105, 3) := by decide +kernel
theorem dX16_correct_108 : decode cX16_correct 108 = .ok (.iconst 2, 1) := by decide +kernel
theorem dX16_correct_109 : decode cX16_correct 109 = .ok (.putfield 161, 3) := by decide +kernel
theorem dX16_correct_112 : decode cX16_correct 112 = .ok (.iconst 0, 1) := by decide +kernel
theorem dX16_correct_113 : decode cX16_correct 113 = .ok (.istore 4, 2) := by decide +kernel
theorem dX16_correct_115 : decode cX16_correct 115 = .ok (.iload 4, 2) := by decide +kernel
theorem dX16_correct_117 : decode cX16_correct 117 = .ok (.aload_n 0, 1) := by decide +kernel
theorem dX16_correct_118 : decode cX16_correct 118 = .ok (.getfield 29, 3) := by decide +kernel
theorem dX16_correct_121 : decode cX16_correct 121 = .ok (.invokeinterface 73 1, 5) := by decide +kernel
theorem dX16_correct_126 : decode cX16_correct 126 = .ok (.if_icmp .ge 82, 3) := by decide +kernel
theorem dX16_correct_129 : decode cX16_correct 129 = .ok (.aload_n 0, 1) := by decide +kernel
theorem dX16_correct_130 : decode cX16_correct 130 = .ok (.getfield 29, 3) := by decide +kernel
theorem dX16_correct_133 : decode cX16_correct 133 = .ok (.iload 4, 2) := by decide +kernel
theorem dX16_correct_135 : decode cX16_correct 135 = .ok (.invokeinterface 46 2, 5) := by decide +kernel
theorem dX16_correct_140 : decode cX16_correct 140 = .ok (.checkcast 177, 3) := by decide +kernel
theorem dX16_correct_143 : decode cX16_correct 143 = .ok (.getfield 179, 3) := by decide +kernel
theorem dX16_correct_146 : decode cX16_correct 146 = .ok (.aload_n 0, 1) := by decide +kernel
theorem dX16_correct_147 : decode cX16_correct 147 = .ok (.getfield 32, 3) := by decide +kernel
theorem dX16_correct_150 : decode cX16_correct 150 = .ok (.iload_n 3, 1) := by decide +kernel
theorem dX16_correct_151 : decode cX16_correct 151 = .ok (.invokeinterface 46 2, 5) := by decide +kernel
theorem dX16_correct_156 : decode cX16_correct 156 = .ok (.checkcast 165, 3) := by decide +kernel
theorem dX16_correct_159 : decode cX16_correct 159 = .ok (.invokevirtual 174, 3) := by decide +kernel
theorem dX16_correct_162 : decode cX16_correct 162 = .ok (.iaload, 1) := by decide +kernel
theorem dX16_correct_163 : decode cX16_correct 163 = .ok (.iconst 1, 1) := by decide +kernel
theorem dX16_correct_164 : decode cX16_correct 164 = .ok (.if_icmp .ne 38, 3) := by decide +kernel
theorem dX16_correct_167 : decode cX16_correct 167 = .ok (.aload_n 0, 1) := by decide +kernel
theorem dX16_correct_168 : decode cX16_correct 168 = .ok (.getfield 29, 3) := by decide +kernel
theorem dX16_correct_171 : decode cX16_correct 171 = .ok (.iload 4, 2) := by decide +kernel
theorem dX16_correct_173 : decode cX16_correct 173 = .ok (.invokeinterface 46 2, 5) := by decide +kernel
theorem dX16_correct_178 : decode cX16_correct 178 = .ok (.checkcast 177, 3) := by decide +kernel
theorem dX16_correct_181 : decode cX16_correct 181 = .ok (.getfield 179, 3) := by decide +kernel
theorem dX16_correct_184 : decode cX16_correct 184 = .ok (.aload_n 0, 1) := by decide +kernel
theorem dX16_correct_185 : decode cX16_correct 185 = .ok (.getfield 32, 3) := by decide +kernel
theorem dX16_correct_188 : decode cX16_correct 188 = .ok (.iload_n 3, 1) := by decide +kernel
theorem dX16_correct_189 : decode cX16_correct 189 = .ok (.invokeinterface 46 2, 5) := by decide +kernel
theorem dX16_correct_194 : decode cX16_correct 194 = .ok (.checkcast 165, 3) := by decide +kernel
theorem dX16_correct_197 : decode cX16_correct 197 = .ok (.invokevirtual 174, 3) := by decide +kernel
theorem dX16_correct_200 : decode cX16_correct 200 = .ok (.iconst 2, 1) := by decide +kernel
theorem dX16_correct_201 : decode cX16_correct 201 = .ok (.iastore, 1) := by decide +kernel
theorem dX16_correct_202 : decode cX16_correct 202 = .ok (.iinc 4 1, 3) := by decide +kernel
theorem dX16_correct_205 : decode cX16_correct 205 = .ok (.goto (-90), 3) := by decide +kernel
theorem dX16_correct_208 : decode cX16_correct 208 = .ok (.iinc 3 1, 3) := by decide +kernel
theorem dX16_correct_211 : decode cX16_correct 211 = .ok (.goto (-199), 3) := by decide +kernel
theorem dX16_correct_214 : decode cX16_correct 214 = .ok (.aload_n 0, 1) := by decide +kernel
theorem dX16_correct_215 : decode cX16_correct 215 = .ok (.aload_n 1, 1) := by decide +kernel
theorem dX16_correct_216 : decode cX16_correct 216 = .ok (.putfield 32, 3) := by decide +kernel
theorem dX16_correct_219 : decode cX16_correct 219 = .ok (.return_, 1) := by decide +kernel
abbrev rm_m_X16_correct : Room := { frames := 7, cells := 6, slots := 209, locals := 191 }
set_option maxHeartbeats 4000000 in
set_option maxRecDepth 100000 in
theorem m_X16_correct {s0 : State} {l : Launch} {D : va_G} {cy : Nat → ClassId} (G : Gl s0 l D cy) (S : HS) (ea ns nj nm nt nr nq : Nat) (h : RI ea S ns nj nm nt nr nq) (hea : ea = eaOf s0) (hZ : ¬ vV S 17 12 ∧ ¬ vV S 30 12) (hQ : QI s0 S nq nt) : Ctr s0 l D cy yX16_correct cX16_correct 5 none rm_m_X16_correct S [.ref (gG S 16 0)] (fun v S' => none = v ∧ ∃ n2, RI ea S' ns nj nm nt nr n2 ∧ Kq hvQ hiQ hrQ S S' ∧ QI s0 S' n2 nt ∧ (∀ i, mI S' 247 i = mI S 247 i)) := by
  refine pro "CavershamShiftModel" G rfl rfl (Nat.le_of_ble_eq_true rfl) (fun p e s m below meth c ls X w hnm hl => ?_)
  have hx := X.1
  have hb := X.2.1
  have hown := X.2.2.2.1
  have hts := X.2.2.2.2.1
  have hl : lv_has ls 5 [(0, .ref (gG S 16 0))] := hl
  have h0 := h
  have hK : Kq hvC hiC hrC S S := Kq.rf
  refine nwO (S := S) (t := 17) (n := 3) X w 12 (hZ.1) (Or.inl (by decide)) (by decide) rfl in_17 tyJx4a65c tyJx4a65c_ok (by decide +kernel) wC_X16_13 wNew_Jx4a65c wI_Jx4a65c dX16_correct_0 rfl (Nat.le_of_ble_eq_true rfl) (Nat.le_of_ble_eq_true rfl) (fun q1 S2 H hS2 w => ?_)
  subst hS2
  refine lv_dup hx hb dX16_correct_3 rfl ?_
  refine cI (S := (sNew S 17 12 q1)) (nA := 0) (As := []) (rest := [.ref (gG (sNew S 17 12 q1) 17 12)]) X w hl (m_Jx4a65c_init_da8c8 G (sNew S 17 12 q1) 12 (Or.inr ⟨rfl, rfl⟩)) wY_Jx4a65c_init_da8c8 wM_X16_15 wIn_Jx4a65c_init_da8c8 wI_Jx4a65c rfl (by decide +kernel) rfl rfl dX16_correct_4 ⟨by decide, by decide⟩ (Nat.le_of_ble_eq_true rfl) (⟨(show 0 + 1 + 0 ≤ 6 by omega), (show 0 + 3 + 0 ≤ 209 by omega)⟩) (fun v1 S1 H locs hp w => ?_)
  obtain ⟨rfl, rfl⟩ := hp
  have h : RI ea (sR (sI (sNew S 17 12 q1) 272 12 0) 273 12 (some (eaOf s0))) ns nj nm nt nr nq := (h.new12.stI (by decide)).r12
  have hK : Kq hvC hiC hrC S (sR (sI (sNew S 17 12 q1) 272 12 0) 273 12 (some (eaOf s0))) := ((Kq.rf.new rfl (by decide) (fun f z => hiC17 z) (fun f z => hrC17 z)).sI rfl).sR rfl
  have hL : LsOk ea (sR (sI (sNew S 17 12 q1) 272 12 0) 273 12 (some (eaOf s0))) 12 0 := ⟨Or.inr ⟨rfl, rfl⟩, rfl, by decide, fun _ => by rw [hea]; rfl, fun z => absurd z (by decide)⟩
  have hz2 : 0 = 0 → ¬ vV (sR (sI (sNew S 17 12 q1) 272 12 0) 273 12 (some (eaOf s0))) 30 12 := fun _ v => v.elim hZ.2 (fun e => absurd e.1 (by decide))
  have hE2 : ∀ j, j < 0 → ∃ g, g < nt ∧ mB (sR (sI (sNew S 17 12 q1) 272 12 0) 273 12 (some (eaOf s0))) 30 12 j = some (iq s0 g) := fun j hj => absurd hj (Nat.not_lt_zero j)
  have hQ : QI s0 (sR (sI (sNew S 17 12 q1) 272 12 0) 273 12 (some (eaOf s0))) nq nt := ⟨hQ.1, hQ.2⟩
  refine lv_astore_n (lv' := [(1, .ref (gG (sNew S 17 12 q1) 17 12)), (0, .ref (gG S 16 0))]) hx hb dX16_correct_7 rfl hl (by decide) rfl (fun ls hl => ?_)
  refine lv_iconst (v := 0) hx hb dX16_correct_8 (by decide) ?_
  refine lv_istore_n (lv' := [(2, .int 0), (1, .ref (gG (sNew S 17 12 q1) 17 12)), (0, .ref (gG S 16 0))]) hx hb dX16_correct_9 rfl hl (by decide) rfl (fun ls hl => ?_)
  refine lv_iconst (v := 0) hx hb dX16_correct_10 (by decide) ?_
  refine lv_istore_n (lv' := [(3, .int 0), (2, .int 0), (1, .ref (gG (sNew S 17 12 q1) 17 12)), (0, .ref (gG S 16 0))]) hx hb dX16_correct_11 rfl hl (by decide) rfl (fun ls hl => ?_)
  have L12 : ∀ (N : Nat) (k12 : Nat) (v12_2 : Int32) (n2 : Nat) (T12 : HS) (H : Heap) (locs : List Loc) (ls : Array Slot), nq - k12 < N → (k12 ≤ nq) → (n2 ≤ k12) → (RI ea T12 ns nj nm nt nr nq) → (Kq hvC hiC hrC S T12) → (gG T12 17 12 = q1) → (LsOk ea T12 12 n2) → (n2 = 0 → ¬ vV T12 30 12) → (∀ j, j < n2 → ∃ g, g < nt ∧ mB T12 30 12 j = some (iq s0 g)) → (QI s0 T12 nq nt) → Wd s0 D cy T12 s.heap H locs → lv_has ls 5 [(3, .int (nI k12)), (2, .int v12_2), (1, .ref (gG (sNew S 17 12 q1) 17 12)), (0, .ref (gG S 16 0))] → W p l e rm_m_X16_correct s m ([.ref (gG S 16 0)] : List Value).toArray below meth c H locs (1 + gC n2) (3 + gL n2) (MQ below (GQ s0 D cy (fun v S' => none = v ∧ ∃ n2, RI ea S' ns nj nm nt nr n2 ∧ Kq hvQ hiQ hrQ S S' ∧ QI s0 S' n2 nt ∧ (∀ i, mI S' 247 i = mI S 247 i))) ([.ref (gG S 16 0)] : List Value).toArray s rm_m_X16_correct.cells rm_m_X16_correct.slots (A0 s0)) (F0 m 12 ls []) := by
    intro N
    induction N with
    | zero => intros; omega
    | succ N ih12 =>
      intro k12 v12_2 n2 T12 H locs ls hmu hk_k12 hn2k h hK_T12 e12 hL hz2 hE2 hQ w hl
      have hK := hK_T12
      have hgl := gCL n2 (by have := hQ.le; have := h.b_ta; omega)
      refine lv_iload_n hx hb dX16_correct_12 rfl (lv_at hl 0 rfl) ?_
      refine lv_aload_n hx hb dX16_correct_13 rfl (lv_at hl 3 rfl) ?_
      refine rE0 ((rfl).trans ((hK_T12.G (t := 16) (i := 0) rfl)).symm) ?_
      refine g_16_11 (S := T12) (x := (some (gG T12 17 11))) X w h.v wF_X16_32 (h.f_qu) dX16_correct_14 ?_
      refine cF (S := T12) (t := 17) (nA := 0) (As := []) (rest := [.int (nI k12)]) X w hl h.l_qu.1 (m_size G T12 ea 11 nq h.l_qu) wY_Jx4a65c_size_8abf5 wM_X16_73 wIn_Jx4a65c_size_8abf5 wSe_Jx4a65c_Jx4a65c_size_8abf5_of_java_util_List_size___I wI_Jx4a65c fw_size (by decide) rfl (by decide +kernel) rfl rfl dX16_correct_17 ⟨by decide, by decide⟩ (Nat.le_of_ble_eq_true rfl) (⟨(show 1 + gC n2 + 0 ≤ 6 by omega), (show 3 + gL n2 + 0 ≤ 209 by omega)⟩) (fun v2 S1 H locs hp w => ?_)
      obtain ⟨rfl, rfl⟩ := hp
      refine lv_icmp_ge (tgt := 214) hx hb dX16_correct_22 (by decide) (fun hc_k12 => ?_) (fun hc_k12 => ?_)
      · have hge_k12 : nq ≤ k12 := by
          have hb1 := h.b_qu
          exact (nI_leI (a := nq) (b := k12) (by omega) (by omega)).mp hc_k12
        refine lv_aload_n hx hb dX16_correct_214 rfl (lv_at hl 3 rfl) ?_
        refine lv_aload_n hx hb dX16_correct_215 rfl (lv_at hl 2 rfl) ?_
        refine rE0 ((show gG (sNew S 17 12 q1) 17 12 = q1 from rfl).trans e12.symm) ?_
        refine rE1 ((rfl).trans ((hK_T12.G (t := 16) (i := 0) rfl)).symm) ?_
        refine p_16_11 (S := T12) (x := (some (gG T12 17 12))) X w h.v wF_X16_32 dX16_correct_216 (fun H locs w => ?_)
        have w := w.map (sw_w hZ w.1)
        have h : RI ea (swQ S (sR T12 267 0 (some (gG T12 17 12)))) ns nj nm nt nr n2 := h.swq hL (by have := hQ.le; have := h.b_ta; omega) hz2
        have hKq : Kq hvQ hiQ hrQ S (swQ S (sR T12 267 0 (some (gG T12 17 12)))) := kq_sw (hK.sR rfl)
        have hQ2 : QI s0 (swQ S (sR T12 267 0 (some (gG T12 17 12)))) n2 nt := ⟨hE2, Nat.le_trans (Nat.le_trans hn2k (Nat.le_trans hk_k12 hQ.2)) (Nat.le_refl _)⟩
        exact rV X w rfl dX16_correct_219 (show 1 + gC n2 ≤ 6 by omega) (show 3 + gL n2 ≤ 209 by omega) (⟨rfl, n2, h, hKq, hQ2, fun i => hK.I rfl⟩)
      · have hlt_k12 : k12 < nq := by
          have hb1 := h.b_qu
          exact Nat.lt_of_not_le (fun z => hc_k12 ((nI_leI (a := nq) (b := k12) (by omega) (by omega)).mpr z))
        refine lv_iload_n hx hb dX16_correct_25 rfl (lv_at hl 1 rfl) ?_
        refine lv_aload_n hx hb dX16_correct_26 rfl (lv_at hl 3 rfl) ?_
        refine rE0 ((rfl).trans ((hK_T12.G (t := 16) (i := 0) rfl)).symm) ?_
        refine g_16_2 (S := T12) (x := (mI T12 258 0)) X w h.v wF_X16_7 (rfl) dX16_correct_27 ?_
        refine lv_bipush (v := 10) hx hb dX16_correct_30 (by decide) ?_
        have J40 : ∀ (z40_1 : Bool) (H : Heap) (locs : List Loc) (ls : Array Slot), Wd s0 D cy T12 s.heap H locs → lv_has ls 5 [(3, .int (nI k12)), (2, .int v12_2), (1, .ref (gG (sNew S 17 12 q1) 17 12)), (0, .ref (gG S 16 0))] → W p l e rm_m_X16_correct s m ([.ref (gG S 16 0)] : List Value).toArray below meth c H locs (1 + gC n2) (3 + gL n2) (MQ below (GQ s0 D cy (fun v S' => none = v ∧ ∃ n2, RI ea S' ns nj nm nt nr n2 ∧ Kq hvQ hiQ hrQ S S' ∧ QI s0 S' n2 nt ∧ (∀ i, mI S' 247 i = mI S 247 i))) ([.ref (gG S 16 0)] : List Value).toArray s rm_m_X16_correct.cells rm_m_X16_correct.slots (A0 s0)) (F0 m 40 ls [.int (b2i z40_1), .int v12_2]) := by
          intro z40_1 H locs ls  w hl
          refine lv_ior hx hb dX16_correct_40 ?_
          refine lv_istore_n (lv' := [(2, .int (v12_2 ||| (b2i z40_1))), (3, .int (nI k12)), (1, .ref (gG (sNew S 17 12 q1) 17 12)), (0, .ref (gG S 16 0))]) hx hb dX16_correct_41 rfl hl (by decide) rfl (fun ls hl => ?_)
          refine lv_iload_n hx hb dX16_correct_42 rfl (lv_at hl 0 rfl) ?_
          refine lv_if_eq (tgt := 69) hx hb dX16_correct_43 (by decide) (fun hc3 => ?_) (fun hc3 => ?_)
          · refine lv_aload_n hx hb dX16_correct_69 rfl (lv_at hl 3 rfl) ?_
            refine lv_dup hx hb dX16_correct_70 rfl ?_
            refine rE0 ((rfl).trans ((hK_T12.G (t := 16) (i := 0) rfl)).symm) ?_
            refine g_16_2 (S := T12) (x := (mI T12 258 0)) X w h.v wF_X16_7 (rfl) dX16_correct_71 ?_
            refine lv_bipush (v := 10) hx hb dX16_correct_74 (by decide) ?_
            refine lv_isub hx hb dX16_correct_76 ?_
            refine rE1 ((rfl).trans ((hK_T12.G (t := 16) (i := 0) rfl)).symm) ?_
            refine p_16_2 (S := T12) (x := ((mI T12 258 0) - 10)) X w h.v wF_X16_7 dX16_correct_77 (fun H locs w => ?_)
            have h : RI ea (sI T12 258 0 ((mI T12 258 0) - 10)) ns nj nm nt nr nq := h.stI (by decide)
            have hK : Kq hvC hiC hrC S (sI T12 258 0 ((mI T12 258 0) - 10)) := hK.sI rfl
            refine lv_aload_n hx hb dX16_correct_80 rfl (lv_at hl 3 rfl) ?_
            refine rE0 ((rfl).trans ((hK_T12.G (t := 16) (i := 0) rfl)).symm) ?_
            refine g_16_9 (S := (sI T12 258 0 ((mI T12 258 0) - 10))) (x := (some (gG (sI T12 258 0 ((mI T12 258 0) - 10)) 17 9))) X w h.v wF_X16_26 (h.f_ta) dX16_correct_81 ?_
            refine lv_aload_n hx hb dX16_correct_84 rfl (lv_at hl 3 rfl) ?_
            refine rE0 ((rfl).trans ((hK_T12.G (t := 16) (i := 0) rfl)).symm) ?_
            refine g_16_11 (S := (sI T12 258 0 ((mI T12 258 0) - 10))) (x := (some (gG (sI T12 258 0 ((mI T12 258 0) - 10)) 17 11))) X w h.v wF_X16_32 (h.f_qu) dX16_correct_85 ?_
            refine lv_iload_n hx hb dX16_correct_88 rfl (lv_at hl 1 rfl) ?_
            obtain ⟨g4, hlg4, heg4⟩ := hQ.1 k12 hlt_k12
            refine cF (S := (sI T12 258 0 ((mI T12 258 0) - 10))) (t := 17) (nA := 1) (As := [.int (nI k12)]) (rest := [.ref (gG (sI T12 258 0 ((mI T12 258 0) - 10)) 17 9)]) X w hl h.l_qu.1 (m_get G (sI T12 258 0 ((mI T12 258 0) - 10)) ea 11 k12 nq (some (iq s0 g4)) h.l_qu hlt_k12 heg4) wY_Jx4a65c_get_915e3 wM_X16_46 wIn_Jx4a65c_get_915e3 wSe_Jx4a65c_Jx4a65c_get_915e3_of_java_util_List_get__I_Ljava_lang_Object_ wI_Jx4a65c fw_get (by decide) rfl (by decide +kernel) rfl rfl dX16_correct_89 ⟨by decide, by decide⟩ (Nat.le_of_ble_eq_true rfl) (⟨(show 1 + gC n2 + 0 ≤ 6 by omega), (show 3 + gL n2 + 0 ≤ 209 by omega)⟩) (fun v5 S1 H locs hp w => ?_)
            obtain ⟨rfl, rfl⟩ := hp
            refine ckIn (S := (sI T12 258 0 ((mI T12 258 0) - 10))) (j := g4) X w (Nat.lt_of_lt_of_le hlg4 h.b_ta) wC_X16_165 dX16_correct_94 ?_
            refine cVx (S := (sI T12 258 0 ((mI T12 258 0) - 10))) (nA := 0) (As := []) (rest := [.ref (gG (sI T12 258 0 ((mI T12 258 0) - 10)) 17 9)]) X w hl (recI X w (Nat.lt_of_lt_of_le hlg4 h.b_ta)) (m_J6_intValue_8abf5 G (sI T12 258 0 ((mI T12 258 0) - 10)) g4 (Nat.lt_of_lt_of_le hlg4 h.b_ta)) wY_J6_intValue_8abf5 wM_X16_174 wIn_J6_intValue_8abf5 wSe_J6_J6_intValue_8abf5 wI_J6 (by decide) rfl rfl dX16_correct_97 ⟨by decide, by decide⟩ (Nat.le_of_ble_eq_true rfl) (⟨(show 1 + gC n2 + 0 ≤ 6 by omega), (show 3 + gL n2 + 0 ≤ 209 by omega)⟩) (fun v6 S1 H locs hp w => ?_)
            obtain ⟨rfl, rfl⟩ := hp
            refine cF (S := (sI T12 258 0 ((mI T12 258 0) - 10))) (t := 17) (nA := 1) (As := [.int (nI g4)]) (rest := []) X w hl h.l_ta.1 (m_get G (sI T12 258 0 ((mI T12 258 0) - 10)) ea 9 g4 nt (some (gG (sI T12 258 0 ((mI T12 258 0) - 10)) 15 g4)) h.l_ta hlg4 (h.e_ta g4 hlg4).1) wY_Jx4a65c_get_915e3 wM_X16_46 wIn_Jx4a65c_get_915e3 wSe_Jx4a65c_Jx4a65c_get_915e3_of_java_util_List_get__I_Ljava_lang_Object_ wI_Jx4a65c fw_get (by decide) rfl (by decide +kernel) rfl rfl dX16_correct_100 ⟨by decide, by decide⟩ (Nat.le_of_ble_eq_true rfl) (⟨(show 1 + gC n2 + 0 ≤ 6 by omega), (show 3 + gL n2 + 0 ≤ 209 by omega)⟩) (fun v7 S1 H locs hp w => ?_)
            obtain ⟨rfl, rfl⟩ := hp
            refine ckC (S := (sI T12 258 0 ((mI T12 258 0) - 10))) (t := 15) X w (h.e_ta g4 hlg4).2 (by decide) rfl wC_X16_105 dX16_correct_105 ?_
            refine lv_iconst (v := 2) hx hb dX16_correct_108 (by decide) ?_
            refine p_15_13 (S := (sI T12 258 0 ((mI T12 258 0) - 10))) (x := 2) X w (h.e_ta g4 hlg4).2 wF_X16_161 dX16_correct_109 (fun H locs w => ?_)
            have h : RI ea (sI (sI T12 258 0 ((mI T12 258 0) - 10)) 253 g4 2) ns nj nm nt nr nq := h.stI (by decide)
            have hK : Kq hvC hiC hrC S (sI (sI T12 258 0 ((mI T12 258 0) - 10)) 253 g4 2) := hK.sI rfl
            have hQ : QI s0 (sI (sI T12 258 0 ((mI T12 258 0) - 10)) 253 g4 2) nq nt := hQ.s253 (by decide)
            refine lv_iconst (v := 0) hx hb dX16_correct_112 (by decide) ?_
            refine lv_istore (lv' := [(4, .int 0), (2, .int (v12_2 ||| (b2i z40_1))), (3, .int (nI k12)), (1, .ref (gG (sNew S 17 12 q1) 17 12)), (0, .ref (gG S 16 0))]) hx hb dX16_correct_113 hl (by decide) rfl (fun ls hl => ?_)
            have L115 : ∀ (N : Nat) (k115 : Nat) (T115 : HS) (H : Heap) (locs : List Loc) (ls : Array Slot), nr - k115 < N → (k115 ≤ nr) → (RI ea T115 ns nj nm nt nr nq) → (Kq hvC hiC hrC S T115) → (gG T115 17 12 = q1) → (LsOk ea T115 12 n2) → (n2 = 0 → ¬ vV T115 30 12) → (∀ j, j < n2 → ∃ g, g < nt ∧ mB T115 30 12 j = some (iq s0 g)) → (QI s0 T115 nq nt) → Wd s0 D cy T115 s.heap H locs → lv_has ls 5 [(4, .int (nI k115)), (2, .int (v12_2 ||| (b2i z40_1))), (3, .int (nI k12)), (1, .ref (gG (sNew S 17 12 q1) 17 12)), (0, .ref (gG S 16 0))] → W p l e rm_m_X16_correct s m ([.ref (gG S 16 0)] : List Value).toArray below meth c H locs (1 + gC n2) (3 + gL n2) (MQ below (GQ s0 D cy (fun v S' => none = v ∧ ∃ n2, RI ea S' ns nj nm nt nr n2 ∧ Kq hvQ hiQ hrQ S S' ∧ QI s0 S' n2 nt ∧ (∀ i, mI S' 247 i = mI S 247 i))) ([.ref (gG S 16 0)] : List Value).toArray s rm_m_X16_correct.cells rm_m_X16_correct.slots (A0 s0)) (F0 m 115 ls []) := by
              intro N
              induction N with
              | zero => intros; omega
              | succ N ih115 =>
                intro k115 T115 H locs ls hmu hk_k115 h hK_T115 e12 hL hz2 hE2 hQ w hl
                have hK := hK_T115
                refine lv_iload hx hb dX16_correct_115 (lv_at hl 0 rfl) ?_
                refine lv_aload_n hx hb dX16_correct_117 rfl (lv_at hl 4 rfl) ?_
                refine rE0 ((rfl).trans ((hK_T115.G (t := 16) (i := 0) rfl)).symm) ?_
                refine g_16_10 (S := T115) (x := (some (gG T115 17 10))) X w h.v wF_X16_29 (h.f_re) dX16_correct_118 ?_
                refine cF (S := T115) (t := 17) (nA := 0) (As := []) (rest := [.int (nI k115)]) X w hl h.l_re.1 (m_size G T115 ea 10 nr h.l_re) wY_Jx4a65c_size_8abf5 wM_X16_73 wIn_Jx4a65c_size_8abf5 wSe_Jx4a65c_Jx4a65c_size_8abf5_of_java_util_List_size___I wI_Jx4a65c fw_size (by decide) rfl (by decide +kernel) rfl rfl dX16_correct_121 ⟨by decide, by decide⟩ (Nat.le_of_ble_eq_true rfl) (⟨(show 1 + gC n2 + 0 ≤ 6 by omega), (show 3 + gL n2 + 0 ≤ 209 by omega)⟩) (fun v8 S1 H locs hp w => ?_)
                obtain ⟨rfl, rfl⟩ := hp
                refine lv_icmp_ge (tgt := 208) hx hb dX16_correct_126 (by decide) (fun hc_k115 => ?_) (fun hc_k115 => ?_)
                · have hge_k115 : nr ≤ k115 := by
                    have hb1 := h.b_re
                    exact (nI_leI (a := nr) (b := k115) (by omega) (by omega)).mp hc_k115
                  refine lv_iinc (v := nI (k12 + 1)) (lv' := [(3, .int (nI (k12 + 1))), (4, .int (nI k115)), (2, .int (v12_2 ||| (b2i z40_1))), (1, .ref (gG (sNew S 17 12 q1) 17 12)), (0, .ref (gG S 16 0))]) hx hb dX16_correct_208 hl (k := 2) rfl (nI_1 _) (by decide) rfl (fun ls hl => ?_)
                  refine lv_goto (tgt := 12) hx hb dX16_correct_211 (by decide) ?_
                  refine W.widen (k := 1 + gC n2) (n := 3 + gL n2) (by first | exact Nat.le_refl _ | exact (show 1 + gC n2 + addC n2 ≤ 1 + (gC n2 + addC n2) by omega)) (by first | exact Nat.le_refl _ | exact (show 3 + gL n2 + addL n2 ≤ 3 + (gL n2 + addL n2) by omega)) ?_
                  exact ih12 (k12 + 1) (v12_2 ||| (b2i z40_1)) n2 T115 _ _ _ (by omega) (hlt_k12) (by omega) (h) (hK) (e12) (hL) (hz2) (hE2) (hQ) w (lv_sub hl [0, 2, 3, 4] rfl)
                · have hlt_k115 : k115 < nr := by
                    have hb1 := h.b_re
                    exact Nat.lt_of_not_le (fun z => hc_k115 ((nI_leI (a := nr) (b := k115) (by omega) (by omega)).mpr z))
                  refine lv_aload_n hx hb dX16_correct_129 rfl (lv_at hl 4 rfl) ?_
                  refine rE0 ((rfl).trans ((hK_T115.G (t := 16) (i := 0) rfl)).symm) ?_
                  refine g_16_10 (S := T115) (x := (some (gG T115 17 10))) X w h.v wF_X16_29 (h.f_re) dX16_correct_130 ?_
                  refine lv_iload hx hb dX16_correct_133 (lv_at hl 0 rfl) ?_
                  refine cF (S := T115) (t := 17) (nA := 1) (As := [.int (nI k115)]) (rest := []) X w hl h.l_re.1 (m_get G T115 ea 10 k115 nr (some (gG T115 13 k115)) h.l_re hlt_k115 (h.e_re k115 hlt_k115).1) wY_Jx4a65c_get_915e3 wM_X16_46 wIn_Jx4a65c_get_915e3 wSe_Jx4a65c_Jx4a65c_get_915e3_of_java_util_List_get__I_Ljava_lang_Object_ wI_Jx4a65c fw_get (by decide) rfl (by decide +kernel) rfl rfl dX16_correct_135 ⟨by decide, by decide⟩ (Nat.le_of_ble_eq_true rfl) (⟨(show 1 + gC n2 + 0 ≤ 6 by omega), (show 3 + gL n2 + 0 ≤ 209 by omega)⟩) (fun v9 S1 H locs hp w => ?_)
                  obtain ⟨rfl, rfl⟩ := hp
                  refine ckC (S := T115) (t := 13) X w (h.e_re k115 hlt_k115).2.1 (by decide) rfl wC_X16_177 dX16_correct_140 ?_
                  refine g_13_2 (S := T115) (x := (some (gG T115 35 k115))) X w (h.e_re k115 hlt_k115).2.1 wF_X16_179 ((h.e_re k115 hlt_k115).2.2.1) dX16_correct_143 ?_
                  refine lv_aload_n hx hb dX16_correct_146 rfl (lv_at hl 4 rfl) ?_
                  refine rE0 ((rfl).trans ((hK_T115.G (t := 16) (i := 0) rfl)).symm) ?_
                  refine g_16_11 (S := T115) (x := (some (gG T115 17 11))) X w h.v wF_X16_32 (h.f_qu) dX16_correct_147 ?_
                  refine lv_iload_n hx hb dX16_correct_150 rfl (lv_at hl 2 rfl) ?_
                  obtain ⟨g10, hlg10, heg10⟩ := hQ.1 k12 hlt_k12
                  refine cF (S := T115) (t := 17) (nA := 1) (As := [.int (nI k12)]) (rest := [.ref (gG T115 35 k115)]) X w hl h.l_qu.1 (m_get G T115 ea 11 k12 nq (some (iq s0 g10)) h.l_qu hlt_k12 heg10) wY_Jx4a65c_get_915e3 wM_X16_46 wIn_Jx4a65c_get_915e3 wSe_Jx4a65c_Jx4a65c_get_915e3_of_java_util_List_get__I_Ljava_lang_Object_ wI_Jx4a65c fw_get (by decide) rfl (by decide +kernel) rfl rfl dX16_correct_151 ⟨by decide, by decide⟩ (Nat.le_of_ble_eq_true rfl) (⟨(show 1 + gC n2 + 0 ≤ 6 by omega), (show 3 + gL n2 + 0 ≤ 209 by omega)⟩) (fun v11 S1 H locs hp w => ?_)
                  obtain ⟨rfl, rfl⟩ := hp
                  refine ckIn (S := T115) (j := g10) X w (Nat.lt_of_lt_of_le hlg10 h.b_ta) wC_X16_165 dX16_correct_156 ?_
                  refine cVx (S := T115) (nA := 0) (As := []) (rest := [.ref (gG T115 35 k115)]) X w hl (recI X w (Nat.lt_of_lt_of_le hlg10 h.b_ta)) (m_J6_intValue_8abf5 G T115 g10 (Nat.lt_of_lt_of_le hlg10 h.b_ta)) wY_J6_intValue_8abf5 wM_X16_174 wIn_J6_intValue_8abf5 wSe_J6_J6_intValue_8abf5 wI_J6 (by decide) rfl rfl dX16_correct_159 ⟨by decide, by decide⟩ (Nat.le_of_ble_eq_true rfl) (⟨(show 1 + gC n2 + 0 ≤ 6 by omega), (show 3 + gL n2 + 0 ≤ 209 by omega)⟩) (fun v12 S1 H locs hp w => ?_)
                  obtain ⟨rfl, rfl⟩ := hp
                  refine aLdI (S := T115) (t := 35) (v := mA T115 35 k115 g10) X w (h.e_re k115 hlt_k115).2.2.2.1 (by decide) rfl rfl (by rw [(h.e_re k115 hlt_k115).2.2.2.2]; exact nI_vp (Nat.lt_of_lt_of_le hlg10 h.b_ta) (by decide)) (by rw [cl_nI (n := 40) (Nat.lt_of_lt_of_le hlg10 h.b_ta) (by decide)]) dX16_correct_162 ?_
                  refine lv_iconst (v := 1) hx hb dX16_correct_163 (by decide) ?_
                  have J202 : ∀ (TJ202 : HS) (H : Heap) (locs : List Loc) (ls : Array Slot), (RI ea TJ202 ns nj nm nt nr nq) → (Kq hvC hiC hrC S TJ202) → (gG TJ202 17 12 = q1) → (LsOk ea TJ202 12 n2) → (n2 = 0 → ¬ vV TJ202 30 12) → (∀ j, j < n2 → ∃ g, g < nt ∧ mB TJ202 30 12 j = some (iq s0 g)) → (QI s0 TJ202 nq nt) → Wd s0 D cy TJ202 s.heap H locs → lv_has ls 5 [(4, .int (nI k115)), (2, .int (v12_2 ||| (b2i z40_1))), (3, .int (nI k12)), (1, .ref (gG (sNew S 17 12 q1) 17 12)), (0, .ref (gG S 16 0))] → W p l e rm_m_X16_correct s m ([.ref (gG S 16 0)] : List Value).toArray below meth c H locs (1 + gC n2) (3 + gL n2) (MQ below (GQ s0 D cy (fun v S' => none = v ∧ ∃ n2, RI ea S' ns nj nm nt nr n2 ∧ Kq hvQ hiQ hrQ S S' ∧ QI s0 S' n2 nt ∧ (∀ i, mI S' 247 i = mI S 247 i))) ([.ref (gG S 16 0)] : List Value).toArray s rm_m_X16_correct.cells rm_m_X16_correct.slots (A0 s0)) (F0 m 202 ls []) := by
                    intro TJ202 H locs ls h hK_TJ202 e12 hL hz2 hE2 hQ w hl
                    have hK := hK_TJ202
                    refine lv_iinc (v := nI (k115 + 1)) (lv' := [(4, .int (nI (k115 + 1))), (2, .int (v12_2 ||| (b2i z40_1))), (3, .int (nI k12)), (1, .ref (gG (sNew S 17 12 q1) 17 12)), (0, .ref (gG S 16 0))]) hx hb dX16_correct_202 hl (k := 0) rfl (nI_1 _) (by decide) rfl (fun ls hl => ?_)
                    refine lv_goto (tgt := 115) hx hb dX16_correct_205 (by decide) ?_
                    exact ih115 (k115 + 1) TJ202 _ _ _ (by omega) (hlt_k115) (h) (hK) (e12) (hL) (hz2) (hE2) (hQ) w (lv_sub hl [0, 1, 2, 3, 4] rfl)
                  refine lv_icmp_ne (tgt := 202) hx hb dX16_correct_164 (by decide) (fun hc13 => ?_) (fun hc13 => ?_)
                  · exact J202 T115 _ _ _ (h) (hK) (e12) (hL) (hz2) (hE2) (hQ) w (lv_sub hl [0, 1, 2, 3, 4] rfl)
                  · refine lv_aload_n hx hb dX16_correct_167 rfl (lv_at hl 4 rfl) ?_
                    refine rE0 ((rfl).trans ((hK_T115.G (t := 16) (i := 0) rfl)).symm) ?_
                    refine g_16_10 (S := T115) (x := (some (gG T115 17 10))) X w h.v wF_X16_29 (h.f_re) dX16_correct_168 ?_
                    refine lv_iload hx hb dX16_correct_171 (lv_at hl 0 rfl) ?_
                    refine cF (S := T115) (t := 17) (nA := 1) (As := [.int (nI k115)]) (rest := []) X w hl h.l_re.1 (m_get G T115 ea 10 k115 nr (some (gG T115 13 k115)) h.l_re hlt_k115 (h.e_re k115 hlt_k115).1) wY_Jx4a65c_get_915e3 wM_X16_46 wIn_Jx4a65c_get_915e3 wSe_Jx4a65c_Jx4a65c_get_915e3_of_java_util_List_get__I_Ljava_lang_Object_ wI_Jx4a65c fw_get (by decide) rfl (by decide +kernel) rfl rfl dX16_correct_173 ⟨by decide, by decide⟩ (Nat.le_of_ble_eq_true rfl) (⟨(show 1 + gC n2 + 0 ≤ 6 by omega), (show 3 + gL n2 + 0 ≤ 209 by omega)⟩) (fun v14 S1 H locs hp w => ?_)
                    obtain ⟨rfl, rfl⟩ := hp
                    refine ckC (S := T115) (t := 13) X w (h.e_re k115 hlt_k115).2.1 (by decide) rfl wC_X16_177 dX16_correct_178 ?_
                    refine g_13_2 (S := T115) (x := (some (gG T115 35 k115))) X w (h.e_re k115 hlt_k115).2.1 wF_X16_179 ((h.e_re k115 hlt_k115).2.2.1) dX16_correct_181 ?_
                    refine lv_aload_n hx hb dX16_correct_184 rfl (lv_at hl 4 rfl) ?_
                    refine rE0 ((rfl).trans ((hK_T115.G (t := 16) (i := 0) rfl)).symm) ?_
                    refine g_16_11 (S := T115) (x := (some (gG T115 17 11))) X w h.v wF_X16_32 (h.f_qu) dX16_correct_185 ?_
                    refine lv_iload_n hx hb dX16_correct_188 rfl (lv_at hl 2 rfl) ?_
                    obtain ⟨g15, hlg15, heg15⟩ := hQ.1 k12 hlt_k12
                    refine cF (S := T115) (t := 17) (nA := 1) (As := [.int (nI k12)]) (rest := [.ref (gG T115 35 k115)]) X w hl h.l_qu.1 (m_get G T115 ea 11 k12 nq (some (iq s0 g15)) h.l_qu hlt_k12 heg15) wY_Jx4a65c_get_915e3 wM_X16_46 wIn_Jx4a65c_get_915e3 wSe_Jx4a65c_Jx4a65c_get_915e3_of_java_util_List_get__I_Ljava_lang_Object_ wI_Jx4a65c fw_get (by decide) rfl (by decide +kernel) rfl rfl dX16_correct_189 ⟨by decide, by decide⟩ (Nat.le_of_ble_eq_true rfl) (⟨(show 1 + gC n2 + 0 ≤ 6 by omega), (show 3 + gL n2 + 0 ≤ 209 by omega)⟩) (fun v16 S1 H locs hp w => ?_)
                    obtain ⟨rfl, rfl⟩ := hp
                    refine ckIn (S := T115) (j := g15) X w (Nat.lt_of_lt_of_le hlg15 h.b_ta) wC_X16_165 dX16_correct_194 ?_
                    refine cVx (S := T115) (nA := 0) (As := []) (rest := [.ref (gG T115 35 k115)]) X w hl (recI X w (Nat.lt_of_lt_of_le hlg15 h.b_ta)) (m_J6_intValue_8abf5 G T115 g15 (Nat.lt_of_lt_of_le hlg15 h.b_ta)) wY_J6_intValue_8abf5 wM_X16_174 wIn_J6_intValue_8abf5 wSe_J6_J6_intValue_8abf5 wI_J6 (by decide) rfl rfl dX16_correct_197 ⟨by decide, by decide⟩ (Nat.le_of_ble_eq_true rfl) (⟨(show 1 + gC n2 + 0 ≤ 6 by omega), (show 3 + gL n2 + 0 ≤ 209 by omega)⟩) (fun v17 S1 H locs hp w => ?_)
                    obtain ⟨rfl, rfl⟩ := hp
                    refine lv_iconst (v := 2) hx hb dX16_correct_200 (by decide) ?_
                    refine aStI (S := T115) (t := 35) X w (h.e_re k115 hlt_k115).2.2.2.1 (by decide) rfl rfl (by show vp_in _ (mN _ 35 k115); rw [(h.e_re k115 hlt_k115).2.2.2.2]; exact nI_vp (Nat.lt_of_lt_of_le hlg15 h.b_ta) (by decide)) dX16_correct_201 (fun H locs w => ?_)
                    have h : RI ea (sA T115 35 k115 (upd (mA T115 35 k115) (nI g15).toNatClampNeg 2)) ns nj nm nt nr nq := h.a35 _ _
                    have hK : Kq hvC hiC hrC S (sA T115 35 k115 (upd (mA T115 35 k115) (nI g15).toNatClampNeg 2)) := hK.sA rfl
                    exact J202 (sA T115 35 k115 (upd (mA T115 35 k115) (nI g15).toNatClampNeg 2)) _ _ _ (h) (hK) (e12) (hL) (hz2) (hE2) (hQ) w (lv_sub hl [0, 1, 2, 3, 4] rfl)
            exact L115 _ 0 (sI (sI T12 258 0 ((mI T12 258 0) - 10)) 253 g4 2) _ _ _ (Nat.lt_succ_self _) (Nat.zero_le _) (h) (hK) (e12) (hL) (hz2) (hE2) (hQ) w (lv_sub hl [0, 1, 2, 3, 4] rfl)
          · refine lv_aload_n hx hb dX16_correct_46 rfl (lv_at hl 2 rfl) ?_
            refine lv_aload_n hx hb dX16_correct_47 rfl (lv_at hl 3 rfl) ?_
            refine rE0 ((rfl).trans ((hK_T12.G (t := 16) (i := 0) rfl)).symm) ?_
            refine g_16_11 (S := T12) (x := (some (gG T12 17 11))) X w h.v wF_X16_32 (h.f_qu) dX16_correct_48 ?_
            refine lv_iload_n hx hb dX16_correct_51 rfl (lv_at hl 1 rfl) ?_
            obtain ⟨g18, hlg18, heg18⟩ := hQ.1 k12 hlt_k12
            refine cF (S := T12) (t := 17) (nA := 1) (As := [.int (nI k12)]) (rest := [.ref (gG (sNew S 17 12 q1) 17 12)]) X w hl h.l_qu.1 (m_get G T12 ea 11 k12 nq (some (iq s0 g18)) h.l_qu hlt_k12 heg18) wY_Jx4a65c_get_915e3 wM_X16_46 wIn_Jx4a65c_get_915e3 wSe_Jx4a65c_Jx4a65c_get_915e3_of_java_util_List_get__I_Ljava_lang_Object_ wI_Jx4a65c fw_get (by decide) rfl (by decide +kernel) rfl rfl dX16_correct_52 ⟨by decide, by decide⟩ (Nat.le_of_ble_eq_true rfl) (⟨(show 1 + gC n2 + 0 ≤ 6 by omega), (show 3 + gL n2 + 0 ≤ 209 by omega)⟩) (fun v19 S1 H locs hp w => ?_)
            obtain ⟨rfl, rfl⟩ := hp
            refine ckIn (S := T12) (j := g18) X w (Nat.lt_of_lt_of_le hlg18 h.b_ta) wC_X16_165 dX16_correct_57 ?_
            refine rE1 ((show gG (sNew S 17 12 q1) 17 12 = q1 from rfl).trans e12.symm) ?_
            refine cF (S := T12) (t := 17) (nA := 1) (As := [.ref (iq s0 g18)]) (rest := []) X w hl hL.1 (add_q12 G T12 n2 nt g18 (hea ▸ hL) h.b_ta (by have := hQ.le; have := h.b_ta; omega) hz2 (h.z31 12) hE2 hlg18) wY_Jx4a65c_add_9ea2d wM_X16_170 wIn_Jx4a65c_add_9ea2d wSe_Jx4a65c_Jx4a65c_add_9ea2d_of_java_util_List_add__Ljava_lang_Object__Z wI_Jx4a65c fw_add (by decide) rfl (by decide +kernel) rfl rfl dX16_correct_60 ⟨Nat.le_of_ble_eq_true rfl, Nat.le_of_ble_eq_true rfl⟩ (Nat.le_of_ble_eq_true rfl) (⟨(show 1 + gC n2 + addC n2 ≤ 6 by have := (gCL (n2 + 1) (by have := hQ.le; have := h.b_ta; omega)).1; have e : gC (n2 + 1) = gC n2 + addC n2 := rfl; omega), (show 3 + gL n2 + addL n2 ≤ 209 by have := (gCL (n2 + 1) (by have := hQ.le; have := h.b_ta; omega)).2; have e : gL (n2 + 1) = gL n2 + addL n2 := rfl; omega)⟩) (fun v20 S1 H locs hp w => ?_)
            obtain ⟨rfl, q2, m2, b2, rfl, hb0, hb1⟩ := hp
            have h : RI ea (addS T12 12 q2 (capOf (n2 + 1)) m2 (nI (n2 + 1)) b2) ns nj nm nt nr nq := h.add12
            have hK : Kq hvC hiC hrC S (addS T12 12 q2 (capOf (n2 + 1)) m2 (nI (n2 + 1)) b2) := hK.add rfl rfl rfl rfl
            have hL : LsOk ea (addS T12 12 q2 (capOf (n2 + 1)) m2 (nI (n2 + 1)) b2) 12 (n2 + 1) := hL.add (by have := hQ.le; have := h.b_ta; omega)
            have hz2 : n2 + 1 = 0 → ¬ vV (addS T12 12 q2 (capOf (n2 + 1)) m2 (nI (n2 + 1)) b2) 30 12 := fun z => absurd z (by omega)
            have hE2 : ∀ j, j < n2 + 1 → ∃ g, g < nt ∧ mB (addS T12 12 q2 (capOf (n2 + 1)) m2 (nI (n2 + 1)) b2) 30 12 j = some (iq s0 g) := fun j hj => by
              rw [show mB (addS T12 12 q2 (capOf (n2 + 1)) m2 (nI (n2 + 1)) b2) 30 12 = b2 from rfl]
              rcases Nat.lt_succ_iff_lt_or_eq.mp hj with z | z
              · rw [hb1 j z]; exact hE2 j z
              · rw [z]; exact ⟨_, hlg18, hb0⟩
            have hQ : QI s0 (addS T12 12 q2 (capOf (n2 + 1)) m2 (nI (n2 + 1)) b2) nq nt := ⟨hQ.1, hQ.2⟩
            refine lv_pop hx hb dX16_correct_65 rfl ?_
            refine lv_goto (tgt := 208) hx hb dX16_correct_66 (by decide) ?_
            refine lv_iinc (v := nI (k12 + 1)) (lv' := [(3, .int (nI (k12 + 1))), (2, .int (v12_2 ||| (b2i z40_1))), (1, .ref (gG (sNew S 17 12 q1) 17 12)), (0, .ref (gG S 16 0))]) hx hb dX16_correct_208 hl (k := 1) rfl (nI_1 _) (by decide) rfl (fun ls hl => ?_)
            refine lv_goto (tgt := 12) hx hb dX16_correct_211 (by decide) ?_
            refine W.widen (k := 1 + gC (n2 + 1)) (n := 3 + gL (n2 + 1)) (by first | exact Nat.le_refl _ | exact (show 1 + gC n2 + addC n2 ≤ 1 + (gC n2 + addC n2) by omega)) (by first | exact Nat.le_refl _ | exact (show 3 + gL n2 + addL n2 ≤ 3 + (gL n2 + addL n2) by omega)) ?_
            exact ih12 (k12 + 1) (v12_2 ||| (b2i z40_1)) (n2 + 1) (addS T12 12 q2 (capOf (n2 + 1)) m2 (nI (n2 + 1)) b2) _ _ _ (by omega) (hlt_k12) (by omega) (h) (hK) (e12) (hL) (hz2) (hE2) (hQ) w (lv_sub hl [0, 1, 2, 3] rfl)
        refine lv_icmp_ge (tgt := 39) hx hb dX16_correct_32 (by decide) (fun hc21 => ?_) (fun hc21 => ?_)
        · refine lv_iconst (v := 0) hx hb dX16_correct_39 (by decide) ?_
          exact J40 false _ _ _  w (lv_sub hl [0, 1, 2, 3] rfl)
        · refine lv_iconst (v := 1) hx hb dX16_correct_35 (by decide) ?_
          refine lv_goto (tgt := 40) hx hb dX16_correct_36 (by decide) ?_
          exact J40 true _ _ _  w (lv_sub hl [0, 1, 2, 3] rfl)
  refine W.widen (k := 1 + gC 0) (n := 3 + gL 0) (Nat.le_of_ble_eq_true rfl) (Nat.le_of_ble_eq_true rfl) ?_
  exact L12 _ 0 0 0 (sR (sI (sNew S 17 12 q1) 272 12 0) 273 12 (some (eaOf s0))) _ _ _ (Nat.lt_succ_self _) (Nat.zero_le _) (Nat.zero_le _) (h) (hK) (rfl) (hL) (hz2) (hE2) (hQ) w (lv_sub hl [0, 1, 2, 3] rfl)
