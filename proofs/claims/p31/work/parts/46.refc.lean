def gC : Nat → Nat
  | 0 => 0
  | n + 1 => gC n + addC n
def gL : Nat → Nat
  | 0 => 0
  | n + 1 => gL n + addL n
theorem gCL : ∀ n, n ≤ 40 → gC n ≤ 5 ∧ gL n ≤ 206 := fun n h => (by decide +kernel : ∀ n, n < 41 → gC n ≤ 5 ∧ gL n ≤ 206) n (Nat.lt_succ_of_le h)
/-! the queue that is made anew: the list 12, which then is the list 11 -/
def hvC (t i : Nat) : Bool := ((t == 17 || t == 30) && i == 12) || t == 35
def hiC (f i : Nat) : Bool := f == 253 || (f == 258 || (f / 16 == 17 && i == 12))
def hrC (f i : Nat) : Bool := f == 267 || (f / 16 == 17 && i == 12)
def swQ (S T : HS) : HS :=
  ((fun t i => if (t = 17 ∨ t = 30) ∧ i = 11 then vV T t 12 else if (t = 17 ∨ t = 30) ∧ i = 12 then vV S t 12 else vV T t i),
   (fun t i => if (t = 17 ∨ t = 30) ∧ i = 11 then gG T t 12 else if (t = 17 ∨ t = 30) ∧ i = 12 then gG S t 12 else gG T t i),
   (fun f i => if (f = 272 ∨ f = 274) ∧ i = 11 then mI T f 12 else if f / 16 = 17 ∧ i = 12 then mI S f 12 else mI T f i),
   (fun f i => if f = 273 ∧ i = 11 then mR T f 12 else if f / 16 = 17 ∧ i = 12 then mR S f 12 else mR T f i),
   (fun t i => if t = 30 ∧ i = 11 then mN T t 12 else if (t = 17 ∨ t = 30) ∧ i = 12 then mN S t 12 else mN T t i),
   (fun t i => if (t = 17 ∨ t = 30) ∧ i = 12 then mA S t 12 else mA T t i),
   (fun t i => if t = 30 ∧ i = 11 then mB T t 12 else if (t = 17 ∨ t = 30) ∧ i = 12 then mB S t 12 else mB T t i),
   mL T, mD T)
theorem hvC_f {t i : Nat} (h1 : ¬ ((t = 17 ∨ t = 30) ∧ i = 12)) (h2 : ¬ t = 35) : hvC t i = false := by
  simp only [hvC, Bool.or_eq_false_iff, Bool.and_eq_false_iff, beq_eq_false_iff_ne]
  omega
theorem hvQ_f {t i : Nat} (h : hvQ t i = false) : ¬ ((t = 17 ∨ t = 30) ∧ i = 11) ∧ ¬ t = 35 := by
  simp only [hvQ, Bool.or_eq_false_iff, Bool.and_eq_false_iff, beq_eq_false_iff_ne] at h
  omega
theorem hiQ_f {f i : Nat} (h : hiQ f i = false) : ¬ ((f = 272 ∨ f = 274) ∧ i = 11) ∧ ¬ f = 253 ∧ ¬ f = 258 := by
  simp only [hiQ, Bool.or_eq_false_iff, Bool.and_eq_false_iff, beq_eq_false_iff_ne] at h
  obtain ⟨h1, h2⟩ := h
  have h3 : ¬ (246 ≤ f ∧ f ≤ 255) := fun y => by
    rcases h1 with z | z
    · rw [Nat.ble_eq.mpr y.1] at z; exact absurd z (by decide)
    · rw [Nat.ble_eq.mpr y.2] at z; exact absurd z (by decide)
  clear h1
  omega
theorem hiC_f {f i : Nat} (h1 : ¬ f = 253) (h2 : ¬ f = 258) (h3 : ¬ (f / 16 = 17 ∧ i = 12)) : hiC f i = false := by
  simp only [hiC, Bool.or_eq_false_iff, Bool.and_eq_false_iff, beq_eq_false_iff_ne]
  omega
theorem hrQ_f {f i : Nat} (h : hrQ f i = false) : ¬ (f = 273 ∧ i = 11) ∧ ¬ f = 267 := by
  simp only [hrQ, Bool.or_eq_false_iff, Bool.and_eq_false_iff, beq_eq_false_iff_ne] at h
  omega
theorem hrC_f {f i : Nat} (h1 : ¬ f = 267) (h3 : ¬ (f / 16 = 17 ∧ i = 12)) : hrC f i = false := by
  simp only [hrC, Bool.or_eq_false_iff, Bool.and_eq_false_iff, beq_eq_false_iff_ne]
  omega
theorem kq_sw {S T : HS} (k : Kq hvC hiC hrC S T) : Kq hvQ hiQ hrQ S (swQ S T) := by
  refine ⟨fun t i h => ?_, fun f i h => ?_, fun f i h => ?_, k.2.2.2⟩
  · obtain ⟨h1, h2⟩ := hvQ_f h
    have a30 : ¬ (t = 30 ∧ i = 11) := fun z => h1 ⟨Or.inr z.1, z.2⟩
    by_cases c : (t = 17 ∨ t = 30) ∧ i = 12
    · exact ⟨(if_neg h1).trans ((if_pos c).trans (by rw [c.2])), (if_neg h1).trans ((if_pos c).trans (by rw [c.2])), (if_neg a30).trans ((if_pos c).trans (by rw [c.2])), (if_neg a30).trans ((if_pos c).trans (by rw [c.2])), (if_pos c).trans (by rw [c.2])⟩
    · obtain ⟨k1, k2, k3, k4, k5⟩ := k.1 t i (hvC_f c h2)
      exact ⟨(if_neg h1).trans ((if_neg c).trans k1), (if_neg h1).trans ((if_neg c).trans k2), (if_neg a30).trans ((if_neg c).trans k3), (if_neg a30).trans ((if_neg c).trans k4), (if_neg c).trans k5⟩
  · obtain ⟨h1, h2, h3⟩ := hiQ_f h
    by_cases c : f / 16 = 17 ∧ i = 12
    · exact (if_neg h1).trans ((if_pos c).trans (by rw [c.2]))
    · exact (if_neg h1).trans ((if_neg c).trans (k.2.1 f i (hiC_f h2 h3 c)))
  · obtain ⟨h1, h2⟩ := hrQ_f h
    by_cases c : f / 16 = 17 ∧ i = 12
    · exact (if_neg h1).trans ((if_pos c).trans (by rw [c.2]))
    · exact (if_neg h1).trans ((if_neg c).trans (k.2.2.1 f i (hrC_f h2 c)))
theorem sw_w {s0 : State} {D : va_G} {cy : Nat → ClassId} {S T : HS} {H : Heap} (hZ : ¬ vV S 17 12 ∧ ¬ vV S 30 12) (h : WP s0 D cy T H) : WP s0 D cy (swQ S T) H := by
  have c12 : ∀ t i, vV (swQ S T) t i → ¬ ((t = 17 ∨ t = 30) ∧ i = 12) := fun t i hv c => by
    have e : vV (swQ S T) t i = vV S t 12 := (if_neg (fun z => by omega)).trans (if_pos c)
    rw [e] at hv
    rcases c with ⟨rfl | rfl, -⟩
    · exact hZ.1 hv
    · exact hZ.2 hv
  refine h.map (fun t i => if (t = 17 ∨ t = 30) ∧ i = 11 then (t, 12) else (t, i)) (fun t i hv => ?_) (fun t i t' i' h1 h2 e => ?_)
  · by_cases a : (t = 17 ∨ t = 30) ∧ i = 11
    · rw [if_pos a]
      refine ⟨by have e : vV (swQ S T) t i = vV T t 12 := if_pos a
                 rw [← e]; exact hv, if_pos a, ?_⟩
      rcases a with ⟨rfl | rfl, rfl⟩
      · rfl
      · rfl
    · rw [if_neg a]
      have b := c12 t i hv
      refine ⟨by have e : vV (swQ S T) t i = vV T t i := (if_neg a).trans (if_neg b)
                 rw [← e]; exact hv, (if_neg a).trans (if_neg b), ?_⟩
      show cellM cy (swQ S T) t i = cellM cy T t i
      unfold cellM
      by_cases h21 : t < 21
      · rw [if_pos h21, if_pos h21]
        congr 2
        apply List.map_congr_left
        intro k hk
        have hk16 : k < 16 := Nat.lt_of_lt_of_le (List.mem_range.mp hk) (nf_le t)
        have e1 : mI (swQ S T) (16 * t + k) i = mI T (16 * t + k) i := (if_neg (fun z => a ⟨Or.inl (by omega), z.2⟩)).trans (if_neg (fun z => b ⟨Or.inl (by omega), z.2⟩))
        have e2 : mR (swQ S T) (16 * t + k) i = mR T (16 * t + k) i := (if_neg (fun z => a ⟨Or.inl (by omega), z.2⟩)).trans (if_neg (fun z => b ⟨Or.inl (by omega), z.2⟩))
        unfold fval
        rw [e1, e2]; rfl
      · rw [if_neg h21, if_neg h21]
        have e3 : mN (swQ S T) t i = mN T t i := (if_neg (fun z => a ⟨Or.inr z.1, z.2⟩)).trans (if_neg b)
        have e4 : mB (swQ S T) t i = mB T t i := (if_neg (fun z => a ⟨Or.inr z.1, z.2⟩)).trans (if_neg b)
        have e5 : mA (swQ S T) t i = mA T t i := if_neg b
        rw [e3, e4, e5]
  · have n1 := c12 t i h1
    have n2 := c12 t' i' h2
    by_cases c : (t = 17 ∨ t = 30) ∧ i = 11
    · by_cases c' : (t' = 17 ∨ t' = 30) ∧ i' = 11
      · rw [if_pos c, if_pos c'] at e
        exact ⟨congrArg Prod.fst e, c.2.trans c'.2.symm⟩
      · rw [if_pos c, if_neg c'] at e
        have e1 : t = t' := congrArg Prod.fst e
        have e2 : 12 = i' := congrArg Prod.snd e
        exact absurd ⟨by rw [← e1]; exact c.1, e2.symm⟩ n2
    · by_cases c' : (t' = 17 ∨ t' = 30) ∧ i' = 11
      · rw [if_neg c, if_pos c'] at e
        have e1 : t = t' := congrArg Prod.fst e
        have e2 : i = 12 := congrArg Prod.snd e
        exact absurd ⟨by rw [e1]; exact c'.1, e2⟩ n1
      · rw [if_neg c, if_neg c'] at e
        exact ⟨congrArg Prod.fst e, congrArg Prod.snd e⟩
theorem QI.s253 {s0 : State} {S : HS} {nq nt g : Nat} {x : Int32} (h : QI s0 S nq nt) (hx : x ≠ 0) : QI s0 (sI S 253 g x) nq nt := h.of rfl (fun j z => by
  by_cases e : j = g
  · rw [e, show mI (sI S 253 g x) 253 g = x from up2_s _ _ _ _]; exact hx
  · rw [show mI (sI S 253 g x) 253 j = mI S 253 j from up2_n (fun y => e y.2)]; exact z)
theorem add_q12 {s0 : State} {l : Launch} {D : va_G} {cy : Nat → ClassId} (G : Gl s0 l D cy) (T : HS) (n2 nt g : Nat) (hL : LsOk (eaOf s0) T 12 n2) (hb : nt ≤ 40) (hn : n2 < 40) (hz : n2 = 0 → ¬ vV T 30 12) (h31 : ¬ vV T 31 12) (hE : ∀ j, j < n2 → ∃ g, g < nt ∧ mB T 30 12 j = some (iq s0 g)) (hg : g < nt) : Ctr s0 l D cy yJx4a65c_add_9ea2d cJx4a65c_add_9ea2d 2 (some .boolean) (rm_addn n2) T [.ref (gG T 17 12), .ref (iq s0 g)] (AddP T 12 n2 (iq s0 g)) :=
  m_addn G T 12 n2 (iq s0 g) hL (by omega) hz h31 (fun j hj y hy => by
    obtain ⟨g9, hg9, e⟩ := hE j hj
    rw [e] at hy
    cases hy
    exact EL.iq G (by omega)) (EL.iq G (by omega))
theorem LsOk.add {ea q : Nat} {S : HS} {k n : Nat} {mm : Int32} {b : Nat → Option Nat} (h : LsOk ea S k n) (hn : n < 49) : LsOk ea (addS S k q (capOf (n + 1)) mm (nI (n + 1)) b) k (n + 1) :=
  ⟨Or.inl h.1, up2_s _ _ _ _, by omega, fun z => absurd z (by omega), fun _ => ⟨Or.inr ⟨rfl, rfl⟩, (up2_s _ _ _ _).trans (congrArg some (up2_s _ _ _ _).symm), up2_s _ _ _ _⟩⟩

theorem RI.new12 {ea : Nat} {S : HS} {ns nj nm nt nr nq : Nat} (h : RI ea S ns nj nm nt nr nq) {q : Nat} : RI ea (sNew S 17 12 q) ns nj nm nt nr nq := by
  have up : ∀ t k, vV S t k → vV (sNew S 17 12 q) t k := fun t k v => Or.inl v
  have dn : ∀ t i, ¬ (t = 17 ∧ i = 12) → vV (sNew S 17 12 q) t i → vV S t i := fun t i d v => v.elim id (fun e => absurd e d)
  exact ⟨(up _ _ h.v), h.f_st, h.f_jm, h.f_mo, h.f_ta, h.f_re, h.f_qu, (h.l_st.of (up _ _) rfl rfl (up _ _) (fun _ => rfl) rfl), (h.l_jm.of (up _ _) rfl rfl (up _ _) (fun _ => rfl) rfl), (h.l_mo.of (up _ _) rfl rfl (up _ _) (fun _ => rfl) rfl), (h.l_ta.of (up _ _) rfl rfl (up _ _) (fun _ => rfl) rfl), (h.l_re.of (up _ _) rfl rfl (up _ _) (fun _ => rfl) rfl), (h.l_qu.of (up _ _) rfl rfl (up _ _) (fun _ => rfl) rfl), h.b_st, h.b_jm, h.b_mo, h.b_ta, h.b_re, h.b_qu, (fun j hj => ⟨(h.e_st j hj).1, up _ _ (h.e_st j hj).2⟩), (fun j hj => ⟨(h.e_jm j hj).1, up _ _ (h.e_jm j hj).2.1, (h.e_jm j hj).2.2⟩), (fun j hj => ⟨(h.e_mo j hj).1, up _ _ (h.e_mo j hj).2.1, (h.e_mo j hj).2.2.1, up _ _ (h.e_mo j hj).2.2.2.1, (h.e_mo j hj).2.2.2.2⟩), (fun j hj => ⟨(h.e_ta j hj).1, up _ _ (h.e_ta j hj).2⟩), (fun j hj => ⟨(h.e_re j hj).1, up _ _ (h.e_re j hj).2.1, (h.e_re j hj).2.2.1, up _ _ (h.e_re j hj).2.2.2.1, (h.e_re j hj).2.2.2.2⟩), ⟨up _ _ h.h1.1, h.h1.2⟩, (fun a ha => ⟨(h.h2 a ha).1, up _ _ (h.h2 a ha).2.1, (h.h2 a ha).2.2⟩), ⟨up _ _ h.s1.1, h.s1.2⟩, (fun a ha => ⟨(h.s2 a ha).1, up _ _ (h.s2 a ha).2.1, (h.s2 a ha).2.2⟩), h.x_st, h.x_ts, h.x_th, h.x_tt, h.x_he, h.x_si, h.x_hs, h.x_ho, (fun j hj v => h.z_st j hj (dn _ j (by omega) v)), (fun j hj v => h.z_jm j hj (dn _ j (by omega) v)), (fun j hj => ⟨fun v => (h.z_mo j hj).1 (dn _ j (by omega) v), fun v => (h.z_mo j hj).2 (dn _ j (by omega) v)⟩), (fun j hj v => h.z_ta j hj (dn _ j (by omega) v)), (fun j hj => ⟨fun v => (h.z_re j hj).1 (dn _ j (by omega) v), fun v => (h.z_re j hj).2 (dn _ j (by omega) v)⟩), ⟨(fun z v => h.z30.1 z (dn 30 6 (by omega) v)), (fun z v => h.z30.2.1 z (dn 30 7 (by omega) v)), (fun z v => h.z30.2.2.1 z (dn 30 8 (by omega) v)), (fun z v => h.z30.2.2.2.1 z (dn 30 9 (by omega) v)), (fun z v => h.z30.2.2.2.2.1 z (dn 30 10 (by omega) v)), (fun z v => h.z30.2.2.2.2.2 z (dn 30 11 (by omega) v))⟩, trivial, (fun k v => h.z31 k (dn 31 k (by omega) v))⟩
theorem RI.r12 {ea : Nat} {S : HS} {ns nj nm nt nr nq : Nat} (h : RI ea S ns nj nm nt nr nq) {x : Option Nat} : RI ea (sR S 273 12 x) ns nj nm nt nr nq := by
  exact ⟨h.v, h.f_st, h.f_jm, h.f_mo, h.f_ta, h.f_re, h.f_qu, h.l_st, h.l_jm, h.l_mo, h.l_ta, h.l_re, h.l_qu, h.b_st, h.b_jm, h.b_mo, h.b_ta, h.b_re, h.b_qu, h.e_st, h.e_jm, h.e_mo, h.e_ta, h.e_re, h.h1, h.h2, h.s1, h.s2, h.x_st, h.x_ts, h.x_th, h.x_tt, h.x_he, h.x_si, h.x_hs, h.x_ho, h.z_st, h.z_jm, h.z_mo, h.z_ta, h.z_re, h.z30, h.z12, h.z31⟩
theorem RI.add12 {ea : Nat} {S : HS} {ns nj nm nt nr nq : Nat} (h : RI ea S ns nj nm nt nr nq) {q cap : Nat} {mm z : Int32} {b : Nat → Option Nat} : RI ea (addS S 12 q cap mm z b) ns nj nm nt nr nq := by
  have up : ∀ t k, vV S t k → vV (addS S 12 q cap mm z b) t k := fun t k v => Or.inl v
  have dn : ∀ t i, ¬ (t = 30 ∧ i = 12) → vV (addS S 12 q cap mm z b) t i → vV S t i := fun t i d v => v.elim id (fun e => absurd e d)
  exact ⟨(up _ _ h.v), h.f_st, h.f_jm, h.f_mo, h.f_ta, h.f_re, h.f_qu, (h.l_st.of (up _ _) rfl rfl (up _ _) (fun _ => rfl) rfl), (h.l_jm.of (up _ _) rfl rfl (up _ _) (fun _ => rfl) rfl), (h.l_mo.of (up _ _) rfl rfl (up _ _) (fun _ => rfl) rfl), (h.l_ta.of (up _ _) rfl rfl (up _ _) (fun _ => rfl) rfl), (h.l_re.of (up _ _) rfl rfl (up _ _) (fun _ => rfl) rfl), (h.l_qu.of (up _ _) rfl rfl (up _ _) (fun _ => rfl) rfl), h.b_st, h.b_jm, h.b_mo, h.b_ta, h.b_re, h.b_qu, (fun j hj => ⟨(h.e_st j hj).1, up _ _ (h.e_st j hj).2⟩), (fun j hj => ⟨(h.e_jm j hj).1, up _ _ (h.e_jm j hj).2.1, (h.e_jm j hj).2.2⟩), (fun j hj => ⟨(h.e_mo j hj).1, up _ _ (h.e_mo j hj).2.1, (h.e_mo j hj).2.2.1, up _ _ (h.e_mo j hj).2.2.2.1, (h.e_mo j hj).2.2.2.2⟩), (fun j hj => ⟨(h.e_ta j hj).1, up _ _ (h.e_ta j hj).2⟩), (fun j hj => ⟨(h.e_re j hj).1, up _ _ (h.e_re j hj).2.1, (h.e_re j hj).2.2.1, up _ _ (h.e_re j hj).2.2.2.1, (h.e_re j hj).2.2.2.2⟩), ⟨up _ _ h.h1.1, h.h1.2⟩, (fun a ha => ⟨(h.h2 a ha).1, up _ _ (h.h2 a ha).2.1, (h.h2 a ha).2.2⟩), ⟨up _ _ h.s1.1, h.s1.2⟩, (fun a ha => ⟨(h.s2 a ha).1, up _ _ (h.s2 a ha).2.1, (h.s2 a ha).2.2⟩), h.x_st, h.x_ts, h.x_th, h.x_tt, h.x_he, h.x_si, h.x_hs, h.x_ho, (fun j hj v => h.z_st j hj (dn _ j (by omega) v)), (fun j hj v => h.z_jm j hj (dn _ j (by omega) v)), (fun j hj => ⟨fun v => (h.z_mo j hj).1 (dn _ j (by omega) v), fun v => (h.z_mo j hj).2 (dn _ j (by omega) v)⟩), (fun j hj v => h.z_ta j hj (dn _ j (by omega) v)), (fun j hj => ⟨fun v => (h.z_re j hj).1 (dn _ j (by omega) v), fun v => (h.z_re j hj).2 (dn _ j (by omega) v)⟩), ⟨(fun z v => h.z30.1 z (dn 30 6 (by omega) v)), (fun z v => h.z30.2.1 z (dn 30 7 (by omega) v)), (fun z v => h.z30.2.2.1 z (dn 30 8 (by omega) v)), (fun z v => h.z30.2.2.2.1 z (dn 30 9 (by omega) v)), (fun z v => h.z30.2.2.2.2.1 z (dn 30 10 (by omega) v)), (fun z v => h.z30.2.2.2.2.2 z (dn 30 11 (by omega) v))⟩, trivial, (fun k v => h.z31 k (dn 31 k (by omega) v))⟩
theorem RI.swq {ea : Nat} {S : HS} {ns nj nm nt nr nq : Nat} (h : RI ea S ns nj nm nt nr nq) {S0 : HS} {n2 : Nat} (hL : LsOk ea S 12 n2) (hn : n2 ≤ 40) (hz : n2 = 0 → ¬ vV S 30 12) : RI ea (swQ S0 (sR S 267 0 (some (gG S 17 12)))) ns nj nm nt nr n2 := by
  exact ⟨h.v, h.f_st, h.f_jm, h.f_mo, h.f_ta, h.f_re, (rfl), h.l_st, h.l_jm, h.l_mo, h.l_ta, h.l_re, (hL), h.b_st, h.b_jm, h.b_mo, h.b_ta, h.b_re, (hn), h.e_st, h.e_jm, h.e_mo, h.e_ta, h.e_re, h.h1, h.h2, h.s1, h.s2, h.x_st, h.x_ts, h.x_th, h.x_tt, h.x_he, h.x_si, h.x_hs, h.x_ho, h.z_st, h.z_jm, h.z_mo, h.z_ta, h.z_re, (⟨h.z30.1, h.z30.2.1, h.z30.2.2.1, h.z30.2.2.2.1, h.z30.2.2.2.2.1, hz⟩), h.z12, h.z31⟩
theorem hiC17 {f : Nat} (z : f / 16 = 17) : hiC f 12 = true := by simp [hiC, z]
theorem hrC17 {f : Nat} (z : f / 16 = 17) : hrC f 12 = true := by simp [hrC, z]

theorem dX16_correct_0 : decode cX16_correct 0 = .ok (.new 13, 3) := by decide +kernel
theorem dX16_correct_3 : decode cX16_correct 3 = .ok (.dup, 1) := by decide +kernel
theorem dX16_correct_4 : decode cX16_correct 4 = .ok (.invokespecial 15, 3) := by decide +kernel
theorem dX16_correct_7 : decode cX16_correct 7 = .ok (.astore_n 1, 1) := by decide +kernel
theorem dX16_correct_8 : decode cX16_correct 8 = .ok (.iconst 0, 1) := by decide +kernel
theorem dX16_correct_9 : decode cX16_correct 9 = .ok (.istore_n 2, 1) := by decide +kernel
theorem dX16_correct_10 : decode cX16_correct 10 = .ok (.iconst 0, 1) := by decide +kernel
theorem dX16_correct_11 : decode cX16_correct 11 = .ok (.istore_n 3, 1) := by decide +kernel
theorem dX16_correct_12 : decode cX16_correct 12 = .ok (.iload_n 3, 1) := by decide +kernel
theorem dX16_correct_13 : decode cX16_correct 13 = .ok (.aload_n 0, 1) := by decide +kernel
theorem dX16_correct_14 : decode cX16_correct 14 = .ok (.getfield 32, 3) := by decide +kernel
theorem dX16_correct_17 : decode cX16_correct 17 = .ok (.invokeinterface 73 1, 5) := by decide +kernel
theorem dX16_correct_22 : decode cX16_correct 22 = .ok (.if_icmp .ge 192, 3) := by decide +kernel
theorem dX16_correct_25 : decode cX16_correct 25 = .ok (.iload_n 2, 1) := by decide +kernel
theorem dX16_correct_26 : decode cX16_correct 26 = .ok (.aload_n 0, 1) := by decide +kernel
theorem dX16_correct_27 : decode cX16_correct 27 = .ok (.getfield 7, 3) := by decide +kernel
theorem dX16_correct_30 : decode cX16_correct 30 = .ok (.bipush 10, 2) := by decide +kernel
theorem dX16_correct_32 : decode cX16_correct 32 = .ok (.if_icmp .ge 7, 3) := by decide +kernel
theorem dX16_correct_35 : decode cX16_correct 35 = .ok (.iconst 1, 1) := by decide +kernel
theorem dX16_correct_36 : decode cX16_correct 36 = .ok (.goto 4, 3) := by decide +kernel
theorem dX16_correct_39 : decode cX16_correct 39 = .ok (.iconst 0, 1) := by decide +kernel
theorem dX16_correct_40 : decode cX16_correct 40 = .ok (.ior, 1) := by decide +kernel
theorem dX16_correct_41 : decode cX16_correct 41 = .ok (.istore_n 2, 1) := by decide +kernel
theorem dX16_correct_42 : decode cX16_correct 42 = .ok (.iload_n 2, 1) := by decide +kernel
theorem dX16_correct_43 : decode cX16_correct 43 = .ok (.ifCond .eq 26, 3) := by decide +kernel
theorem dX16_correct_46 : decode cX16_correct 46 = .ok (.aload_n 1, 1) := by decide +kernel
theorem dX16_correct_47 : decode cX16_correct 47 = .ok (.aload_n 0, 1) := by decide +kernel
theorem dX16_correct_48 : decode cX16_correct 48 = .ok (.getfield 32, 3) := by decide +kernel
theorem dX16_correct_51 : decode cX16_correct 51 = .ok (.iload_n 3, 1) := by decide +kernel
theorem dX16_correct_52 : decode cX16_correct 52 = .ok (.invokeinterface 46 2, 5) := by decide +kernel
theorem dX16_correct_57 : decode cX16_correct 57 = .ok (.checkcast 165, 3) := by decide +kernel
theorem dX16_correct_60 : decode cX16_correct 60 = .ok (.invokeinterface 170 2, 5) := by decide +kernel
theorem dX16_correct_65 : decode cX16_correct 65 = .ok (.pop, 1) := by decide +kernel
theorem dX16_correct_66 : decode cX16_correct 66 = .ok (.goto 142, 3) := by decide +kernel
theorem dX16_correct_69 : decode cX16_correct 69 = .ok (.aload_n 0, 1) := by decide +kernel
theorem dX16_correct_70 : decode cX16_correct 70 = .ok (.dup, 1) := by decide +kernel
theorem dX16_correct_71 : decode cX16_correct 71 = .ok (.getfield 7, 3) := by decide +kernel
theorem dX16_correct_74 : decode cX16_correct 74 = .ok (.bipush 10, 2) := by decide +kernel
theorem dX16_correct_76 : decode cX16_correct 76 = .ok (.isub, 1) := by decide +kernel
theorem dX16_correct_77 : decode cX16_correct 77 = .ok (.putfield 7, 3) := by decide +kernel
theorem dX16_correct_80 : decode cX16_correct 80 = .ok (.aload_n 0, 1) := by decide +kernel
theorem dX16_correct_81 : decode cX16_correct 81 = .ok (.getfield 26, 3) := by decide +kernel
theorem dX16_correct_84 : decode cX16_correct 84 = .ok (.aload_n 0, 1) := by decide +kernel
theorem dX16_correct_85 : decode cX16_correct 85 = .ok (.getfield 32, 3) := by decide +kernel
theorem dX16_correct_88 : decode cX16_correct 88 = .ok (.iload_n 3, 1) := by decide +kernel
theorem dX16_correct_89 : decode cX16_correct 89 = .ok (.invokeinterface 46 2, 5) := by decide +kernel
theorem dX16_correct_94 : decode cX16_correct 94 = .ok (.checkcast 165, 3) := by decide +kernel
theorem dX16_correct_97 : decode cX16_correct 97 = .ok (.invokevirtual 174, 3) := by decide +kernel
theorem dX16_correct_100 : decode cX16_correct 100 = .ok (.invokeinterface 46 2, 5) := by decide +kernel
theorem dX16_correct_105 : decode cX16_correct 105 = .ok (.checkcast 105, 3) := by decide +kernel
theorem dX16_correct_108 : decode cX16_correct 108 = .ok (.iconst 2, 1) := by decide +kernel
theorem dX16_correct_109 : decode cX16_correct 109 = .ok (.putfield 161, 3) := by decide +kernel
theorem dX16_correct_112 : decode cX16_correct 112 = .ok (.iconst 0, 1) := by decide +kernel
theorem dX16_correct_113 : decode cX16_correct 113 = .ok (.istore 4, 2) := by decide +kernel
theorem dX16_correct_115 : decode cX16_correct 115 = .ok (.iload 4, 2) := by decide +kernel
theorem dX16_correct_117 : decode cX16_correct 117 = .ok (.aload_n 0, 1) := by decide +kernel
theorem dX16_correct_118 : decode cX16_correct 118 = .ok (.getfield 29, 3) := by decide +kernel
theorem dX16_correct_121 : decode cX16_correct 121 = .ok (.invokeinterface 73 1, 5) := by decide +kernel
theorem dX16_correct_126 : decode cX16_correct 126 = .ok (.if_icmp .ge 82, 3) := by decide +kernel
theorem dX16_correct_129 : decode cX16_correct 129 = .ok (.aload_n 0, 1) := by decide +kernel
theorem dX16_correct_130 : decode cX16_correct 130 = .ok (.getfield 29, 3) := by decide +kernel
theorem dX16_correct_133 : decode cX16_correct 133 = .ok (.iload 4, 2) := by decide +kernel
theorem dX16_correct_135 : decode cX16_correct 135 = .ok (.invokeinterface 46 2, 5) := by decide +kernel
theorem dX16_correct_140 : decode cX16_correct 140 = .ok (.checkcast 177, 3) := by decide +kernel
theorem dX16_correct_143 : decode cX16_correct 143 = .ok (.getfield 179, 3) := by decide +kernel
theorem dX16_correct_146 : decode cX16_correct 146 = .ok (.aload_n 0, 1) := by decide +kernel
theorem dX16_correct_147 : decode cX16_correct 147 = .ok (.getfield 32, 3) := by decide +kernel
theorem dX16_correct_150 : decode cX16_correct 150 = .ok (.iload_n 3, 1) := by decide +kernel
theorem dX16_correct_151 : decode cX16_correct 151 = .ok (.invokeinterface 46 2, 5) := by decide +kernel
theorem dX16_correct_156 : decode cX16_correct 156 = .ok (.checkcast 165, 3) := by decide +kernel
theorem dX16_correct_159 : decode cX16_correct 159 = .ok (.invokevirtual 174, 3) := by decide +kernel
theorem dX16_correct_162 : decode cX16_correct 162 = .ok (.iaload, 1) := by decide +kernel
theorem dX16_correct_163 : decode cX16_correct 163 = .ok (.iconst 1, 1) := by decide +kernel
theorem dX16_correct_164 : decode cX16_correct 164 = .ok (.if_icmp .ne 38, 3) := by decide +kernel
theorem dX16_correct_167 : decode cX16_correct 167 = .ok (.aload_n 0, 1) := by decide +kernel
theorem dX16_correct_168 : decode cX16_correct 168 = .ok (.getfield 29, 3) := by decide +kernel
theorem dX16_correct_171 : decode cX16_correct 171 = .ok (.iload 4, 2) := by decide +kernel
theorem dX16_correct_173 : decode cX16_correct 173 = .ok (.invokeinterface 46 2, 5) := by decide +kernel
theorem dX16_correct_178 : decode cX16_correct 178 = .ok (.checkcast 177, 3) := by decide +kernel
theorem dX16_correct_181 : decode cX16_correct 181 = .ok (.getfield 179, 3) := by decide +kernel
theorem dX16_correct_184 : decode cX16_correct 184 = .ok (.aload_n 0, 1) := by decide +kernel
theorem dX16_correct_185 : decode cX16_correct 185 = .ok (.getfield 32, 3) := by decide +kernel
theorem dX16_correct_188 : decode cX16_correct 188 = .ok (.iload_n 3, 1) := by decide +kernel
theorem dX16_correct_189 : decode cX16_correct 189 = .ok (.invokeinterface 46 2, 5) := by decide +kernel
theorem dX16_correct_194 : decode cX16_correct 194 = .ok (.checkcast 165, 3) := by decide +kernel
theorem dX16_correct_197 : decode cX16_correct 197 = .ok (.invokevirtual 174, 3) := by decide +kernel
theorem dX16_correct_200 : decode cX16_correct 200 = .ok (.iconst 2, 1) := by decide +kernel
theorem dX16_correct_201 : decode cX16_correct 201 = .ok (.iastore, 1) := by decide +kernel
theorem dX16_correct_202 : decode cX16_correct 202 = .ok (.iinc 4 1, 3) := by decide +kernel
theorem dX16_correct_205 : decode cX16_correct 205 = .ok (.goto (-90), 3) := by decide +kernel
theorem dX16_correct_208 : decode cX16_correct 208 = .ok (.iinc 3 1, 3) := by decide +kernel
theorem dX16_correct_211 : decode cX16_correct 211 = .ok (.goto (-199), 3) := by decide +kernel
theorem dX16_correct_214 : decode cX16_correct 214 = .ok (.aload_n 0, 1) := by decide +kernel
theorem dX16_correct_215 : decode cX16_correct 215 = .ok (.aload_n 1, 1) := by decide +kernel
theorem dX16_correct_216 : decode cX16_correct 216 = .ok (.putfield 32, 3) := by decide +kernel
theorem dX16_correct_219 : decode cX16_correct 219 = .ok (.return_, 1) := by decide +kernel
