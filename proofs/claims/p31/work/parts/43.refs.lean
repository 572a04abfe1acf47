def okR (f : Nat) : Bool := !([274, 227, 240, 241, 247, 257].contains f)
theorem RI.stI {ea : Nat} {S : HS} {ns nj nm nt nr nq f i : Nat} {x : Int32} (h : RI ea S ns nj nm nt nr nq) (hf : okR f = true) : RI ea (sI S f i x) ns nj nm nt nr nq := by
  have ne274 : ¬ (274 = f) := fun z => by rw [← z] at hf; exact absurd hf (by decide)
  have ne227 : ¬ (227 = f) := fun z => by rw [← z] at hf; exact absurd hf (by decide)
  have ne240 : ¬ (240 = f) := fun z => by rw [← z] at hf; exact absurd hf (by decide)
  have ne241 : ¬ (241 = f) := fun z => by rw [← z] at hf; exact absurd hf (by decide)
  have ne247 : ¬ (247 = f) := fun z => by rw [← z] at hf; exact absurd hf (by decide)
  have ne257 : ¬ (257 = f) := fun z => by rw [← z] at hf; exact absurd hf (by decide)
  exact ⟨h.v, h.f_st, h.f_jm, h.f_mo, h.f_ta, h.f_re, h.f_qu, (h.l_st.of id (sI_n (fun z => ne274 z.1)) rfl id (fun _ => rfl) rfl), (h.l_jm.of id (sI_n (fun z => ne274 z.1)) rfl id (fun _ => rfl) rfl), (h.l_mo.of id (sI_n (fun z => ne274 z.1)) rfl id (fun _ => rfl) rfl), (h.l_ta.of id (sI_n (fun z => ne274 z.1)) rfl id (fun _ => rfl) rfl), (h.l_re.of id (sI_n (fun z => ne274 z.1)) rfl id (fun _ => rfl) rfl), (h.l_qu.of id (sI_n (fun z => ne274 z.1)) rfl id (fun _ => rfl) rfl), h.b_st, h.b_jm, h.b_mo, h.b_ta, h.b_re, h.b_qu, h.e_st, h.e_jm, h.e_mo, h.e_ta, h.e_re, h.h1, h.h2, h.s1, h.s2, (fun j hj => by have z := h.x_st j hj; rw [show mI (sI S f i x) 227 j = mI S 227 j from sI_n (fun q => ne227 q.1)]; exact z), (fun j hj => by have z := h.x_ts j hj; rw [show mI (sI S f i x) 240 j = mI S 240 j from sI_n (fun q => ne240 q.1)]; exact z), (fun j hj => by have z := h.x_th j hj; rw [show mI (sI S f i x) 241 j = mI S 241 j from sI_n (fun q => ne241 q.1)]; exact z), (fun j hj => by have z := h.x_tt j hj; rw [show mI (sI S f i x) 247 j = mI S 247 j from sI_n (fun q => ne247 q.1)]; exact z), h.x_he, h.x_si, h.x_hs, (by have z := h.x_ho; rw [show mI (sI S f i x) 257 0 = mI S 257 0 from sI_n (fun q => ne257 q.1)]; exact z), h.z_st, h.z_jm, h.z_mo, h.z_ta, h.z_re, h.z30, h.z12, h.z31⟩
theorem RI.s247 {ea : Nat} {S : HS} {ns nj nm nt nr nq : Nat} (h : RI ea S ns nj nm nt nr nq) {j : Nat} {x : Int32} (hx : ∃ g, g < 5 ∧ x = nI g) : RI ea (sI S 247 j x) ns nj nm nt nr nq := by
  exact ⟨h.v, h.f_st, h.f_jm, h.f_mo, h.f_ta, h.f_re, h.f_qu, h.l_st, h.l_jm, h.l_mo, h.l_ta, h.l_re, h.l_qu, h.b_st, h.b_jm, h.b_mo, h.b_ta, h.b_re, h.b_qu, h.e_st, h.e_jm, h.e_mo, h.e_ta, h.e_re, h.h1, h.h2, h.s1, h.s2, h.x_st, h.x_ts, h.x_th, (fun k hk => by
    by_cases e : k = j
    · rw [e, show mI (sI S 247 j x) 247 j = x from up2_s _ _ _ _]; exact Or.inr hx
    · rw [show mI (sI S 247 j x) 247 k = mI S 247 k from up2_n (fun y => e y.2)]; exact h.x_tt k hk), h.x_he, h.x_si, h.x_hs, h.x_ho, h.z_st, h.z_jm, h.z_mo, h.z_ta, h.z_re, h.z30, h.z12, h.z31⟩
theorem RI.s257 {ea : Nat} {S : HS} {ns nj nm nt nr nq : Nat} (h : RI ea S ns nj nm nt nr nq) {g : Nat} (hg : g ≤ 720) : RI ea (sI S 257 0 (nI g)) ns nj nm nt nr nq := by
  exact ⟨h.v, h.f_st, h.f_jm, h.f_mo, h.f_ta, h.f_re, h.f_qu, h.l_st, h.l_jm, h.l_mo, h.l_ta, h.l_re, h.l_qu, h.b_st, h.b_jm, h.b_mo, h.b_ta, h.b_re, h.b_qu, h.e_st, h.e_jm, h.e_mo, h.e_ta, h.e_re, h.h1, h.h2, h.s1, h.s2, h.x_st, h.x_ts, h.x_th, h.x_tt, h.x_he, h.x_si, h.x_hs, (⟨g, hg, rfl⟩), h.z_st, h.z_jm, h.z_mo, h.z_ta, h.z_re, h.z30, h.z12, h.z31⟩
theorem RI.a33 {ea : Nat} {S : HS} {ns nj nm nt nr nq : Nat} (h : RI ea S ns nj nm nt nr nq) (i : Nat) (f : Nat → Int32) : RI ea (sA S 33 i f) ns nj nm nt nr nq := h
theorem RI.a34 {ea : Nat} {S : HS} {ns nj nm nt nr nq : Nat} (h : RI ea S ns nj nm nt nr nq) (i : Nat) (f : Nat → Int32) : RI ea (sA S 34 i f) ns nj nm nt nr nq := h
theorem RI.a35 {ea : Nat} {S : HS} {ns nj nm nt nr nq : Nat} (h : RI ea S ns nj nm nt nr nq) (i : Nat) (f : Nat → Int32) : RI ea (sA S 35 i f) ns nj nm nt nr nq := h
/-- the queue: Integers of talks, each talk but once -/
def QI (s0 : State) (S : HS) (nq nt : Nat) : Prop := (∀ j, j < nq → ∃ g, g < nt ∧ mB S 30 11 j = some (iq s0 g)) ∧ nq ≤ cntB (fun j => decide (mI S 253 j ≠ 0)) nt
theorem QI.le {s0 : State} {S : HS} {nq nt : Nat} (h : QI s0 S nq nt) : nq ≤ nt := Nat.le_trans h.2 (cntB_le _ nt)
theorem QI.of {s0 : State} {S T : HS} {nq nt : Nat} (h : QI s0 S nq nt) (eB : mB T 30 11 = mB S 30 11) (e : ∀ j, mI S 253 j ≠ 0 → mI T 253 j ≠ 0) : QI s0 T nq nt := ⟨fun j hj => by rw [eB]; exact h.1 j hj, Nat.le_trans h.2 (cntB_mono nt (fun j _ z => decide_eq_true (e j (of_decide_eq_true z))))⟩
theorem RI.el_qu {s0 : State} {l : Launch} {D : va_G} {cy : Nat → ClassId} (G : Gl s0 l D cy) {S : HS} {nq nt : Nat} (hb : nt ≤ 40) (q : QI s0 S nq nt) : ∀ j, j < nq → ∀ y, mB S 30 11 j = some y → EL s0 S y := fun j hj y hy => by
  obtain ⟨g, hg, e⟩ := q.1 j hj
  rw [e] at hy
  cases hy
  exact EL.iq G (by omega)
theorem add_qu {s0 : State} {l : Launch} {D : va_G} {cy : Nat → ClassId} (G : Gl s0 l D cy) (S : HS) (ea ns nj nm nt nr nq : Nat) (h : RI ea S ns nj nm nt nr nq) (hea : ea = eaOf s0) (q : QI s0 S nq nt) (j : Nat) (hj : j < nt) : Ctr s0 l D cy yJx4a65c_add_9ea2d cJx4a65c_add_9ea2d 2 (some .boolean) rm_add1 S [.ref (gG S 17 11), .ref (iq s0 j)] (AddP S 11 nq (iq s0 j)) := by
  have hb := h.b_ta
  have hq := q.le
  exact (m_addn G S 11 nq (iq s0 j) (hea ▸ h.l_qu) (by omega) h.z30.2.2.2.2.2 (h.z31 11) (RI.el_qu G h.b_ta q) (EL.iq G (by omega))).weak (Nat.le_refl _) (Nat.le_refl _) (addC_le nq) (addL_le nq)

theorem add_qun {s0 : State} {l : Launch} {D : va_G} {cy : Nat → ClassId} (G : Gl s0 l D cy) (S : HS) (ea ns nj nm nt nr nq : Nat) (h : RI ea S ns nj nm nt nr nq) (hea : ea = eaOf s0) (q : QI s0 S nq nt) (j : Nat) (hj : j < nt) : Ctr s0 l D cy yJx4a65c_add_9ea2d cJx4a65c_add_9ea2d 2 (some .boolean) (rm_addn nq) S [.ref (gG S 17 11), .ref (iq s0 j)] (AddP S 11 nq (iq s0 j)) := by
  have hb := h.b_ta
  have hq := q.le
  exact m_addn G S 11 nq (iq s0 j) (hea ▸ h.l_qu) (by omega) h.z30.2.2.2.2.2 (h.z31 11) (RI.el_qu G h.b_ta q) (EL.iq G (by omega))

theorem RI.addqu {ea : Nat} {S : HS} {ns nj nm nt nr nq : Nat} (h : RI ea S ns nj nm nt nr nq) {q : Nat} {mm : Int32} {b : Nat → Option Nat} (hn : nq < 40) : RI ea (addS S 11 q (capOf (nq + 1)) mm (nI (nq + 1)) b) ns nj nm nt nr (nq + 1) := by
  have up : ∀ t k, vV S t k → vV (addS S 11 q (capOf (nq + 1)) mm (nI (nq + 1)) b) t k := fun t k v => Or.inl v
  have dn : ∀ t i, ¬ (t = 30 ∧ i = 11) → vV (addS S 11 q (capOf (nq + 1)) mm (nI (nq + 1)) b) t i → vV S t i := fun t i d v => v.elim id (fun e => absurd e d)
  exact ⟨(up _ _ h.v), h.f_st, h.f_jm, h.f_mo, h.f_ta, h.f_re, h.f_qu, (h.l_st.of (up _ _) rfl rfl (up _ _) (fun _ => rfl) rfl), (h.l_jm.of (up _ _) rfl rfl (up _ _) (fun _ => rfl) rfl), (h.l_mo.of (up _ _) rfl rfl (up _ _) (fun _ => rfl) rfl), (h.l_ta.of (up _ _) rfl rfl (up _ _) (fun _ => rfl) rfl), (h.l_re.of (up _ _) rfl rfl (up _ _) (fun _ => rfl) rfl), (⟨up _ _ h.l_qu.1, rfl, by omega, fun z => absurd z (by omega), fun _ => ⟨Or.inr ⟨rfl, rfl⟩, rfl, rfl⟩⟩), h.b_st, h.b_jm, h.b_mo, h.b_ta, h.b_re, (by omega), (fun j hj => ⟨(h.e_st j hj).1, up _ _ (h.e_st j hj).2⟩), (fun j hj => ⟨(h.e_jm j hj).1, up _ _ (h.e_jm j hj).2.1, (h.e_jm j hj).2.2⟩), (fun j hj => ⟨(h.e_mo j hj).1, up _ _ (h.e_mo j hj).2.1, (h.e_mo j hj).2.2.1, up _ _ (h.e_mo j hj).2.2.2.1, (h.e_mo j hj).2.2.2.2⟩), (fun j hj => ⟨(h.e_ta j hj).1, up _ _ (h.e_ta j hj).2⟩), (fun j hj => ⟨(h.e_re j hj).1, up _ _ (h.e_re j hj).2.1, (h.e_re j hj).2.2.1, up _ _ (h.e_re j hj).2.2.2.1, (h.e_re j hj).2.2.2.2⟩), ⟨up _ _ h.h1.1, h.h1.2⟩, (fun a ha => ⟨(h.h2 a ha).1, up _ _ (h.h2 a ha).2.1, (h.h2 a ha).2.2⟩), ⟨up _ _ h.s1.1, h.s1.2⟩, (fun a ha => ⟨(h.s2 a ha).1, up _ _ (h.s2 a ha).2.1, (h.s2 a ha).2.2⟩), h.x_st, h.x_ts, h.x_th, h.x_tt, h.x_he, h.x_si, h.x_hs, h.x_ho, (fun j hj v => h.z_st j hj (dn _ j (by omega) v)), (fun j hj v => h.z_jm j hj (dn _ j (by omega) v)), (fun j hj => ⟨fun v => (h.z_mo j hj).1 (dn _ j (by omega) v), fun v => (h.z_mo j hj).2 (dn _ j (by omega) v)⟩), (fun j hj v => h.z_ta j hj (dn _ j (by omega) v)), (fun j hj => ⟨fun v => (h.z_re j hj).1 (dn _ j (by omega) v), fun v => (h.z_re j hj).2 (dn _ j (by omega) v)⟩), (⟨(fun z v => h.z30.1 z (dn 30 6 (by omega) v)), (fun z v => h.z30.2.1 z (dn 30 7 (by omega) v)), (fun z v => h.z30.2.2.1 z (dn 30 8 (by omega) v)), (fun z v => h.z30.2.2.2.1 z (dn 30 9 (by omega) v)), (fun z v => h.z30.2.2.2.2.1 z (dn 30 10 (by omega) v)), (fun z v => absurd z (by omega))⟩), trivial, (fun k v => h.z31 k (dn 31 k (by omega) v))⟩
theorem QI.add {s0 : State} {S : HS} {nq nt q c j : Nat} {mm z : Int32} {b : Nat → Option Nat} (h : QI s0 S nq nt) (hj : j < nt) (hr : nq + 1 ≤ cntB (fun j => decide (mI S 253 j ≠ 0)) nt) (hb0 : b nq = some (iq s0 j)) (hb1 : ∀ i, i < nq → b i = mB S 30 11 i) : QI s0 (addS S 11 q c mm z b) (nq + 1) nt := by
  refine ⟨fun k hk => ?_, hr⟩
  rw [show mB (addS S 11 q c mm z b) 30 11 = b from rfl]
  rcases Nat.lt_succ_iff_lt_or_eq.mp hk with z | z
  · rw [hb1 k z]; exact h.1 k z
  · rw [z]; exact ⟨j, hj, hb0⟩

