def hidI (f i : Nat) : Bool := f == 50 || (f == 51 || ((Nat.ble 96 f && Nat.ble f 111) || (f == 67 || (f == 68 || (f == 69 || ((f == 272 || f == 274) && i == 5))))))
def hidR (f i : Nat) : Bool := f == 273 && i == 5
def hidV (t i : Nat) : Bool := t == 30 && i == 5
/-- what is told of S but what an hour writes on: weariness, reports, the wire, the corrections -/
def mH (S : HS) : HS := ((fun t i => if hidV t i = true then True else vV S t i), (fun t i => if hidV t i = true then 0 else gG S t i), (fun f i => if hidI f i = true then 0 else mI S f i), (fun f i => if hidR f i = true then none else mR S f i), (fun t i => if hidV t i = true then 0 else mN S t i), mA S, (fun t i => if hidV t i = true then fun _ => none else mB S t i), mL S, mD S)
theorem mH_sI {S : HS} {f i : Nat} {x : Int32} (h : hidI f i = true) : mH (sI S f i x) = mH S := by
  have e : (fun g j => if hidI g j = true then (0 : Int32) else mI (sI S f i x) g j) = (fun g j => if hidI g j = true then 0 else mI S g j) := by
    funext g j
    by_cases c : hidI g j = true
    · rw [if_pos c, if_pos c]
    · rw [if_neg c, if_neg c]
      exact sI_n (fun z => c (by rw [z.1, z.2]; exact h))
  unfold mH
  rw [e]; rfl
theorem mH_add {S : HS} {q cap : Nat} {m z : Int32} {b : Nat → Option Nat} : mH (addS S 5 q cap m z b) = mH S := by
  have v30 : ∀ {t i : Nat}, hidV t i = true → t = 30 ∧ i = 5 := fun h => by simpa [hidV] using h
  have e1 : (fun t i => if hidV t i = true then True else vV (addS S 5 q cap m z b) t i) = (fun t i => if hidV t i = true then True else vV S t i) := by
    funext t i
    by_cases c : hidV t i = true
    · rw [if_pos c, if_pos c]
    · rw [if_neg c, if_neg c]
      exact propext ⟨fun x => x.elim id (fun y => absurd (by rw [y.1, y.2]; rfl) c), Or.inl⟩
  have no : ∀ {α : Type} (g : Nat → Nat → α) (t i : Nat) (v d : α), (if hidV t i = true then d else up2 g 30 5 v t i) = (if hidV t i = true then d else g t i) := by
    intro α g t i v d
    by_cases c : hidV t i = true
    · rw [if_pos c, if_pos c]
    · rw [if_neg c, if_neg c]
      exact up2_n (fun y => c (by rw [y.1, y.2]; rfl))
  have e2 : (fun t i => if hidV t i = true then 0 else gG (addS S 5 q cap m z b) t i) = (fun t i => if hidV t i = true then 0 else gG S t i) := by funext t i; exact no (gG S) t i q 0
  have e5 : (fun t i => if hidV t i = true then 0 else mN (addS S 5 q cap m z b) t i) = (fun t i => if hidV t i = true then 0 else mN S t i) := by funext t i; exact no (mN S) t i cap 0
  have e7 : (fun t i => if hidV t i = true then fun _ => none else mB (addS S 5 q cap m z b) t i) = (fun t i => if hidV t i = true then fun _ => none else mB S t i) := by funext t i; exact no (mB S) t i b (fun _ => none)
  have e3 : (fun f i => if hidI f i = true then (0 : Int32) else mI (addS S 5 q cap m z b) f i) = (fun f i => if hidI f i = true then 0 else mI S f i) := by
    funext f i
    by_cases c : hidI f i = true
    · rw [if_pos c, if_pos c]
    · rw [if_neg c, if_neg c]
      have c1 : ¬ (f = 274 ∧ i = 5) := fun y => c (by rw [y.1, y.2]; rfl)
      have c2 : ¬ (f = 272 ∧ i = 5) := fun y => c (by rw [y.1, y.2]; rfl)
      exact (up2_n c1).trans (up2_n c2)
  have e4 : (fun f i => if hidR f i = true then none else mR (addS S 5 q cap m z b) f i) = (fun f i => if hidR f i = true then none else mR S f i) := by
    funext f i
    by_cases c : hidR f i = true
    · rw [if_pos c, if_pos c]
    · rw [if_neg c, if_neg c]
      exact up2_n (fun y => c (by rw [y.1, y.2]; rfl))
  unfold mH
  rw [e1, e2, e3, e4, e5, e7]; rfl
theorem mH_V {S S' : HS} (h : mH S' = mH S) {t i : Nat} (c : hidV t i = false) : vV S' t i = vV S t i := by
  have := congrFun (congrFun (congrArg (fun X => X.1) h) t) i
  simpa [mH, c] using this
theorem mH_I {S S' : HS} (h : mH S' = mH S) {f i : Nat} (c : hidI f i = false) : mI S' f i = mI S f i := by
  have := congrFun (congrFun (congrArg mI h) f) i
  simpa [mH, mI, c] using this
theorem mH_R {S S' : HS} (h : mH S' = mH S) {f i : Nat} (c : hidR f i = false) : mR S' f i = mR S f i := by
  have := congrFun (congrFun (congrArg mR h) f) i
  simpa [mH, mR, c] using this
theorem mH_G {S S' : HS} (h : mH S' = mH S) {t i : Nat} (c : hidV t i = false) : gG S' t i = gG S t i := by
  have := congrFun (congrFun (congrArg gG h) t) i
  simpa [mH, gG, c] using this
/-- the reference doesn't see it -/
theorem RI.mH {ea : Nat} {S : HS} {ns nj nm nt nr nq : Nat} : RI ea (mH S) ns nj nm nt nr nq ↔ RI ea S ns nj nm nt nr nq := Iff.rfl

def okI (f : Nat) : Bool := !([274, 133, 164, 146, 128, 48, 144, 80, 104, 151].contains f)
theorem CI.sI {ea : Nat} {S : HS} {ns nj nm nt nr nc f i : Nat} {x : Int32} (hf : okI f = true) (h : CI ea S ns nj nm nt nr nc) : CI ea (sI S f i x) ns nj nm nt nr nc := by
  have ne274 : ¬ (274 = f) := fun z => by rw [← z] at hf; exact absurd hf (by decide)
  have ne133 : ¬ (133 = f) := fun z => by rw [← z] at hf; exact absurd hf (by decide)
  have ne164 : ¬ (164 = f) := fun z => by rw [← z] at hf; exact absurd hf (by decide)
  have ne146 : ¬ (146 = f) := fun z => by rw [← z] at hf; exact absurd hf (by decide)
  have ne128 : ¬ (128 = f) := fun z => by rw [← z] at hf; exact absurd hf (by decide)
  have ne48 : ¬ (48 = f) := fun z => by rw [← z] at hf; exact absurd hf (by decide)
  have ne144 : ¬ (144 = f) := fun z => by rw [← z] at hf; exact absurd hf (by decide)
  have ne80 : ¬ (80 = f) := fun z => by rw [← z] at hf; exact absurd hf (by decide)
  have ne104 : ¬ (104 = f) := fun z => by rw [← z] at hf; exact absurd hf (by decide)
  have ne151 : ¬ (151 = f) := fun z => by rw [← z] at hf; exact absurd hf (by decide)
  have eP : ∀ j, pOut (sI S f i x) j = pOut S j := fun j => by
    have e1 : mI (sI S f i x) 104 j = mI S 104 j := sI_n (fun q => ne104 q.1)
    have e2 : mI (sI S f i x) 151 j = mI S 151 j := sI_n (fun q => ne151 q.1)
    unfold pOut
    rw [e1, e2]; rfl
  exact ⟨h.v10, h.f160, h.f161, h.f162, h.f163, h.v0, h.f0, h.f1, h.v7, h.f112, h.f113, h.f114, h.f115, h.v4, h.f64, h.f65, h.f66, h.v2, h.f32, h.f33, h.f34, h.f35, h.f36, h.a0, h.a1, h.a2, h.a3, h.a4, (h.l_st.of id (sI_n (fun z => ne274 z.1)) rfl id (fun _ => rfl) rfl), (h.l_jm.of id (sI_n (fun z => ne274 z.1)) rfl id (fun _ => rfl) rfl), (h.l_mo.of id (sI_n (fun z => ne274 z.1)) rfl id (fun _ => rfl) rfl), (h.l_ta.of id (sI_n (fun z => ne274 z.1)) rfl id (fun _ => rfl) rfl), (h.l_re.of id (sI_n (fun z => ne274 z.1)) rfl id (fun _ => rfl) rfl), (h.l_co.of id (sI_n (fun z => ne274 z.1)) rfl id (fun _ => rfl) rfl), h.b_st, h.b_jm, h.b_mo, h.b_ta, h.b_re, h.b_co, h.e_st, h.e_jm, h.e_mo, h.e_ta, h.e_re, h.e_co, h.t_st, h.t_rp, (fun j hj => by have z := h.x_to j hj; rw [show mI (sI S f i x) 133 j = mI S 133 j from sI_n (fun q => ne133 q.1)]; exact z), (by have z := h.x_ho; rw [show mI (sI S f i x) 164 0 = mI S 164 0 from sI_n (fun q => ne164 q.1)]; exact z), (fun j hj => by have z := h.x_th j hj; rw [show mI (sI S f i x) 146 j = mI S 146 j from sI_n (fun q => ne146 q.1)]; exact z), (fun j hj => by have z := h.n_st j hj; rw [show mI (sI S f i x) 128 j = mI S 128 j from sI_n (fun q => ne128 q.1)]; exact z), (fun j hj => by have z := h.n_mo j hj; rw [show mI (sI S f i x) 48 j = mI S 48 j from sI_n (fun q => ne48 q.1)]; exact z), (fun j hj => by have z := h.n_ta j hj; rw [show mI (sI S f i x) 144 j = mI S 144 j from sI_n (fun q => ne144 q.1)]; exact z), (fun j hj => by have z := h.n_re j hj; rw [show mI (sI S f i x) 80 j = mI S 80 j from sI_n (fun q => ne80 q.1)]; exact z), h.z_st, h.z_jm, h.z_mo, h.z_ta, h.z_re, h.z_rp, h.z30, h.z31, (h.x_co.trans (cntB_mono nt (fun j _ hj => (eP j).trans hj)))⟩