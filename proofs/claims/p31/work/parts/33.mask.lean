/-! what stands behind a step, place by place -/
theorem uI_I {S : HS} {f i g j : Nat} {x : Int32} : mI (sI S f i x) g j = if g = f ∧ j = i then x else mI S g j := rfl
theorem uI_R {S : HS} {f i g j : Nat} {x : Option Nat} : mI (sR S f i x) g j = mI S g j := rfl
theorem uI_A {S : HS} {f i g j : Nat} {x : Nat → Int32} : mI (sA S f i x) g j = mI S g j := rfl
theorem uI_Arr {S : HS} {t i q n g j : Nat} : mI (sArr S t i q n) g j = mI S g j := rfl
theorem uI_N {S : HS} {t i q g j : Nat} : mI (sNew S t i q) g j = if g / 16 = t ∧ j = i then 0 else mI S g j := rfl
theorem uI_add {S : HS} {k q c g j : Nat} {m z : Int32} {b : Nat → Option Nat} : mI (addS S k q c m z b) g j = if g = 274 ∧ j = k then z else if g = 272 ∧ j = k then m else mI S g j := rfl
theorem uR_I {S : HS} {f i g j : Nat} {x : Int32} : mR (sI S f i x) g j = mR S g j := rfl
theorem uR_R {S : HS} {f i g j : Nat} {x : Option Nat} : mR (sR S f i x) g j = if g = f ∧ j = i then x else mR S g j := rfl
theorem uR_A {S : HS} {f i g j : Nat} {x : Nat → Int32} : mR (sA S f i x) g j = mR S g j := rfl
theorem uR_Arr {S : HS} {t i q n g j : Nat} : mR (sArr S t i q n) g j = mR S g j := rfl
theorem uR_N {S : HS} {t i q g j : Nat} : mR (sNew S t i q) g j = if g / 16 = t ∧ j = i then none else mR S g j := rfl
theorem uR_add {S : HS} {k q c g j : Nat} {m z : Int32} {b : Nat → Option Nat} : mR (addS S k q c m z b) g j = if g = 273 ∧ j = k then some q else mR S g j := rfl
theorem uG_I {S : HS} {f i t j : Nat} {x : Int32} : gG (sI S f i x) t j = gG S t j := rfl
theorem uG_R {S : HS} {f i t j : Nat} {x : Option Nat} : gG (sR S f i x) t j = gG S t j := rfl
theorem uG_A {S : HS} {f i t j : Nat} {x : Nat → Int32} : gG (sA S f i x) t j = gG S t j := rfl
theorem uG_Arr {S : HS} {t i q n t' j : Nat} : gG (sArr S t i q n) t' j = if t' = t ∧ j = i then q else gG S t' j := rfl
theorem uG_N {S : HS} {t i q t' j : Nat} : gG (sNew S t i q) t' j = if t' = t ∧ j = i then q else gG S t' j := rfl
theorem uG_add {S : HS} {k q c t j : Nat} {m z : Int32} {b : Nat → Option Nat} : gG (addS S k q c m z b) t j = if t = 30 ∧ j = k then q else gG S t j := rfl
theorem uA_I {S : HS} {f i t j : Nat} {x : Int32} : mA (sI S f i x) t j = mA S t j := rfl
theorem uA_R {S : HS} {f i t j : Nat} {x : Option Nat} : mA (sR S f i x) t j = mA S t j := rfl
theorem uA_A {S : HS} {f i t j : Nat} {x : Nat → Int32} : mA (sA S f i x) t j = if t = f ∧ j = i then x else mA S t j := rfl
theorem uA_Arr {S : HS} {t i q n t' j : Nat} : mA (sArr S t i q n) t' j = if t' = t ∧ j = i then (fun _ => 0) else mA S t' j := rfl
theorem uA_N {S : HS} {t i q t' j : Nat} : mA (sNew S t i q) t' j = mA S t' j := rfl
theorem uA_add {S : HS} {k q c t j : Nat} {m z : Int32} {b : Nat → Option Nat} : mA (addS S k q c m z b) t j = mA S t j := rfl
/-- S and T agree, but for the roles hv, the int fields hi, the reference fields hr -/
def Kq (hv hi hr : Nat → Nat → Bool) (S T : HS) : Prop :=
  (∀ t i, hv t i = false → vV T t i = vV S t i ∧ gG T t i = gG S t i ∧ mN T t i = mN S t i ∧ mB T t i = mB S t i ∧ mA T t i = mA S t i) ∧ (∀ f i, hi f i = false → mI T f i = mI S f i) ∧ (∀ f i, hr f i = false → mR T f i = mR S f i) ∧ ∀ f, f / 16 = 11 → mL T f = mL S f ∧ mD T f = mD S f
section KQ
variable {hv hi hr : Nat → Nat → Bool} {S T U : HS}
theorem Kq.rf : Kq hv hi hr S S := ⟨fun _ _ _ => ⟨rfl, rfl, rfl, rfl, rfl⟩, fun _ _ _ => rfl, fun _ _ _ => rfl, fun _ _ => ⟨rfl, rfl⟩⟩
theorem Kq.tr (a : Kq hv hi hr S T) (b : Kq hv hi hr T U) : Kq hv hi hr S U :=
  ⟨fun t i h => ⟨(b.1 t i h).1.trans (a.1 t i h).1, (b.1 t i h).2.1.trans (a.1 t i h).2.1, (b.1 t i h).2.2.1.trans (a.1 t i h).2.2.1, (b.1 t i h).2.2.2.1.trans (a.1 t i h).2.2.2.1, (b.1 t i h).2.2.2.2.trans (a.1 t i h).2.2.2.2⟩, fun f i h => (b.2.1 f i h).trans (a.2.1 f i h), fun f i h => (b.2.2.1 f i h).trans (a.2.2.1 f i h), fun f h => ⟨(b.2.2.2 f h).1.trans (a.2.2.2 f h).1, (b.2.2.2 f h).2.trans (a.2.2.2 f h).2⟩⟩
theorem Kq.le {hv' hi' hr' : Nat → Nat → Bool} (a : Kq hv hi hr S T) (h1 : ∀ t i, hv' t i = false → hv t i = false) (h2 : ∀ t i, hi' t i = false → hi t i = false) (h3 : ∀ t i, hr' t i = false → hr t i = false) : Kq hv' hi' hr' S T :=
  ⟨fun t i h => a.1 t i (h1 t i h), fun f i h => a.2.1 f i (h2 f i h), fun f i h => a.2.2.1 f i (h3 f i h), a.2.2.2⟩
theorem tf_ne {p : Nat → Nat → Bool} {a b c d : Nat} (h : p a b = true) (z : p c d = false) : ¬ (c = a ∧ d = b) := fun e => by rw [e.1, e.2, h] at z; exact absurd z (by decide)
theorem Kq.sI {f i : Nat} {x : Int32} (a : Kq hv hi hr S T) (h : hi f i = true) : Kq hv hi hr S (sI T f i x) := a.tr ⟨fun _ _ _ => ⟨rfl, rfl, rfl, rfl, rfl⟩, fun _ _ z => up2_n (tf_ne h z), fun _ _ _ => rfl, fun _ _ => ⟨rfl, rfl⟩⟩
theorem Kq.sR {f i : Nat} {x : Option Nat} (a : Kq hv hi hr S T) (h : hr f i = true) : Kq hv hi hr S (sR T f i x) := a.tr ⟨fun _ _ _ => ⟨rfl, rfl, rfl, rfl, rfl⟩, fun _ _ _ => rfl, fun _ _ z => up2_n (tf_ne h z), fun _ _ => ⟨rfl, rfl⟩⟩
theorem Kq.sA {t i : Nat} {x : Nat → Int32} (a : Kq hv hi hr S T) (h : hv t i = true) : Kq hv hi hr S (sA T t i x) := a.tr ⟨fun _ _ z => ⟨rfl, rfl, rfl, rfl, up2_n (tf_ne h z)⟩, fun _ _ _ => rfl, fun _ _ _ => rfl, fun _ _ => ⟨rfl, rfl⟩⟩
theorem Kq.sB {t i : Nat} {x : Nat → Option Nat} (a : Kq hv hi hr S T) (h : hv t i = true) : Kq hv hi hr S (sB T t i x) := a.tr ⟨fun _ _ z => ⟨rfl, rfl, rfl, up2_n (tf_ne h z), rfl⟩, fun _ _ _ => rfl, fun _ _ _ => rfl, fun _ _ => ⟨rfl, rfl⟩⟩
theorem Kq.arr {t i q n : Nat} (a : Kq hv hi hr S T) (h : hv t i = true) : Kq hv hi hr S (sArr T t i q n) := a.tr ⟨fun _ _ z => ⟨propext ⟨fun y => y.elim id (fun y => absurd y (tf_ne h z)), Or.inl⟩, up2_n (tf_ne h z), up2_n (tf_ne h z), up2_n (tf_ne h z), up2_n (tf_ne h z)⟩, fun _ _ _ => rfl, fun _ _ _ => rfl, fun _ _ => ⟨rfl, rfl⟩⟩
theorem Kq.new {t i q : Nat} (a : Kq hv hi hr S T) (h : hv t i = true) (h11 : t ≠ 11) (hI : ∀ f, f / 16 = t → hi f i = true) (hR : ∀ f, f / 16 = t → hr f i = true) : Kq hv hi hr S (sNew T t i q) := a.tr ⟨fun _ _ z => ⟨propext ⟨fun y => y.elim id (fun y => absurd y (tf_ne h z)), Or.inl⟩, up2_n (tf_ne h z), rfl, rfl, rfl⟩, fun f j z => if_neg (fun y => by rw [y.2, hI f y.1] at z; exact absurd z (by decide)), fun f j z => if_neg (fun y => by rw [y.2, hR f y.1] at z; exact absurd z (by decide)), fun f z => ⟨if_neg (fun y => h11 (by rw [← y, z])), if_neg (fun y => h11 (by rw [← y, z]))⟩⟩
theorem Kq.add {k q cap : Nat} {m z : Int32} {b : Nat → Option Nat} (a : Kq hv hi hr S T) (h : hv 30 k = true) (h2 : hi 272 k = true) (h4 : hi 274 k = true) (h3 : hr 273 k = true) : Kq hv hi hr S (addS T k q cap m z b) := a.tr ⟨fun _ _ z => ⟨propext ⟨fun y => y.elim id (fun y => absurd y (tf_ne h z)), Or.inl⟩, up2_n (tf_ne h z), up2_n (tf_ne h z), up2_n (tf_ne h z), rfl⟩, fun _ _ z => (up2_n (tf_ne h4 z)).trans (up2_n (tf_ne h2 z)), fun _ _ z => up2_n (tf_ne h3 z), fun _ _ => ⟨rfl, rfl⟩⟩
theorem Kq.V (a : Kq hv hi hr S T) {t i : Nat} (c : hv t i = false) : vV T t i = vV S t i := (a.1 t i c).1
theorem Kq.G (a : Kq hv hi hr S T) {t i : Nat} (c : hv t i = false) : gG T t i = gG S t i := (a.1 t i c).2.1
theorem Kq.I (a : Kq hv hi hr S T) {f i : Nat} (c : hi f i = false) : mI T f i = mI S f i := a.2.1 f i c
theorem Kq.R (a : Kq hv hi hr S T) {f i : Nat} (c : hr f i = false) : mR T f i = mR S f i := a.2.2.1 f i c
/-- what is told of S but what is named -/
def vwS (hv hi hr : Nat → Nat → Bool) (S : HS) : HS := ((fun t i => if hv t i = true then True else vV S t i), (fun t i => if hv t i = true then 0 else gG S t i), (fun f i => if hi f i = true then 0 else mI S f i), (fun f i => if hr f i = true then none else mR S f i), (fun t i => if hv t i = true then 0 else mN S t i), (fun t i => if hv t i = true then fun _ => 0 else mA S t i), (fun t i => if hv t i = true then fun _ => none else mB S t i), (fun f => if f / 16 = 11 then mL S f else 0), (fun f => if f / 16 = 11 then mD S f else 0))
theorem ite_vw {α : Type} {b : Bool} {d x y : α} (h : b = false → x = y) : (if b = true then d else x) = (if b = true then d else y) := by
  cases b with
  | true => rfl
  | false => rw [h rfl]
theorem Kq.eqv (a : Kq hv hi hr S T) : vwS hv hi hr T = vwS hv hi hr S := by
  have e1 : (fun t i => if hv t i = true then True else vV T t i) = (fun t i => if hv t i = true then True else vV S t i) := by funext t i; exact ite_vw (fun z => (a.1 t i z).1)
  have e2 : (fun t i => if hv t i = true then 0 else gG T t i) = (fun t i => if hv t i = true then 0 else gG S t i) := by funext t i; exact ite_vw (fun z => (a.1 t i z).2.1)
  have e3 : (fun f i => if hi f i = true then 0 else mI T f i) = (fun f i => if hi f i = true then 0 else mI S f i) := by funext t i; exact ite_vw (fun z => a.2.1 t i z)
  have e4 : (fun f i => if hr f i = true then none else mR T f i) = (fun f i => if hr f i = true then none else mR S f i) := by funext t i; exact ite_vw (fun z => a.2.2.1 t i z)
  have e5 : (fun t i => if hv t i = true then 0 else mN T t i) = (fun t i => if hv t i = true then 0 else mN S t i) := by funext t i; exact ite_vw (fun z => (a.1 t i z).2.2.1)
  have e6 : (fun t i => if hv t i = true then fun _ => 0 else mA T t i) = (fun t i => if hv t i = true then fun _ => 0 else mA S t i) := by funext t i; exact ite_vw (fun z => (a.1 t i z).2.2.2.2)
  have e7 : (fun t i => if hv t i = true then fun _ => none else mB T t i) = (fun t i => if hv t i = true then fun _ => none else mB S t i) := by funext t i; exact ite_vw (fun z => (a.1 t i z).2.2.2.1)
  have e8 : (fun f => if f / 16 = 11 then mL T f else 0) = (fun f => if f / 16 = 11 then mL S f else 0) := by
    funext f
    by_cases z : f / 16 = 11
    · rw [if_pos z, if_pos z, (a.2.2.2 f z).1]
    · rw [if_neg z, if_neg z]
  have e9 : (fun f => if f / 16 = 11 then mD T f else 0) = (fun f => if f / 16 = 11 then mD S f else 0) := by
    funext f
    by_cases z : f / 16 = 11
    · rw [if_pos z, if_pos z, (a.2.2.2 f z).2]
    · rw [if_neg z, if_neg z]
  unfold vwS
  rw [e1, e2, e3, e4, e5, e6, e7, e8, e9]
end KQ
/-- roles and fields of the class; what counts its refusals apart -/
def clsT (t i : Nat) : Bool := Nat.ble t 9 || (((t == 17 || t == 30) && Nat.ble i 5) || t == 32)
/-- .. without what the stations, the jammers, the shift are, and what the talks are told as -/
def clsV (t i : Nat) : Bool := (Nat.ble t 9 && !(t == 8)) || (((t == 17 || t == 30) && Nat.ble i 5) || (t == 32 && Nat.ble 2 i))
def clsX (f : Nat) : Bool := f == 70 || (f / 16 == 8 || (f / 16 == 1 || (Nat.ble 145 f && Nat.ble f 150)))
def clsI (f i : Nat) : Bool := clsT (f / 16) i && !(clsX f)
/-- .. where hours pass -/
def clsP (f i : Nat) : Bool := (clsT (f / 16) i && !(clsX f)) || f == 164
def clsS (f i : Nat) : Bool := clsT (f / 16) i && !(f == 145)
/-- all of them -/
def clsB (f i : Nat) : Bool := clsT (f / 16) i || f == 164
def clsR (f i : Nat) : Bool := clsT (f / 16) i
abbrev Keep (S T : HS) : Prop := Kq clsV clsI clsS S T
abbrev KeepP (S T : HS) : Prop := Kq clsV clsP clsS S T
abbrev KeepB (S T : HS) : Prop := Kq clsT clsB clsR S T
theorem clsX_f {f : Nat} (h : f ≠ 70 ∧ f / 16 ≠ 8 ∧ f / 16 ≠ 1 ∧ (f < 145 ∨ 150 < f)) : clsX f = false := by
  unfold clsX
  have e1 : (f == 70) = false := by simp [h.1]
  have e2 : (f / 16 == 8) = false := by simp [h.2.1]
  have e3 : (f / 16 == 1) = false := by simp [h.2.2.1]
  rw [e1, e2, e3, Bool.false_or, Bool.false_or, Bool.false_or, Bool.and_eq_false_iff]
  rcases h.2.2.2 with z | z
  · exact Or.inl (Bool.eq_false_iff.mpr (fun y => by have := Nat.ble_eq.mp y; omega))
  · exact Or.inr (Bool.eq_false_iff.mpr (fun y => by have := Nat.ble_eq.mp y; omega))
theorem clsT_of {t i : Nat} (h : clsV t i = true) : clsT t i = true := by
  unfold clsV at h
  unfold clsT
  rw [Bool.or_eq_true, Bool.or_eq_true, Bool.and_eq_true] at h
  rcases h with h | h | h
  · rw [h.1]; rfl
  · rw [h, Bool.true_or, Bool.or_true]
  · rw [Bool.and_eq_true] at h
    rw [h.1, Bool.or_true, Bool.or_true]
theorem clsB_of {f i : Nat} (h : clsI f i = true) : clsB f i = true := by
  unfold clsI at h
  unfold clsB
  rw [Bool.and_eq_true] at h
  rw [h.1]; rfl
theorem clsB_p {f i : Nat} (h : clsP f i = true) : clsB f i = true := by
  unfold clsP at h
  unfold clsB
  rw [Bool.or_eq_true, Bool.and_eq_true] at h
  rcases h with h | h
  · rw [h.1]; rfl
  · rw [h, Bool.or_true]
theorem clsR_of {f i : Nat} (h : clsS f i = true) : clsR f i = true := by
  unfold clsS at h
  unfold clsR
  rw [Bool.and_eq_true] at h
  exact h.1
/-- roles and fields of the reference, and temporary ones -/
def refT (t i : Nat) : Bool := (Nat.ble 12 t && Nat.ble t 15) || (((t == 17 || t == 30) && Nat.ble 6 i) || (Nat.ble 34 t && Nat.ble t 40))
/-- .. without what the stations, the jammers, the shift are, and what the talks are told as -/
def refV (t i : Nat) : Bool := (Nat.ble 12 t && Nat.ble t 15) || (((t == 17 || t == 30) && Nat.ble 6 i) || ((t == 34 || t == 35) || (t == 39 || t == 40)))
def refX (f : Nat) : Bool := f / 16 == 14 || (Nat.ble 240 f && Nat.ble f 245)
def refI (f i : Nat) : Bool := (refT (f / 16) i && !(refX f)) || (f / 16 == 16 && !(f == 260 || (f == 257 || f == 259)))
def refP (f i : Nat) : Bool := (refT (f / 16) i && !(refX f)) || (f / 16 == 16 && !(f == 260 || f == 259))
/-- all of them -/
def refU (t i : Nat) : Bool := refT t i || t == 33
def refB (f i : Nat) : Bool := refT (f / 16) i || (f / 16 == 16 && !(f == 260))
def refR (f i : Nat) : Bool := refT (f / 16) i || f / 16 == 16
abbrev KeepR (S T : HS) : Prop := Kq refV refI refR S T
abbrev KeepRP (S T : HS) : Prop := Kq refV refP refR S T
abbrev KeepRB (S T : HS) : Prop := Kq refU refB refR S T
theorem refX_f {f : Nat} (h : f / 16 ≠ 14 ∧ (f < 240 ∨ 245 < f)) : refX f = false := by
  unfold refX
  have e1 : (f / 16 == 14) = false := by simp [h.1]
  rw [e1, Bool.false_or, Bool.and_eq_false_iff]
  rcases h.2 with z | z
  · exact Or.inl (Bool.eq_false_iff.mpr (fun y => by have := Nat.ble_eq.mp y; omega))
  · exact Or.inr (Bool.eq_false_iff.mpr (fun y => by have := Nat.ble_eq.mp y; omega))
theorem refU_of {t i : Nat} (h : refV t i = true) : refU t i = true := by
  unfold refV at h
  have e : (12 ≤ t ∧ t ≤ 15) ∨ ((t = 17 ∨ t = 30) ∧ 6 ≤ i) ∨ ((t = 34 ∨ t = 35) ∨ (t = 39 ∨ t = 40)) := by simpa [Nat.ble_eq] using h
  unfold refU refT
  rcases e with ⟨e1, e2⟩ | ⟨e1, e2⟩ | e
  · rw [Nat.ble_eq.mpr e1, Nat.ble_eq.mpr e2]; rfl
  · rw [Nat.ble_eq.mpr e2]
    rcases e1 with rfl | rfl <;> rfl
  · rcases e with (rfl | rfl) | (rfl | rfl) <;> rfl
theorem refB_of {f i : Nat} (h : refI f i = true) : refB f i = true := by
  unfold refI at h
  unfold refB
  rw [Bool.or_eq_true] at h ⊢
  refine h.imp (fun z => ?_) (fun z => ?_)
  · rw [Bool.and_eq_true] at z
    exact z.1
  · rw [Bool.and_eq_true, Bool.not_eq_true', Bool.or_eq_false_iff] at z
    rw [z.1, z.2.1]; rfl
theorem refB_p {f i : Nat} (h : refP f i = true) : refB f i = true := by
  unfold refP at h
  unfold refB
  rw [Bool.or_eq_true] at h ⊢
  refine h.imp (fun z => ?_) (fun z => ?_)
  · rw [Bool.and_eq_true] at z
    exact z.1
  · rw [Bool.and_eq_true, Bool.not_eq_true', Bool.or_eq_false_iff] at z
    rw [z.1, z.2.1]; rfl
theorem RI_vw {ea : Nat} {S : HS} {ns nj nm nt nr nq : Nat} : RI ea (vwS clsV clsI clsS S) ns nj nm nt nr nq ↔ RI ea S ns nj nm nt nr nq := Iff.rfl
theorem RI.keep {ea : Nat} {S T : HS} {ns nj nm nt nr nq : Nat} (h : RI ea S ns nj nm nt nr nq) (k : Keep S T) : RI ea T ns nj nm nt nr nq := by
  rw [← RI_vw, k.eqv, RI_vw]; exact h
theorem RI_vwP {ea : Nat} {S : HS} {ns nj nm nt nr nq : Nat} : RI ea (vwS clsV clsP clsS S) ns nj nm nt nr nq ↔ RI ea S ns nj nm nt nr nq := Iff.rfl
theorem RI.keepP {ea : Nat} {S T : HS} {ns nj nm nt nr nq : Nat} (h : RI ea S ns nj nm nt nr nq) (k : KeepP S T) : RI ea T ns nj nm nt nr nq := by
  rw [← RI_vwP, k.eqv, RI_vwP]; exact h
theorem RI_vwB {ea : Nat} {S : HS} {ns nj nm nt nr nq : Nat} : RI ea (vwS clsT clsB clsR S) ns nj nm nt nr nq ↔ RI ea S ns nj nm nt nr nq := Iff.rfl
theorem RI.keepB {ea : Nat} {S T : HS} {ns nj nm nt nr nq : Nat} (h : RI ea S ns nj nm nt nr nq) (k : KeepB S T) : RI ea T ns nj nm nt nr nq := by
  rw [← RI_vwB, k.eqv, RI_vwB]; exact h
theorem CI_vwB {ea : Nat} {S : HS} {ns nj nm nt nr nc : Nat} : CI ea (vwS refU refB refR S) ns nj nm nt nr nc ↔ CI ea S ns nj nm nt nr nc := Iff.rfl
theorem CI.keepB {ea : Nat} {S T : HS} {ns nj nm nt nr nc : Nat} (h : CI ea S ns nj nm nt nr nc) (k : KeepRB S T) : CI ea T ns nj nm nt nr nc := by
  rw [← CI_vwB, k.eqv, CI_vwB]; exact h
theorem refP_of {f i : Nat} (h : refI f i = true) : refP f i = true := by
  unfold refI at h
  unfold refP
  rw [Bool.or_eq_true] at h ⊢
  rcases h with h | h
  · exact Or.inl h
  · rw [Bool.and_eq_true, Bool.not_eq_true', Bool.or_eq_false_iff, Bool.or_eq_false_iff] at h
    rw [h.1, h.2.1, h.2.2.2]
    exact Or.inr rfl
theorem CI_vwP {ea : Nat} {S : HS} {ns nj nm nt nr nc : Nat} : CI ea (vwS refV refP refR S) ns nj nm nt nr nc ↔ CI ea S ns nj nm nt nr nc := Iff.rfl
theorem CI.keepP {ea : Nat} {S T : HS} {ns nj nm nt nr nc : Nat} (h : CI ea S ns nj nm nt nr nc) (k : KeepRP S T) : CI ea T ns nj nm nt nr nc := by
  rw [← CI_vwP, k.eqv, CI_vwP]; exact h
theorem CI_vw {ea : Nat} {S : HS} {ns nj nm nt nr nc : Nat} : CI ea (vwS refV refI refR S) ns nj nm nt nr nc ↔ CI ea S ns nj nm nt nr nc := Iff.rfl
theorem CI.keep {ea : Nat} {S T : HS} {ns nj nm nt nr nc : Nat} (h : CI ea S ns nj nm nt nr nc) (k : KeepR S T) : CI ea T ns nj nm nt nr nc := by
  rw [← CI_vw, k.eqv, CI_vw]; exact h
/-! what an hour writes on (b: reports are made, too) -/
def hidV (b : Bool) (t i : Nat) : Bool := (t == 30 && i == 5) || (b && t == 6)
def hidR (b : Bool) (f i : Nat) : Bool := (f == 273 && i == 5) || (b && (f == 152 || f / 16 == 6))
def hiH (f i : Nat) : Bool := f == 50 || (f == 51 || ((f / 16 == 6) || (f == 67 || (f == 68 || (f == 69 || ((f == 272 || f == 274) && i == 5))))))
def hiP (f i : Nat) : Bool := f == 164 || hiH f i

def okI (f : Nat) : Bool := !([274, 133, 164, 146, 128, 48, 144, 80, 104, 151, 148, 97, 67, 69].contains f)
theorem CI.stI {ea : Nat} {S : HS} {ns nj nm nt nr nc f i : Nat} {x : Int32} (h : CI ea S ns nj nm nt nr nc) (hf : okI f = true) : CI ea (sI S f i x) ns nj nm nt nr nc := by
  have ne274 : ¬ (274 = f) := fun z => by rw [← z] at hf; exact absurd hf (by decide)
  have ne133 : ¬ (133 = f) := fun z => by rw [← z] at hf; exact absurd hf (by decide)
  have ne164 : ¬ (164 = f) := fun z => by rw [← z] at hf; exact absurd hf (by decide)
  have ne146 : ¬ (146 = f) := fun z => by rw [← z] at hf; exact absurd hf (by decide)
  have ne128 : ¬ (128 = f) := fun z => by rw [← z] at hf; exact absurd hf (by decide)
  have ne48 : ¬ (48 = f) := fun z => by rw [← z] at hf; exact absurd hf (by decide)
  have ne144 : ¬ (144 = f) := fun z => by rw [← z] at hf; exact absurd hf (by decide)
  have ne80 : ¬ (80 = f) := fun z => by rw [← z] at hf; exact absurd hf (by decide)
  have ne104 : ¬ (104 = f) := fun z => by rw [← z] at hf; exact absurd hf (by decide)
  have ne151 : ¬ (151 = f) := fun z => by rw [← z] at hf; exact absurd hf (by decide)
  have ne148 : ¬ (148 = f) := fun z => by rw [← z] at hf; exact absurd hf (by decide)
  have ne97 : ¬ (97 = f) := fun z => by rw [← z] at hf; exact absurd hf (by decide)
  have ne67 : ¬ (67 = f) := fun z => by rw [← z] at hf; exact absurd hf (by decide)
  have ne69 : ¬ (69 = f) := fun z => by rw [← z] at hf; exact absurd hf (by decide)
  have eP : ∀ j, pOut (sI S f i x) j = pOut S j := fun j => by
    have e1 : mI (sI S f i x) 104 j = mI S 104 j := sI_n (fun q => ne104 q.1)
    have e2 : mI (sI S f i x) 151 j = mI S 151 j := sI_n (fun q => ne151 q.1)
    unfold pOut
    rw [e1, e2]; rfl
  exact ⟨h.v10, h.f160, h.f161, h.f162, h.f163, h.v0, h.f0, h.f1, h.v7, h.f112, h.f113, h.f114, h.f115, h.v4, h.f64, h.f65, h.f66, h.v2, h.f32, h.f33, h.f34, h.f35, h.f36, h.a0, h.a1, h.a2, h.a3, h.a4, (h.l_st.of id (sI_n (fun z => ne274 z.1)) rfl id (fun _ => rfl) rfl), (h.l_jm.of id (sI_n (fun z => ne274 z.1)) rfl id (fun _ => rfl) rfl), (h.l_mo.of id (sI_n (fun z => ne274 z.1)) rfl id (fun _ => rfl) rfl), (h.l_ta.of id (sI_n (fun z => ne274 z.1)) rfl id (fun _ => rfl) rfl), (h.l_re.of id (sI_n (fun z => ne274 z.1)) rfl id (fun _ => rfl) rfl), (h.l_co.of id (sI_n (fun z => ne274 z.1)) rfl id (fun _ => rfl) rfl), h.b_st, h.b_jm, h.b_mo, h.b_ta, h.b_re, h.b_co, h.e_st, h.e_jm, h.e_mo, h.e_ta, h.e_re, h.e_co, h.t_st, h.t_rp, (fun j hj => by have z := h.x_to j hj; rw [show mI (sI S f i x) 133 j = mI S 133 j from sI_n (fun q => ne133 q.1)]; exact z), (by have z := h.x_ho; rw [show mI (sI S f i x) 164 0 = mI S 164 0 from sI_n (fun q => ne164 q.1)]; exact z), (fun j hj => by have z := h.x_th j hj; rw [show mI (sI S f i x) 146 j = mI S 146 j from sI_n (fun q => ne146 q.1)]; exact z), (fun j hj => by have z := h.x_tw j hj; rw [show mI (sI S f i x) 148 j = mI S 148 j from sI_n (fun q => ne148 q.1)]; exact z), (fun j hj => by have z := h.x_rl j hj; rw [show mI (sI S f i x) 97 j = mI S 97 j from sI_n (fun q => ne97 q.1)]; exact z), (by have z := h.x_cs; rw [show mI (sI S f i x) 67 0 = mI S 67 0 from sI_n (fun q => ne67 q.1)]; exact z), (by have z := h.x_wl; rw [show mI (sI S f i x) 69 0 = mI S 69 0 from sI_n (fun q => ne69 q.1)]; exact z), (fun j hj => by have z := h.n_st j hj; rw [show mI (sI S f i x) 128 j = mI S 128 j from sI_n (fun q => ne128 q.1)]; exact z), (fun j hj => by have z := h.n_mo j hj; rw [show mI (sI S f i x) 48 j = mI S 48 j from sI_n (fun q => ne48 q.1)]; exact z), (fun j hj => by have z := h.n_ta j hj; rw [show mI (sI S f i x) 144 j = mI S 144 j from sI_n (fun q => ne144 q.1)]; exact z), (fun j hj => by have z := h.n_re j hj; rw [show mI (sI S f i x) 80 j = mI S 80 j from sI_n (fun q => ne80 q.1)]; exact z), h.z_st, h.z_jm, h.z_mo, h.z_ta, h.z_re, h.z_rp, h.z30, h.z31, (Nat.le_trans h.x_co (cntB_mono nt (fun j _ hj => (eP j).trans hj)))⟩
theorem pOut_104 {S : HS} {j k : Nat} {x : Int32} (hx : pOut S j = true → x = 1) (hk : pOut S k = true) : pOut (sI S 104 j x) k = true := by
  by_cases e : k = j
  · subst e
    have x1 := hx hk
    unfold pOut at hk ⊢
    rw [Bool.and_eq_true, Bool.and_eq_true] at hk ⊢
    exact ⟨hk.1, by rw [show mI (sI S 104 k x) 104 k = x from up2_s _ _ _ _, x1]; rfl, hk.2.2⟩
  · unfold pOut at hk ⊢
    rw [show mI (sI S 104 j x) 104 k = mI S 104 k from up2_n (fun z => e z.2)]; exact hk
theorem pOut_151 {S : HS} {j k : Nat} {x : Int32} (hx : pOut S j = false) (hk : pOut S k = true) : pOut (sI S 151 j x) k = true := by
  by_cases e : k = j
  · rw [e, hx] at hk; exact absurd hk (by decide)
  · unfold pOut at hk ⊢
    rw [show mI (sI S 151 j x) 151 k = mI S 151 k from up2_n (fun z => e z.2)]; exact hk

theorem CI.s104 {ea : Nat} {S : HS} {ns nj nm nt nr nc : Nat} (h : CI ea S ns nj nm nt nr nc) {j : Nat} {x : Int32} (hx : pOut S j = true → x = 1) : CI ea (sI S 104 j x) ns nj nm nt nr nc := by
  exact ⟨h.v10, h.f160, h.f161, h.f162, h.f163, h.v0, h.f0, h.f1, h.v7, h.f112, h.f113, h.f114, h.f115, h.v4, h.f64, h.f65, h.f66, h.v2, h.f32, h.f33, h.f34, h.f35, h.f36, h.a0, h.a1, h.a2, h.a3, h.a4, h.l_st, h.l_jm, h.l_mo, h.l_ta, h.l_re, h.l_co, h.b_st, h.b_jm, h.b_mo, h.b_ta, h.b_re, h.b_co, h.e_st, h.e_jm, h.e_mo, h.e_ta, h.e_re, h.e_co, h.t_st, h.t_rp, h.x_to, h.x_ho, h.x_th, h.x_tw, h.x_rl, h.x_cs, h.x_wl, h.n_st, h.n_mo, h.n_ta, h.n_re, h.z_st, h.z_jm, h.z_mo, h.z_ta, h.z_re, h.z_rp, h.z30, h.z31, (Nat.le_trans h.x_co (cntB_mono nt (fun k _ hk => pOut_104 hx hk)))⟩
theorem CI.s151 {ea : Nat} {S : HS} {ns nj nm nt nr nc : Nat} (h : CI ea S ns nj nm nt nr nc) {j : Nat} {x : Int32} (hx : pOut S j = false) : CI ea (sI S 151 j x) ns nj nm nt nr nc := by
  exact ⟨h.v10, h.f160, h.f161, h.f162, h.f163, h.v0, h.f0, h.f1, h.v7, h.f112, h.f113, h.f114, h.f115, h.v4, h.f64, h.f65, h.f66, h.v2, h.f32, h.f33, h.f34, h.f35, h.f36, h.a0, h.a1, h.a2, h.a3, h.a4, h.l_st, h.l_jm, h.l_mo, h.l_ta, h.l_re, h.l_co, h.b_st, h.b_jm, h.b_mo, h.b_ta, h.b_re, h.b_co, h.e_st, h.e_jm, h.e_mo, h.e_ta, h.e_re, h.e_co, h.t_st, h.t_rp, h.x_to, h.x_ho, h.x_th, h.x_tw, h.x_rl, h.x_cs, h.x_wl, h.n_st, h.n_mo, h.n_ta, h.n_re, h.z_st, h.z_jm, h.z_mo, h.z_ta, h.z_re, h.z_rp, h.z30, h.z31, (Nat.le_trans h.x_co (cntB_mono nt (fun k _ hk => pOut_151 hx hk)))⟩
theorem CI.s69 {ea : Nat} {S : HS} {ns nj nm nt nr nc : Nat} (h : CI ea S ns nj nm nt nr nc) {x : Int32} (hx : ¬ x < 0) : CI ea (sI S 69 0 x) ns nj nm nt nr nc := by
  exact ⟨h.v10, h.f160, h.f161, h.f162, h.f163, h.v0, h.f0, h.f1, h.v7, h.f112, h.f113, h.f114, h.f115, h.v4, h.f64, h.f65, h.f66, h.v2, h.f32, h.f33, h.f34, h.f35, h.f36, h.a0, h.a1, h.a2, h.a3, h.a4, h.l_st, h.l_jm, h.l_mo, h.l_ta, h.l_re, h.l_co, h.b_st, h.b_jm, h.b_mo, h.b_ta, h.b_re, h.b_co, h.e_st, h.e_jm, h.e_mo, h.e_ta, h.e_re, h.e_co, h.t_st, h.t_rp, h.x_to, h.x_ho, h.x_th, h.x_tw, h.x_rl, h.x_cs, (hx), h.n_st, h.n_mo, h.n_ta, h.n_re, h.z_st, h.z_jm, h.z_mo, h.z_ta, h.z_re, h.z_rp, h.z30, h.z31, h.x_co⟩
theorem CI.s67 {ea : Nat} {S : HS} {ns nj nm nt nr nc : Nat} (h : CI ea S ns nj nm nt nr nc) {g : Nat} (hg : g ≤ nc) : CI ea (sI S 67 0 (nI g)) ns nj nm nt nr nc := by
  exact ⟨h.v10, h.f160, h.f161, h.f162, h.f163, h.v0, h.f0, h.f1, h.v7, h.f112, h.f113, h.f114, h.f115, h.v4, h.f64, h.f65, h.f66, h.v2, h.f32, h.f33, h.f34, h.f35, h.f36, h.a0, h.a1, h.a2, h.a3, h.a4, h.l_st, h.l_jm, h.l_mo, h.l_ta, h.l_re, h.l_co, h.b_st, h.b_jm, h.b_mo, h.b_ta, h.b_re, h.b_co, h.e_st, h.e_jm, h.e_mo, h.e_ta, h.e_re, h.e_co, h.t_st, h.t_rp, h.x_to, h.x_ho, h.x_th, h.x_tw, h.x_rl, (⟨g, hg, rfl⟩), h.x_wl, h.n_st, h.n_mo, h.n_ta, h.n_re, h.z_st, h.z_jm, h.z_mo, h.z_ta, h.z_re, h.z_rp, h.z30, h.z31, h.x_co⟩
theorem CI.s164 {ea : Nat} {S : HS} {ns nj nm nt nr nc : Nat} (h : CI ea S ns nj nm nt nr nc) {g : Nat} (hg : g ≤ 720) : CI ea (sI S 164 0 (nI g)) ns nj nm nt nr nc := by
  exact ⟨h.v10, h.f160, h.f161, h.f162, h.f163, h.v0, h.f0, h.f1, h.v7, h.f112, h.f113, h.f114, h.f115, h.v4, h.f64, h.f65, h.f66, h.v2, h.f32, h.f33, h.f34, h.f35, h.f36, h.a0, h.a1, h.a2, h.a3, h.a4, h.l_st, h.l_jm, h.l_mo, h.l_ta, h.l_re, h.l_co, h.b_st, h.b_jm, h.b_mo, h.b_ta, h.b_re, h.b_co, h.e_st, h.e_jm, h.e_mo, h.e_ta, h.e_re, h.e_co, h.t_st, h.t_rp, h.x_to, (⟨g, hg, rfl⟩), h.x_th, h.x_tw, h.x_rl, h.x_cs, h.x_wl, h.n_st, h.n_mo, h.n_ta, h.n_re, h.z_st, h.z_jm, h.z_mo, h.z_ta, h.z_re, h.z_rp, h.z30, h.z31, h.x_co⟩
theorem CI.wr {ea : Nat} {S : HS} {ns nj nm nt nr nc : Nat} (h : CI ea S ns nj nm nt nr nc) (f g : Nat → Int32) : CI ea (sA (sA S 32 0 f) 32 1 g) ns nj nm nt nr nc := h
theorem CI.addco {ea : Nat} {S : HS} {ns nj nm nt nr nc : Nat} (h : CI ea S ns nj nm nt nr nc) {q : Nat} {mm : Int32} {b : Nat → Option Nat} {j : Nat} (hj : j < nt) (hn : nc + 1 ≤ cntB (pOut S) nt) (hb : b nc = some (gG S 9 j)) (ho : ∀ i, i < nc → b i = mB S 30 5 i) : CI ea (addS S 5 q (capOf (nc + 1)) mm (nI (nc + 1)) b) ns nj nm nt nr (nc + 1) := by
  have hle := cntB_le (pOut S) nt
  have hb9 := h.b_ta
  have hc9 := capOf_le (nc + 1)
  have up : ∀ t i, vV S t i → vV (addS S 5 q (capOf (nc + 1)) mm (nI (nc + 1)) b) t i := fun t i v => Or.inl v
  have dn : ∀ t i, ¬ (t = 30 ∧ i = 5) → vV (addS S 5 q (capOf (nc + 1)) mm (nI (nc + 1)) b) t i → vV S t i := fun t i d v => v.elim id (fun e => absurd e d)
  have eB : mB (addS S 5 q (capOf (nc + 1)) mm (nI (nc + 1)) b) 30 5 = b := rfl
  exact ⟨(up _ _ h.v10), h.f160, h.f161, h.f162, h.f163, (up _ _ h.v0), h.f0, h.f1, (up _ _ h.v7), h.f112, h.f113, h.f114, h.f115, (up _ _ h.v4), h.f64, h.f65, h.f66, (up _ _ h.v2), h.f32, h.f33, h.f34, h.f35, h.f36, ⟨up _ _ h.a0.1, h.a0.2⟩, ⟨up _ _ h.a1.1, h.a1.2⟩, ⟨up _ _ h.a2.1, h.a2.2⟩, ⟨up _ _ h.a3.1, h.a3.2⟩, ⟨up _ _ h.a4.1, h.a4.2⟩, (h.l_st.of (up _ _) rfl rfl (up _ _) (fun _ => rfl) rfl), (h.l_jm.of (up _ _) rfl rfl (up _ _) (fun _ => rfl) rfl), (h.l_mo.of (up _ _) rfl rfl (up _ _) (fun _ => rfl) rfl), (h.l_ta.of (up _ _) rfl rfl (up _ _) (fun _ => rfl) rfl), (h.l_re.of (up _ _) rfl rfl (up _ _) (fun _ => rfl) rfl), (⟨up _ _ h.l_co.1, rfl, by omega, fun z => absurd z (by omega), fun _ => ⟨Or.inr ⟨rfl, rfl⟩, rfl, rfl⟩⟩), h.b_st, h.b_jm, h.b_mo, h.b_ta, h.b_re, (by omega), (fun j hj => ⟨(h.e_st j hj).1, up _ _ (h.e_st j hj).2⟩), (fun j hj => ⟨(h.e_jm j hj).1, up _ _ (h.e_jm j hj).2⟩), (fun j hj => ⟨(h.e_mo j hj).1, up _ _ (h.e_mo j hj).2⟩), (fun j hj => ⟨(h.e_ta j hj).1, up _ _ (h.e_ta j hj).2⟩), (fun j hj => ⟨(h.e_re j hj).1, up _ _ (h.e_re j hj).2⟩), (fun k hk => by
    rw [eB]
    rcases Nat.lt_succ_iff_lt_or_eq.mp hk with z | z
    · rw [ho k z]; exact h.e_co k z
    · rw [z]; exact ⟨j, hj, hb⟩), h.t_st, (fun j hj => (h.t_rp j hj).imp id (fun z => ⟨z.1, up _ _ z.2⟩)), h.x_to, h.x_ho, h.x_th, h.x_tw, h.x_rl, (by obtain ⟨g, h1, h2⟩ := h.x_cs; exact ⟨g, by omega, h2⟩), h.x_wl, h.n_st, h.n_mo, h.n_ta, h.n_re, (fun j hj v => h.z_st j hj (dn _ j (by omega) v)), (fun j hj v => h.z_jm j hj (dn _ j (by omega) v)), (fun j hj v => h.z_mo j hj (dn _ j (by omega) v)), (fun j hj v => h.z_ta j hj (dn _ j (by omega) v)), (fun j hj v => h.z_re j hj (dn _ j (by omega) v)), (fun j hj v => h.z_rp j hj (dn _ j (by omega) v)), (⟨(fun z v => h.z30.1 z (dn 30 0 (by omega) v)), (fun z v => h.z30.2.1 z (dn 30 1 (by omega) v)), (fun z v => h.z30.2.2.1 z (dn 30 2 (by omega) v)), (fun z v => h.z30.2.2.2.1 z (dn 30 3 (by omega) v)), (fun z v => h.z30.2.2.2.2.1 z (dn 30 4 (by omega) v)), (fun z v => absurd z (by omega))⟩), (fun k v => h.z31 k (dn 31 k (by omega) v)), (hn)⟩
theorem CI.el_co {s0 : State} {ea : Nat} {S : HS} {ns nj nm nt nr nc : Nat} (h : CI ea S ns nj nm nt nr nc) : ∀ j, j < nc → ∀ y, mB S 30 5 j = some y → EL s0 S y := fun j hj y hy => by
  obtain ⟨i, hi, e⟩ := h.e_co j hj
  rw [e] at hy
  cases hy
  exact Or.inl ⟨9, i, (h.e_ta i hi).2, by decide, rfl⟩
theorem add_co {s0 : State} {l : Launch} {D : va_G} {cy : Nat → ClassId} (G : Gl s0 l D cy) (S : HS) (ea ns nj nm nt nr nc : Nat) (h : CI ea S ns nj nm nt nr nc) (hea : ea = eaOf s0) (j : Nat) (hj : j < nt) (hn : nc < 49) : Ctr s0 l D cy yJx4a65c_add_9ea2d cJx4a65c_add_9ea2d 2 (some .boolean) rm_add1 S [.ref (gG S 17 5), .ref (gG S 9 j)] (AddP S 5 nc (gG S 9 j)) :=
  (m_addn G S 5 nc (gG S 9 j) (hea ▸ h.l_co) hn h.z30.2.2.2.2.2 (h.z31 5) h.el_co (Or.inl ⟨9, j, (h.e_ta j hj).2, by decide, rfl⟩)).weak (Nat.le_refl _) (Nat.le_refl _) (addC_le nc) (addL_le nc)
section RE
variable {p : Program} {l : Launch} {e : Env} {R : Room} {s : State} {m : MethodId} {args : Array Value} {below : List Frame} {meth : Method} {c : Code} {H : Heap} {locs : List Loc} {cells slots : Nat} {Q : State → Prop} {pc : Nat} {ls : Array Slot} {rest : List Value} {a b : Nat} {v v2 v3 v4 : Value}
theorem rE0 (h : a = b) (k : W p l e R s m args below meth c H locs cells slots Q (F0 m pc ls (.ref b :: rest))) : W p l e R s m args below meth c H locs cells slots Q (F0 m pc ls (.ref a :: rest)) := by subst h; exact k
theorem rE1 (h : a = b) (k : W p l e R s m args below meth c H locs cells slots Q (F0 m pc ls (v :: .ref b :: rest))) : W p l e R s m args below meth c H locs cells slots Q (F0 m pc ls (v :: .ref a :: rest)) := by subst h; exact k
theorem rE2 (h : a = b) (k : W p l e R s m args below meth c H locs cells slots Q (F0 m pc ls (v :: v2 :: .ref b :: rest))) : W p l e R s m args below meth c H locs cells slots Q (F0 m pc ls (v :: v2 :: .ref a :: rest)) := by subst h; exact k
theorem rE3 (h : a = b) (k : W p l e R s m args below meth c H locs cells slots Q (F0 m pc ls (v :: v2 :: v3 :: .ref b :: rest))) : W p l e R s m args below meth c H locs cells slots Q (F0 m pc ls (v :: v2 :: v3 :: .ref a :: rest)) := by subst h; exact k
theorem rE4 (h : a = b) (k : W p l e R s m args below meth c H locs cells slots Q (F0 m pc ls (v :: v2 :: v3 :: v4 :: .ref b :: rest))) : W p l e R s m args below meth c H locs cells slots Q (F0 m pc ls (v :: v2 :: v3 :: v4 :: .ref a :: rest)) := by subst h; exact k
end RE

