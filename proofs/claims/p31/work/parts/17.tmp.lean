/-! temporary roles (39 and on): the reference's facts don't speak of them -/
def R39 (S : HS) : HS := ((fun t i => if t < 39 then vV S t i else True), (fun t i => if t < 39 then gG S t i else 0), mI S, mR S, (fun t i => if t < 39 then mN S t i else 0), (fun t i => if t < 39 then mA S t i else fun _ => 0), (fun t i => if t < 39 then mB S t i else fun _ => none), S.2.2.2.2.2.2.2)
theorem R39_arr {S : HS} {t i q n : Nat} (h : 39 ≤ t) : R39 (sArr S t i q n) = R39 S := by
  unfold R39
  have e1 : (fun t' i' => if t' < 39 then vV (sArr S t i q n) t' i' else True) = (fun t' i' => if t' < 39 then vV S t' i' else True) := by
    funext t' i'
    by_cases z : t' < 39
    · rw [if_pos z, if_pos z]
      exact propext ⟨fun y => y.elim id (fun y => absurd y.1 (by omega)), Or.inl⟩
    · rw [if_neg z, if_neg z]
  have e2 : (fun t' i' => if t' < 39 then gG (sArr S t i q n) t' i' else 0) = (fun t' i' => if t' < 39 then gG S t' i' else 0) := by
    funext t' i'
    by_cases z : t' < 39
    · rw [if_pos z, if_pos z]; exact up2_n (fun y => absurd y.1 (by omega))
    · rw [if_neg z, if_neg z]
  have e3 : (fun t' i' => if t' < 39 then mN (sArr S t i q n) t' i' else 0) = (fun t' i' => if t' < 39 then mN S t' i' else 0) := by
    funext t' i'
    by_cases z : t' < 39
    · rw [if_pos z, if_pos z]; exact up2_n (fun y => absurd y.1 (by omega))
    · rw [if_neg z, if_neg z]
  have e4 : (fun t' i' => if t' < 39 then mA (sArr S t i q n) t' i' else fun _ => 0) = (fun t' i' => if t' < 39 then mA S t' i' else fun _ => 0) := by
    funext t' i'
    by_cases z : t' < 39
    · rw [if_pos z, if_pos z]; exact up2_n (fun y => absurd y.1 (by omega))
    · rw [if_neg z, if_neg z]
  have e5 : (fun t' i' => if t' < 39 then mB (sArr S t i q n) t' i' else fun _ => none) = (fun t' i' => if t' < 39 then mB S t' i' else fun _ => none) := by
    funext t' i'
    by_cases z : t' < 39
    · rw [if_pos z, if_pos z]; exact up2_n (fun y => absurd y.1 (by omega))
    · rw [if_neg z, if_neg z]
  rw [e1, e2, e3, e4, e5]; rfl
theorem R39_sA {S : HS} {t i : Nat} {f : Nat → Int32} (h : 39 ≤ t) : R39 (sA S t i f) = R39 S := by
  unfold R39
  have e4 : (fun t' i' => if t' < 39 then mA (sA S t i f) t' i' else fun _ => 0) = (fun t' i' => if t' < 39 then mA S t' i' else fun _ => 0) := by
    funext t' i'
    by_cases z : t' < 39
    · rw [if_pos z, if_pos z]; exact up2_n (fun y => absurd y.1 (by omega))
    · rw [if_neg z, if_neg z]
  rw [e4]; rfl
theorem RI_39 {ea : Nat} {S : HS} {ns nj nm nt nr nq : Nat} : RI ea (R39 S) ns nj nm nt nr nq = RI ea S ns nj nm nt nr nq := rfl
theorem RI.arr {ea : Nat} {S : HS} {ns nj nm nt nr nq t i q n : Nat} (h : RI ea S ns nj nm nt nr nq) (ht : 39 ≤ t) : RI ea (sArr S t i q n) ns nj nm nt nr nq := by
  rw [← RI_39, R39_arr ht, RI_39]; exact h
theorem RI.stA {ea : Nat} {S : HS} {ns nj nm nt nr nq t i : Nat} {f : Nat → Int32} (h : RI ea S ns nj nm nt nr nq) (ht : 39 ≤ t) : RI ea (sA S t i f) ns nj nm nt nr nq := by
  rw [← RI_39, R39_sA ht, RI_39]; exact h
/-- S' is S, but for the role (t, i) -/
def Off (S : HS) (t i : Nat) (S' : HS) : Prop := ∀ t' i', ¬ (t' = t ∧ i' = i) → (vV S t' i' → vV S' t' i') ∧ gG S' t' i' = gG S t' i' ∧ ∀ cy, cellM cy S' t' i' = cellM cy S t' i'
theorem Off.arr {S : HS} {t i q n : Nat} : Off S t i (sArr S t i q n) := fun t' i' h => ⟨Or.inl, up2_n h, fun _ => cell_arrN h⟩
theorem Off.sA {S S' : HS} {t i : Nat} {f : Nat → Int32} (h : Off S t i S') : Off S t i (sA S' t i f) := fun t' i' z => ⟨(h t' i' z).1, (h t' i' z).2.1, fun cy => (cell_sA z).trans ((h t' i' z).2.2 cy)⟩
theorem Wd.off {s0 : State} {D : va_G} {cy : Nat → ClassId} {S S' : HS} {H0 H : Heap} {locs : List Loc} {t i : Nat} (w : Wd s0 D cy S' H0 H locs) (hn : ¬ vV S t i) (ho : Off S t i S') : Wd s0 D cy S H0 H locs := by
  have old : ∀ t' i', vV S t' i' → ¬ (t' = t ∧ i' = i) := fun t' i' h z => hn (by rw [← z.1, ← z.2]; exact h)
  obtain ⟨⟨⟨ws, hP, hD, hm⟩, inj⟩, hS⟩ := w
  refine ⟨⟨⟨ws, hP, hD, fun t' i' h => ?_⟩, fun a b a' b' h h' hg => ?_⟩, hS⟩
  · obtain ⟨h1, h2, h3⟩ := ho t' i' (old t' i' h)
    rw [← h2, ← h3 cy]
    exact hm t' i' (h1 h)
  · obtain ⟨h1, h2, -⟩ := ho a b (old a b h)
    obtain ⟨h3, h4, -⟩ := ho a' b' (old a' b' h')
    exact inj a b a' b' (h1 h) (h3 h') (by rw [h2, h4]; exact hg)

/-- S, with a temporary array of n places that hold f -/
def sTmp (S : HS) (t i q n : Nat) (f : Nat → Int32) : HS := sA (sArr S t i q n) t i f
theorem tmp_A {S : HS} {t i q n : Nat} {f : Nat → Int32} : mA (sTmp S t i q n f) t i = f := up2_s _ t i f
theorem tmp_N {S : HS} {t i q n : Nat} {f : Nat → Int32} : mN (sTmp S t i q n f) t i = n := up2_s _ t i n
theorem tmp_V {S : HS} {t i q n : Nat} {f : Nat → Int32} : vV (sTmp S t i q n f) t i := Or.inr ⟨rfl, rfl⟩
theorem RI.tmp {ea : Nat} {S : HS} {ns nj nm nt nr nq t i q n : Nat} {f : Nat → Int32} (h : RI ea S ns nj nm nt nr nq) (ht : 39 ≤ t) : RI ea (sTmp S t i q n f) ns nj nm nt nr nq := (h.arr ht).stA ht
theorem Off.tmp {S : HS} {t i q n : Nat} {f : Nat → Int32} : Off S t i (sTmp S t i q n f) := Off.arr.sA
theorem tmp_0 {S : HS} {t i q n : Nat} : sArr S t i q n = sTmp S t i q n (fun _ => 0) := by
  have e : mA (sArr S t i q n) t i = (fun _ => 0) := up2_s _ t i _
  unfold sTmp sA
  have : up2 (sArr S t i q n).2.2.2.2.2.1 t i (fun _ => (0 : Int32)) = (sArr S t i q n).2.2.2.2.2.1 := by
    funext a b
    by_cases z : a = t ∧ b = i
    · rw [z.1, z.2, up2_s]; exact e.symm
    · exact up2_n z
  rw [this]
theorem tmp_2 {S : HS} {t i q n : Nat} {f g : Nat → Int32} : sA (sTmp S t i q n f) t i g = sTmp S t i q n g := by
  unfold sTmp sA
  have : up2 (up2 (sArr S t i q n).2.2.2.2.2.1 t i f) t i g = up2 (sArr S t i q n).2.2.2.2.2.1 t i g := by
    funext a b
    by_cases z : a = t ∧ b = i
    · rw [z.1, z.2, up2_s, up2_s]
    · rw [up2_n z, up2_n z, up2_n z]
  show (_, _, _, _, _, up2 (up2 _ t i f) t i g, _) = _
  rw [this]
section TMP
variable {p : Program} {l : Launch} {e : Env} {R : Room} {s : State} {m : MethodId} {args : Array Value} {below : List Frame} {meth : Method} {c : Code} {H : Heap} {locs : List Loc} {cells slots : Nat} {Q : State → Prop} {cc : ByteArray} {pc nL : Nat} {ls : Array Slot} {rest : List Value} {s0 : State} {D : va_G} {cy : Nat → ClassId} {S : HS} {own : String} {ret : Option FieldType} {q n : Nat} {f : Nat → Int32}
theorem tStI {t i k : Nat} {v : Int32} {x : Int32} (X : Cx s0 l D cy p s m args meth c cc nL own ret) (w : Wd s0 D cy (sTmp S t i q n f) s.heap H locs) (ht : ¬ t < 21) (hr : isRefA t = false) (hty : (TY cy)[ak t]? = some (cy (ak t), .int)) (hx : x = nI k) (hk : k < n) (hn : n < 2 ^ 20) (hdg : decode cc pc = .ok (.iastore, 1))
    (kk : ∀ (H1 : Heap) (locs1 : List Loc), Wd s0 D cy (sTmp S t i q n (upd f k v)) s.heap H1 locs1 → W p l e R s m args below meth c H1 locs1 cells slots Q (F0 m (pc + 1) ls rest)) : W p l e R s m args below meth c H locs cells slots Q (F0 m pc ls (.int v :: .int x :: .ref (gG (sTmp S t i q n f) t i) :: rest)) := by
  have h31 : n < 2 ^ 31 := Nat.lt_trans hn (by decide)
  refine aStI X w tmp_V ht hr hty (by rw [tmp_N, hx]; exact nI_vp hk h31) hdg (fun H1 locs1 w1 => ?_)
  rw [tmp_A, tmp_2, hx, cl_nI hk h31] at w1
  exact kk H1 locs1 w1
theorem tLdI {t i k : Nat} {v : Int32} {x : Int32} (X : Cx s0 l D cy p s m args meth c cc nL own ret) (w : Wd s0 D cy (sTmp S t i q n f) s.heap H locs) (ht : ¬ t < 21) (hr : isRefA t = false) (hty : (TY cy)[ak t]? = some (cy (ak t), .int)) (hx : x = nI k) (hk : k < n) (hn : n < 2 ^ 20) (hv : f k = v) (hdg : decode cc pc = .ok (.iaload, 1))
    (kk : W p l e R s m args below meth c H locs cells slots Q (F0 m (pc + 1) ls (.int v :: rest))) : W p l e R s m args below meth c H locs cells slots Q (F0 m pc ls (.int x :: .ref (gG (sTmp S t i q n f) t i) :: rest)) := by
  have h31 : n < 2 ^ 31 := Nat.lt_trans hn (by decide)
  exact aLdI X w tmp_V ht hr hty (by rw [tmp_N, hx]; exact nI_vp hk h31) (by rw [tmp_A, hx, cl_nI hk h31]; exact hv) hdg kk
end TMP

