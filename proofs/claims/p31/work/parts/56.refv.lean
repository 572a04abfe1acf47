theorem va_AOA.moved {ty : FieldType} {u U : State} (hvm : u.vm.Alike U.vm) (h : va_AOA ty u) : va_AOA ty U := by
  have h1 : (Cond.arrayOver (.array ty)).before #[] u = true := h
  have h2 : (Cond.arrayOver (.array ty)).before #[] (u.setVm U.vm) = true := by rw [Cond.arrayOver_setVmC hvm]; exact h1
  exact h2
theorem Gl.aoa {s0 s : State} {l : Launch} {D : va_G} {cy : Nat → ClassId} {ty : FieldType} (G : Gl s0 l D cy) (hb : Bs s0 s) (h : Cond.arrayOver (.array ty) ∈ lw_tbl) : va_AOA ty s := by
  obtain ⟨-, -, b, hts, -⟩ := G
  exact va_AOA.moved hb.1 (hts _ h)
theorem va_D.far {A : Nat → Prop} {w1 w2 : va_W} (hD : va_D A (w1 ++ w2)) {p q : Nat × va_E} (h1 : p ∈ w1) (h2 : q ∈ w2) : p.1 ≠ q.1 := by
  intro z
  obtain ⟨i, hi⟩ := List.getElem?_of_mem h1
  obtain ⟨j, hj⟩ := List.getElem?_of_mem h2
  have hl := (List.getElem?_eq_some_iff.mp hi).1
  have := hD.1 i (w1.length + j) _ _ (by rw [List.getElem?_append_left hl]; exact hi) (by rw [List.getElem?_append_right (Nat.le_add_right _ _), Nat.add_sub_cancel_left]; exact hj) z
  omega
/-- a new row (38, k) of 24 new rows (tt, a) of 3 places -/
def sMM (S : HS) (k tt q : Nat) (r : Nat → Nat) : HS := ((fun t' i' => (S.1 t' i' ∨ (t' = 38 ∧ i' = k)) ∨ (t' = tt ∧ i' < 24)), (fun t' i' => if t' = tt ∧ i' < 24 then r i' else if t' = 38 ∧ i' = k then q else S.2.1 t' i'), S.2.2.1, S.2.2.2.1, (fun t' i' => if t' = tt ∧ i' < 24 then 3 else if t' = 38 ∧ i' = k then 24 else S.2.2.2.2.1 t' i'), (fun t' i' => if t' = tt ∧ i' < 24 then (fun _ => 0) else S.2.2.2.2.2.1 t' i'), (fun t' i' => if t' = 38 ∧ i' = k then (fun a => if a < 24 then some (r a) else none) else S.2.2.2.2.2.2.1 t' i'), S.2.2.2.2.2.2.2)
section MM
variable {p : Program} {l : Launch} {e : Env} {R : Room} {s : State} {m : MethodId} {args : Array Value} {below : List Frame} {meth : Method} {c : Code} {H : Heap} {locs : List Loc} {cells slots : Nat} {Q : State → Prop} {cc : ByteArray} {pc nL : Nat} {ls : Array Slot} {rest : List Value} {s0 : State} {D : va_G} {cy : Nat → ClassId} {S S' : HS} {own : String} {ret : Option FieldType}
theorem WP.mm {H1 : Heap} {k tt q : Nat} {r : Nat → Nat} {ws rows : va_W} (inj : ∀ t i t' i', vV S t i → vV S t' i' → gG S t i = gG S t' i' → t = t' ∧ i = i') (hm : ∀ t i, vV S t i → (gG S t i, cellM cy S t i) ∈ ws) (htt : tt = 36 ∨ tt = 37) (hn : ¬ vV S 38 k) (hn2 : ∀ i, i < 24 → ¬ vV S tt i) (hr : ∀ i j : Nat, i < 24 → j < 24 → r i = r j → i = j)
    (hrow : ∀ i, i < 24 → (r i, (.inl (cy 1, 3, .inl (fun _ => 0)) : va_E)) ∈ rows) (hP : va_P D CL ((ws ++ [(q, .inl (cy 4, 24, .inr (.inr (.inr (.inr (fun i => if i < 24 then some (r i) else none))))))]) ++ rows) H1) (hD : va_D (A0 s0) ((ws ++ [(q, .inl (cy 4, 24, .inr (.inr (.inr (.inr (fun i => if i < 24 then some (r i) else none))))))]) ++ rows)) : WP s0 D cy (sMM S k tt q r) H1 := by
  have t38 : ¬ (38 = tt) := by omega
  have hD2 := hD
  rw [List.append_assoc] at hD2
  have o1 : ∀ t i, vV S t i → ¬ (t = tt ∧ i < 24) := fun t i v z => hn2 i z.2 (by rw [← z.1]; exact v)
  have o2 : ∀ t i, vV S t i → ¬ (t = 38 ∧ i = k) := fun t i v z => hn (by rw [← z.1, ← z.2]; exact v)
  have gO : ∀ t i, vV S t i → gG (sMM S k tt q r) t i = gG S t i := fun t i v => (if_neg (o1 t i v)).trans (if_neg (o2 t i v))
  have gQ : gG (sMM S k tt q r) 38 k = q := (if_neg (fun z => t38 z.1)).trans (if_pos ⟨rfl, rfl⟩)
  have gR : ∀ i, i < 24 → gG (sMM S k tt q r) tt i = r i := fun i hi => if_pos ⟨rfl, hi⟩
  have f1 : ∀ t i, vV S t i → gG S t i ≠ q := fun t i v => hD2.far (hm t i v) (List.mem_append_left _ List.mem_cons_self)
  have f2 : ∀ t i j, vV S t i → j < 24 → gG S t i ≠ r j := fun t i j v hj => hD2.far (hm t i v) (List.mem_append_right _ (hrow j hj))
  have f3 : ∀ j, j < 24 → q ≠ r j := fun j hj => hD.far (p := (q, _)) (List.mem_append_right _ List.mem_cons_self) (hrow j hj)
  refine ⟨⟨_, hP, hD, fun t i v => ?_⟩, fun t i t' i' v v' hg => ?_⟩
  · rcases v with (v | ⟨rfl, rfl⟩) | ⟨rfl, hi⟩
    · have e1 : mN (sMM S k tt q r) t i = mN S t i := (if_neg (o1 t i v)).trans (if_neg (o2 t i v))
      have e2 : mA (sMM S k tt q r) t i = mA S t i := if_neg (o1 t i v)
      have e3 : mB (sMM S k tt q r) t i = mB S t i := if_neg (o2 t i v)
      have e : cellM cy (sMM S k tt q r) t i = cellM cy S t i := by
        unfold cellM
        rw [e1, e2, e3]; rfl
      rw [gO t i v, e]
      exact List.mem_append_left _ (List.mem_append_left _ (hm t i v))
    · have e1 : mN (sMM S i tt q r) 38 i = 24 := (if_neg (fun z => t38 z.1)).trans (if_pos ⟨rfl, rfl⟩)
      have e3 : mB (sMM S i tt q r) 38 i = (fun a => if a < 24 then some (r a) else none) := if_pos ⟨rfl, rfl⟩
      have e : cellM cy (sMM S i tt q r) 38 i = .inl (cy 4, 24, .inr (.inr (.inr (.inr (fun a => if a < 24 then some (r a) else none))))) := by
        unfold cellM
        rw [if_neg (by decide), e1, e3]; rfl
      rw [gQ, e]
      exact List.mem_append_left _ (List.mem_append_right _ List.mem_cons_self)
    · have e1 : mN (sMM S k t q r) t i = 3 := if_pos ⟨rfl, hi⟩
      have e2 : mA (sMM S k t q r) t i = (fun _ => 0) := if_pos ⟨rfl, hi⟩
      have e : cellM cy (sMM S k t q r) t i = .inl (cy 1, 3, .inl (fun _ => 0)) := by
        unfold cellM
        rw [e1, e2]
        rcases htt with rfl | rfl <;> rfl
      rw [gR i hi, e]
      exact List.mem_append_right _ (hrow i hi)
  · rcases v with (v | ⟨rfl, rfl⟩) | ⟨rfl, hi⟩ <;> rcases v' with (v' | ⟨rfl, rfl⟩) | ⟨e', hi'⟩
    · rw [gO _ _ v, gO _ _ v'] at hg; exact inj _ _ _ _ v v' hg
    · rw [gO _ _ v, gQ] at hg; exact absurd hg (f1 _ _ v)
    · rw [e', gO _ _ v, gR _ hi'] at hg; exact absurd hg (f2 _ _ _ v hi')
    · rw [gO _ _ v', gQ] at hg; exact absurd hg.symm (f1 _ _ v')
    · exact ⟨rfl, rfl⟩
    · rw [e', gQ, gR _ hi'] at hg; exact absurd hg (f3 _ hi')
    · rw [gO _ _ v', gR _ hi] at hg; exact absurd hg.symm (f2 _ _ _ v' hi)
    · rw [gQ, gR _ hi] at hg; exact absurd hg.symm (f3 _ hi)
    · subst e'
      rw [gR _ hi, gR _ hi'] at hg
      exact ⟨rfl, hr _ _ hi hi' hg⟩
theorem nwMM {index : Nat} (X : Cx s0 l D cy p s m args meth c cc nL own ret) (w : Wd s0 D cy S s.heap H locs) (k tt : Nat) (htt : tt = 36 ∨ tt = 37) (hn : ¬ vV S 38 k) (hn2 : ∀ i, i < 24 → ¬ vV S tt i) (hl : Cond.classLink own index "[[I" ∈ ALLW) (hdg : decode cc pc = .ok (.multianewarray index 2, 4)) (hcells : cells + (1 + 24) ≤ R.cells) (hslots : slots + (24 + 24 * 3) ≤ R.slots)
    (kk : ∀ (q : Nat) (r : Nat → Nat) (S2 : HS) (H1 : Heap), S2 = sMM S k tt q r → Wd s0 D cy S2 s.heap H1 locs → W p l e R s m args below meth c H1 locs (cells + 1 + 24) (slots + 24 + 24 * 3) Q (F0 m (pc + 4) ls (.ref (gG S2 38 k) :: rest))) : W p l e R s m args below meth c H locs cells slots Q (F0 m pc ls (.int 3 :: .int 24 :: rest)) := by
  obtain ⟨⟨⟨ws, hP, hD, hm⟩, inj⟩, hS⟩ := w
  have hK := X.2.2.2.2.2.2.2.1
  refine va_mna (X := ws) (L := []) (f := fun _ => .inl (cy 1, 3, .inl (fun _ => 0))) (ty := .int) (cy := cy 1) (z := (3, .inl (fun _ => 0))) (N' := 24) (K' := 3) X.1 X.2.1 X.2.2.2.1 (by rw [show ("[" ++ (FieldType.array FieldType.int).toString) = "[[I" by decide]; exact X.2.2.2.2.1 _ hl) (Gl.aoa X.2.2.2.2.2.2.2.2.2 X.2.2.2.2.2.2.2.2.1 wAO_int) (X.2.2.2.2.1 _ wA_int) (hK.2 1 _ rfl).2
    hK (by rw [show va_pl [] _ = ([] : va_W) from rfl, List.append_nil]; exact hP) (by rw [show va_pl [] _ = ([] : va_W) from rfl, List.append_nil]; exact hD) hS (fun q hq => Nat.le_trans X.2.2.2.2.2.2.2.2.1.2.1 hq) (by decide) (by decide) (by decide) (by decide) (by decide) (by decide) (by decide) (by decide) (by decide) hcells hslots (fun cA => by rw [vp_cell_i]; rfl) hdg (fun q r cA H1 hr _ hK1 hP1 hD1 hS1 => ?_)
  have hcA : cA = cy 4 := by
    have h1 := (hK1.2 (TY cy).length (cA, .array .int) (by rw [List.getElem?_append_right (Nat.le_refl _), Nat.sub_self]; rfl)).2
    exact Option.some.inj (h1.symm.trans (hK.2 4 _ rfl).2)
  subst hcA
  have eq : gG (sMM S k tt q r) 38 k = q := (if_neg (fun z => absurd z.1 (by omega))).trans (if_pos ⟨rfl, rfl⟩)
  have h := kk q r (sMM S k tt q r) H1 rfl ⟨WP.mm inj hm htt hn hn2 hr (fun i hi => ?_) hP1 hD1, hS1⟩
  · rw [eq] at h; exact h
  · have hmem : r i ∈ [] ++ (List.range 24).map r := by rw [List.nil_append]; exact List.mem_map_of_mem (List.mem_range.mpr hi)
    refine List.mem_map.mpr ⟨r i, hmem, ?_⟩
    rw [vr_up_in (by rw [List.nil_append] at hmem; exact hmem)]
end MM

