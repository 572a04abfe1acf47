/-! arrays by roles; new objects; casts -/
theorem cell_arr {cy : Nat → ClassId} {S : HS} {t i : Nat} (h : ¬ t < 21) (hr : isRefA t = false) : cellM cy S t i = .inl (cy (ak t), mN S t i, .inl (mA S t i)) := by unfold cellM; rw [if_neg h, hr]; rfl
theorem cell_arrR {cy : Nat → ClassId} {S : HS} {t i : Nat} (h : ¬ t < 21) (hr : isRefA t = true) : cellM cy S t i = .inl (cy (ak t), mN S t i, .inr (.inr (.inr (.inr (mB S t i))))) := by unfold cellM; rw [if_neg h, hr]; rfl
theorem nI_vp {j n : Nat} (h : j < n) (hn : n < 2 ^ 31) : vp_in (nI j) n := vp_in_nI h hn
theorem cl_nI {j n : Nat} (h : j < n) (hn : n < 2 ^ 31) : (nI j).toNatClampNeg = j := nI_clamp (Nat.lt_trans h hn)
theorem ty01 {t k : Nat} (h : t ≠ 11) (ht : t < 21) (hk : k < 16) : tyF (16 * t + k) = 0 ∨ tyF (16 * t + k) = 1 := by
  have key : ∀ t : Fin 21, t.val ≠ 11 → ∀ k : Fin 16, tyF (16 * t.val + k.val) = 0 ∨ tyF (16 * t.val + k.val) = 1 := by decide +kernel
  exact key ⟨t, ht⟩ h ⟨k, hk⟩
section ARR
variable {p : Program} {l : Launch} {e : Env} {R : Room} {s : State} {m : MethodId} {args : Array Value} {below : List Frame} {meth : Method} {c : Code} {H : Heap} {locs : List Loc} {cells slots : Nat} {Q : State → Prop} {cc : ByteArray} {pc nL : Nat} {ls : Array Slot} {rest : List Value} {s0 : State} {D : va_G} {cy : Nat → ClassId} {S : HS} {own : String} {ret : Option FieldType} {t i : Nat}
theorem aLen {n : Nat} {ty : FieldType} (X : Cx s0 l D cy p s m args meth c cc nL own ret) (w : Wd s0 D cy S s.heap H locs) (hV : vV S t i) (ht : ¬ t < 21) (hty : (TY cy)[ak t]? = some (cy (ak t), ty)) (hn : mN S t i = n) (hdg : decode cc pc = .ok (.arraylength, 1))
    (kk : W p l e R s m args below meth c H locs cells slots Q (F0 m (pc + 1) ls (.int (nI n) :: rest))) : W p l e R s m args below meth c H locs cells slots Q (F0 m pc ls (.ref (gG S t i) :: rest)) := by
  obtain ⟨ws, q0, hP, hD, hq, hm⟩ := w.at hV
  cases hr : isRefA t with
  | false => rw [cell_arr ht hr] at hq; exact va_alen X.1 X.2.1 X.2.2.2.2.2.2.2.1 hP q0 (ak t) hq hty (by rw [← hn]; rfl) hdg kk
  | true => rw [cell_arrR ht hr] at hq; exact va_alen X.1 X.2.1 X.2.2.2.2.2.2.2.1 hP q0 (ak t) hq hty (by rw [← hn]; rfl) hdg kk
theorem aLdI {x : Int32} {v : Int32} (X : Cx s0 l D cy p s m args meth c cc nL own ret) (w : Wd s0 D cy S s.heap H locs) (hV : vV S t i) (ht : ¬ t < 21) (hr : isRefA t = false) (hty : (TY cy)[ak t]? = some (cy (ak t), .int)) (hin : vp_in x (mN S t i)) (hv : mA S t i x.toNatClampNeg = v) (hdg : decode cc pc = .ok (.iaload, 1))
    (kk : W p l e R s m args below meth c H locs cells slots Q (F0 m (pc + 1) ls (.int v :: rest))) : W p l e R s m args below meth c H locs cells slots Q (F0 m pc ls (.int x :: .ref (gG S t i) :: rest)) := by
  obtain ⟨ws, q0, hP, hD, hq, hm⟩ := w.at hV
  rw [cell_arr ht hr] at hq
  subst hv
  exact va_iald X.1 X.2.1 X.2.2.2.2.2.2.2.1 hP q0 (ak t) hq hty hin hdg kk
theorem aLdZ {x : Int32} {v : Int32} (X : Cx s0 l D cy p s m args meth c cc nL own ret) (w : Wd s0 D cy S s.heap H locs) (hV : vV S t i) (ht : ¬ t < 21) (hr : isRefA t = false) (hty : (TY cy)[ak t]? = some (cy (ak t), .boolean)) (hin : vp_in x (mN S t i)) (hv : mA S t i x.toNatClampNeg = v) (hdg : decode cc pc = .ok (.baload, 1))
    (kk : W p l e R s m args below meth c H locs cells slots Q (F0 m (pc + 1) ls (.int v :: rest))) : W p l e R s m args below meth c H locs cells slots Q (F0 m pc ls (.int x :: .ref (gG S t i) :: rest)) := by
  obtain ⟨ws, q0, hP, hD, hq, hm⟩ := w.at hV
  rw [cell_arr ht hr] at hq
  subst hv
  exact va_zald X.1 X.2.1 X.2.2.2.2.2.2.2.1 hP q0 (ak t) hq hty hin hdg kk
theorem aLdR {x : Int32} {v : Option Nat} {ty : FieldType} (X : Cx s0 l D cy p s m args meth c cc nL own ret) (w : Wd s0 D cy S s.heap H locs) (hV : vV S t i) (ht : ¬ t < 21) (hr : isRefA t = true) (hty : (TY cy)[ak t]? = some (cy (ak t), ty)) (hr2 : (∃ C, ty = .object C) ∨ ∃ z, ty = .array z) (hin : vp_in x (mN S t i)) (hv : mB S t i x.toNatClampNeg = v) (hdg : decode cc pc = .ok (.aaload, 1))
    (kk : W p l e R s m args below meth c H locs cells slots Q (F0 m (pc + 1) ls (va_rf v :: rest))) : W p l e R s m args below meth c H locs cells slots Q (F0 m pc ls (.int x :: .ref (gG S t i) :: rest)) := by
  obtain ⟨ws, q0, hP, hD, hq, hm⟩ := w.at hV
  rw [cell_arrR ht hr] at hq
  subst hv
  have hlt : x.toNatClampNeg < mN S t i := Nat.not_le.mp fun q => hin (Or.inr q)
  rcases hr2 with ⟨C, rfl⟩ | ⟨z, rfl⟩
  · exact va_aldq X.1 X.2.1 X.2.2.2.2.2.2.2.1 hP q0 (ak t) hq hty hin hdg kk
  · exact W.aald (v := va_rf (mB S t i x.toNatClampNeg)) (ty := .array z) X.1 X.2.1 (hP q0 _ hq) ((X.2.2.2.2.2.2.2.1.2 (ak t) _ hty).1 (mN S t i) (fun j => va_rf (mB S t i j))) rfl (fun q => by cases q) (by show ¬ (x < 0 ∨ (arrV _ _ _).slots.size ≤ _); rw [arrV_size]; exact hin) (by show (arrV _ _ _).slots[_]? = _; rw [arrV_read _ _ hlt]) rfl rfl hdg kk
theorem cell_sA {f : Nat → Int32} {t' i' : Nat} (h : ¬ (t' = t ∧ i' = i)) : cellM cy (sA S t i f) t' i' = cellM cy S t' i' := by
  have e : mA (sA S t i f) t' i' = mA S t' i' := up2_n h
  unfold cellM
  rw [e]; rfl
theorem cell_sB {f : Nat → Option Nat} {t' i' : Nat} (h : ¬ (t' = t ∧ i' = i)) : cellM cy (sB S t i f) t' i' = cellM cy S t' i' := by
  have e : mB (sB S t i f) t' i' = mB S t' i' := up2_n h
  unfold cellM
  rw [e]; rfl
theorem aStI {x v : Int32} (X : Cx s0 l D cy p s m args meth c cc nL own ret) (w : Wd s0 D cy S s.heap H locs) (hV : vV S t i) (ht : ¬ t < 21) (hr : isRefA t = false) (hty : (TY cy)[ak t]? = some (cy (ak t), .int)) (hin : vp_in x (mN S t i)) (hdg : decode cc pc = .ok (.iastore, 1))
    (kk : ∀ (H1 : Heap) (locs1 : List Loc), Wd s0 D cy (sA S t i (upd (mA S t i) x.toNatClampNeg v)) s.heap H1 locs1 → W p l e R s m args below meth c H1 locs1 cells slots Q (F0 m (pc + 1) ls rest)) : W p l e R s m args below meth c H locs cells slots Q (F0 m pc ls (.int v :: .int x :: .ref (gG S t i) :: rest)) := by
  obtain ⟨ws, q0, hP, hD, hq, hm⟩ := w.at hV
  have hq' := hq
  rw [cell_arr ht hr] at hq
  refine va_iast X.1 X.2.1 X.2.2.2.2.2.2.2.1 hP hD w.2 q0 (ak t) hq hty hin hdg (fun H1 locs1 a b c' => ?_)
  refine kk H1 locs1 ⟨WP.put w.1.2 hD hV hq' hm a b rfl rfl ?_ (fun t' i' h => cell_sA h), c'⟩
  rw [cell_arr ht hr]
  exact congrArg (fun f => (Sum.inl (cy (ak t), mN S t i, Sum.inl f) : va_E)) (up2_s _ t i _)
theorem aStZ {x v : Int32} (X : Cx s0 l D cy p s m args meth c cc nL own ret) (w : Wd s0 D cy S s.heap H locs) (hV : vV S t i) (ht : ¬ t < 21) (hr : isRefA t = false) (hty : (TY cy)[ak t]? = some (cy (ak t), .boolean)) (hz : v = 0 ∨ v = 1) (hin : vp_in x (mN S t i)) (hdg : decode cc pc = .ok (.bastore, 1))
    (kk : ∀ (H1 : Heap) (locs1 : List Loc), Wd s0 D cy (sA S t i (upd (mA S t i) x.toNatClampNeg v)) s.heap H1 locs1 → W p l e R s m args below meth c H1 locs1 cells slots Q (F0 m (pc + 1) ls rest)) : W p l e R s m args below meth c H locs cells slots Q (F0 m pc ls (.int v :: .int x :: .ref (gG S t i) :: rest)) := by
  obtain ⟨ws, q0, hP, hD, hq, hm⟩ := w.at hV
  have hq' := hq
  rw [cell_arr ht hr] at hq
  refine va_zast X.1 X.2.1 X.2.2.2.2.2.2.2.1 hP hD w.2 q0 (ak t) hq hty hin hdg (fun H1 locs1 a b c' => ?_)
  refine kk H1 locs1 ⟨WP.put w.1.2 hD hV hq' hm a b rfl rfl ?_ (fun t' i' h => cell_sA h), c'⟩
  have hn : vp_nar .boolean v = v := by rcases hz with rfl | rfl <;> rfl
  rw [cell_arr ht hr, hn]
  exact congrArg (fun f => (Sum.inl (cy (ak t), mN S t i, Sum.inl f) : va_E)) (up2_s _ t i _)
theorem ckC {C : String} {T : u_T} {index : Nat} (X : Cx s0 l D cy p s m args meth c cc nL own ret) (w : Wd s0 D cy S s.heap H locs) (hV : vV S t i) (ht : t < 21) (hc : CL[t]? = some (C, T, nf t)) (hl : Cond.classLink own index C ∈ ALLW) (hdg : decode cc pc = .ok (.checkcast index, 3))
    (kk : W p l e R s m args below meth c H locs cells slots Q (F0 m (pc + 3) ls (.ref (gG S t i) :: rest))) : W p l e R s m args below meth c H locs cells slots Q (F0 m pc ls (.ref (gG S t i) :: rest)) :=
  va_castS X.1 X.2.1 X.2.2.2.1 (X.2.2.2.2.1 _ hl) (X.2.2.2.2.2.2.2.1.1 t _ hc).2 (recvG X w hV ht hc) hdg kk
theorem ckI {index : Nat} (X : Cx s0 l D cy p s m args meth c cc nL own ret) (w : Wd s0 D cy S s.heap H locs) (hV : vV S t i) (ht : ¬ t < 21) (hr : isRefA t = false) (hak : ak t = 1) (hl : Cond.classLink own index "[I" ∈ ALLW) (hdg : decode cc pc = .ok (.checkcast index, 3))
    (kk : W p l e R s m args below meth c H locs cells slots Q (F0 m (pc + 3) ls (.ref (gG S t i) :: rest))) : W p l e R s m args below meth c H locs cells slots Q (F0 m pc ls (.ref (gG S t i) :: rest)) := by
  obtain ⟨ws, q0, hP, hD, hq, hm⟩ := w.at hV
  rw [cell_arr ht hr, hak] at hq
  exact va_castA X.1 X.2.1 X.2.2.2.1 (X.2.2.2.2.1 _ hl) hP q0 hq (X.2.2.2.2.2.2.2.1.2 1 _ rfl).2 hdg kk
/-- a role that a world names has its address below the heap's end, and is of the moving ones -/
theorem WP.new {S' : HS} {H1 : Heap} {ws : va_W} {q : Nat} {e1 : va_E} (w : WP s0 D cy S H) (hm : ∀ t i, vV S t i → (gG S t i, cellM cy S t i) ∈ ws) (hD1 : va_D (A0 s0) (ws ++ [(q, e1)])) (hP1 : va_P D CL (ws ++ [(q, e1)]) H1)
    (hn : ¬ vV S t i) (eV : ∀ t' i', vV S' t' i' ↔ (vV S t' i' ∨ (t' = t ∧ i' = i))) (eG : ∀ t' i', ¬ (t' = t ∧ i' = i) → gG S' t' i' = gG S t' i') (eq : gG S' t i = q) (he : cellM cy S' t i = e1) (ho : ∀ t' i', vV S t' i' → ¬ (t' = t ∧ i' = i) → cellM cy S' t' i' = cellM cy S t' i') : WP s0 D cy S' H1 := by
  have old : ∀ t' i', vV S t' i' → ¬ (t' = t ∧ i' = i) := fun t' i' h z => hn (by rw [← z.1, ← z.2]; exact h)
  have far : ∀ t' i', vV S t' i' → gG S t' i' ≠ q := by
    intro t' i' h z
    obtain ⟨k, hk⟩ := List.getElem?_of_mem (hm t' i' h)
    have hl := (List.getElem?_eq_some_iff.mp hk).1
    have := hD1.1 k ws.length _ _ (by rw [List.getElem?_append_left hl]; exact hk) (by rw [List.getElem?_append_right (Nat.le_refl _), Nat.sub_self]; rfl) z
    omega
  refine ⟨⟨_, hP1, hD1, fun t' i' h => ?_⟩, fun a b a' b' h h' hg => ?_⟩
  · rcases (eV t' i').mp h with h | ⟨rfl, rfl⟩
    · rw [eG _ _ (old _ _ h), ho _ _ h (old _ _ h)]
      exact List.mem_append_left _ (hm t' i' h)
    · rw [eq, he]
      exact List.mem_append_right _ List.mem_cons_self
  · rcases (eV a b).mp h with h | ⟨rfl, rfl⟩ <;> rcases (eV a' b').mp h' with h' | ⟨rfl, rfl⟩
    · rw [eG _ _ (old _ _ h), eG _ _ (old _ _ h')] at hg
      exact w.2 a b a' b' h h' hg
    · rw [eG _ _ (old _ _ h), eq] at hg
      exact absurd hg (far _ _ h)
    · rw [eG _ _ (old _ _ h'), eq] at hg
      exact absurd hg.symm (far _ _ h')
    · exact ⟨rfl, rfl⟩
def dfl (f : Nat) : Value := match tyF f with
  | 0 => .int 0
  | 1 => .null
  | 2 => .long 0
  | _ => .double 0
theorem cell_new {q : Nat} {t' i' : Nat} (h : ¬ (t' = t ∧ i' = i)) (h11 : t' = 11 → t ≠ 11) : cellM cy (sNew S t i q) t' i' = cellM cy S t' i' := by
  unfold cellM
  by_cases h21 : t' < 21
  · rw [if_pos h21, if_pos h21]
    congr 2
    apply List.map_congr_left
    intro k hk
    have hk16 : k < 16 := Nat.lt_of_lt_of_le (List.mem_range.mp hk) (nf_le t')
    have hd : (16 * t' + k) / 16 = t' := by omega
    have e1 : mI (sNew S t i q) (16 * t' + k) i' = mI S (16 * t' + k) i' := by
      show (if _ then _ else _) = _
      rw [hd, if_neg h]; rfl
    have e2 : mR (sNew S t i q) (16 * t' + k) i' = mR S (16 * t' + k) i' := by
      show (if _ then _ else _) = _
      rw [hd, if_neg h]; rfl
    by_cases z : t' = t
    · have z11 : t' ≠ 11 := fun y => h11 y (by rw [← z]; exact y)
      have h3 : tyF (16 * t' + k) = 0 ∨ tyF (16 * t' + k) = 1 := ty01 z11 h21 hk16
      unfold fval
      rcases h3 with h3 | h3 <;> rw [h3]
      · exact congrArg Value.int e1
      · exact congrArg va_rf e2
    · have e3 : mL (sNew S t i q) (16 * t' + k) = mL S (16 * t' + k) := by
        show (if _ then _ else _) = _
        rw [hd, if_neg z]; rfl
      have e4 : mD (sNew S t i q) (16 * t' + k) = mD S (16 * t' + k) := by
        show (if _ then _ else _) = _
        rw [hd, if_neg z]; rfl
      unfold fval
      rw [e1, e2, e3, e4]
  · rw [if_neg h21, if_neg h21]; rfl
theorem nwO {C : String} {T : u_T} {index : Nat} {n : Nat} (X : Cx s0 l D cy p s m args meth c cc nL own ret) (w : Wd s0 D cy S s.heap H locs) (i : Nat) (hn : ¬ vV S t i) (h11 : t ≠ 11 ∨ ∀ j, ¬ vV S 11 j) (ht : t < 21) (hc : CL[t]? = some (C, T, nf t)) (hin : ∀ w ∈ u_ws C T (nf t), w ∈ ALLW) (ty0 : Nat → FieldType) (hty : ∀ k, k < nf t → parseFieldDescriptor (T k).2.2.1 = some (ty0 k)) (hdf : ∀ j, j < nf t → defaultValue (ty0 j) = dfl (16 * t + j)) (hl : Cond.classLink own index C ∈ ALLW) (hns : Cond.instantiable C (nf t) ∈ ALLW) (hI : Cond.initialized C ∈ ALLW) (hdg : decode cc pc = .ok (.new index, 3)) (hnn : nf t = n) (hcells : cells + 1 ≤ R.cells) (hslots : slots + n ≤ R.slots)
    (kk : ∀ (q : Nat) (S2 : HS) (H1 : Heap), S2 = sNew S t i q → Wd s0 D cy S2 s.heap H1 locs → W p l e R s m args below meth c H1 locs (cells + 1) (slots + n) Q (F0 m (pc + 3) ls (.ref (gG S2 t i) :: rest))) : W p l e R s m args below meth c H locs cells slots Q (F0 m pc ls rest) := by
  subst hnn
  obtain ⟨⟨⟨ws, hP, hD, hm⟩, inj⟩, hS⟩ := w
  refine va_new (ci := t) (fs := (List.range (nf t)).map (fun k => dfl (16 * t + k))) X.1 X.2.1 X.2.2.2.2.1 hin ty0 hty X.2.2.2.1 (X.2.2.2.2.1 _ hl) (X.2.2.2.2.1 _ hns) (X.2.2.2.2.1 _ hI) X.2.2.2.2.2.2.2.1 hP hD hS (fun q hq => Nat.le_trans X.2.2.2.2.2.2.2.2.1.2.1 hq) hc (fun j hj => by unfold vp_V; rw [List.getD_eq_getElem?_getD, rng_get _ hj, hdf j hj]; rfl) hcells hslots hdg (fun q H1 hP1 hD1 hS1 => ?_)
  have eq : gG (sNew S t i q) t i = q := up2_s _ t i q
  have h := kk q (sNew S t i q) H1 rfl ⟨WP.new ⟨⟨ws, hP, hD, hm⟩, inj⟩ hm hD1 hP1 hn (fun t' i' => Iff.rfl) (fun t' i' h => up2_n h) eq ?_ (fun t' i' hv' h => ?_), hS1⟩
  · rw [eq] at h; exact h
  · rw [cell_obj ht]
    refine congrArg (fun l => (Sum.inr (t, l) : va_E)) (List.map_congr_left fun k hk => ?_)
    have hk16 : k < 16 := Nat.lt_of_lt_of_le (List.mem_range.mp hk) (nf_le t)
    have hd : (16 * t + k) / 16 = t := by omega
    have e1 : mI (sNew S t i q) (16 * t + k) i = 0 := by show (if _ then _ else _) = _; rw [hd, if_pos ⟨rfl, rfl⟩]
    have e2 : mR (sNew S t i q) (16 * t + k) i = none := by show (if _ then _ else _) = _; rw [hd, if_pos ⟨rfl, rfl⟩]
    have e3 : mL (sNew S t i q) (16 * t + k) = 0 := by show (if _ then _ else _) = _; rw [hd, if_pos rfl]
    have e4 : mD (sNew S t i q) (16 * t + k) = 0 := by show (if _ then _ else _) = _; rw [hd, if_pos rfl]
    unfold fval dfl
    rw [e1, e2, e3, e4]; rfl
  · by_cases z : t' = 11 ∧ t = 11
    · rcases h11 with h11 | h11
      · exact absurd z.2 h11
      · exact absurd (by rw [← z.1]; exact hv') (h11 i')
    · exact cell_new h (fun a b => z ⟨a, b⟩)
theorem cell_arrN {q n : Nat} {t' i' : Nat} (h : ¬ (t' = t ∧ i' = i)) : cellM cy (sArr S t i q n) t' i' = cellM cy S t' i' := by
  have e1 : mN (sArr S t i q n) t' i' = mN S t' i' := up2_n h
  have e2 : mA (sArr S t i q n) t' i' = mA S t' i' := up2_n h
  have e3 : mB (sArr S t i q n) t' i' = mB S t' i' := up2_n h
  unfold cellM
  rw [e1, e2, e3]; rfl
theorem cell_arrS {q n : Nat} (ht : ¬ t < 21) : cellM cy (sArr S t i q n) t i = if isRefA t then .inl (cy (ak t), n, .inr (.inr (.inr (.inr (fun _ => none))))) else .inl (cy (ak t), n, .inl (fun _ => 0)) := by
  have e1 : mN (sArr S t i q n) t i = n := up2_s _ t i n
  have e2 : mA (sArr S t i q n) t i = (fun _ => 0) := up2_s _ t i _
  have e3 : mB (sArr S t i q n) t i = (fun _ => none) := up2_s _ t i _
  unfold cellM
  rw [if_neg ht, e1, e2, e3]
theorem nwI {x : Int32} {n : Nat} {atype : ArrayType} {ty : FieldType} (X : Cx s0 l D cy p s m args meth c cc nL own ret) (w : Wd s0 D cy S s.heap H locs) (t i : Nat) (hn : ¬ vV S t i) (ht : ¬ t < 21) (hr : isRefA t = false) (hty : newarray.typeOf atype = ty) (hz : (ty = .int ∧ ak t = 1) ∨ (ty = .boolean ∧ ak t = 2) ∨ (ty = .byte ∧ ak t = 3)) (ha : Cond.arrayClass ty ∈ ALLW) (hx : x = nI n) (hb : n < 2 ^ 20) (hdg : decode cc pc = .ok (.newarray atype, 2)) (hcells : cells + 1 ≤ R.cells) (hslots : slots + n ≤ R.slots)
    (kk : ∀ (q : Nat) (S2 : HS) (H1 : Heap), S2 = sArr S t i q n → Wd s0 D cy S2 s.heap H1 locs → W p l e R s m args below meth c H1 locs (cells + 1) (slots + n) Q (F0 m (pc + 2) ls (.ref (gG S2 t i) :: rest))) : W p l e R s m args below meth c H locs cells slots Q (F0 m pc ls (.int x :: rest)) := by
  obtain ⟨⟨⟨ws, hP, hD, hm⟩, inj⟩, hS⟩ := w
  subst hx
  have hcl : (nI n).toNatClampNeg = n := nI_clamp (Nat.lt_trans hb (by decide))
  have hb31 : n < 2 ^ 31 := Nat.lt_trans hb (by decide)
  refine va_newa (a0 := (n, .inl (fun _ => 0))) X.1 X.2.1 (by rw [hty]; exact X.2.2.2.2.1 _ ha) hty X.2.2.2.2.2.2.2.1 hP hD hS (fun q hq => Nat.le_trans X.2.2.2.2.2.2.2.2.1.2.1 hq) (fun cA => ?_) (nI_pos hb31) hcl ?_ hcells hslots hdg (fun q cA H1 hK1 hP1 hD1 hS1 => ?_)
  · rcases hz with ⟨rfl, -⟩ | ⟨rfl, -⟩ | ⟨rfl, -⟩ <;> (rw [vp_cell_i]; rfl)
  · rcases hz with ⟨rfl, -⟩ | ⟨rfl, -⟩ | ⟨rfl, -⟩ <;> simp only [componentBytes] <;> omega
  · have hcA : cA = cy (ak t) := by
      have h1 := (hK1.2 (TY cy).length (cA, ty) (by rw [List.getElem?_append_right (Nat.le_refl _), Nat.sub_self]; rfl)).2
      have h2 := X.2.2.2.2.2.2.2.1.2
      rcases hz with ⟨rfl, h⟩ | ⟨rfl, h⟩ | ⟨rfl, h⟩ <;> rw [h]
      · exact Option.some.inj (h1.symm.trans (h2 1 _ rfl).2)
      · exact Option.some.inj (h1.symm.trans (h2 2 _ rfl).2)
      · exact Option.some.inj (h1.symm.trans (h2 3 _ rfl).2)
    subst hcA
    have eq : gG (sArr S t i q n) t i = q := up2_s _ t i q
    have h := kk q (sArr S t i q n) H1 rfl ⟨WP.new ⟨⟨ws, hP, hD, hm⟩, inj⟩ hm hD1 hP1 hn (fun t' i' => Iff.rfl) (fun t' i' h => up2_n h) eq (by rw [cell_arrS ht, hr]; rfl) (fun t' i' hv' h => cell_arrN h), hS1⟩
    rw [eq] at h; exact h
end ARR

