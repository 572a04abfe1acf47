/-- the state behind an add: list k in the row at q of cap places that holds b -/
def addS (S : HS) (k q cap : Nat) (mc sz : Int32) (b : Nat → Option Nat) : HS := ((fun t i => vV S t i ∨ (t = 30 ∧ i = k)), up2 (gG S) 30 k q, up2 (up2 (mI S) 272 k mc) 274 k sz, up2 (mR S) 273 k (some q), up2 (mN S) 30 k cap, mA S, up2 (mB S) 30 k b, mL S, mD S)
theorem Wd.map {s0 : State} {D : va_G} {cy : Nat → ClassId} {S S' : HS} {H0 H : Heap} {locs : List Loc} (w : Wd s0 D cy S H0 H locs) (h : WP s0 D cy S' H) : Wd s0 D cy S' H0 H locs := ⟨h, w.2⟩
section TOADD
variable {s0 : State} {D : va_G} {cy : Nat → ClassId} {S : HS} {H : Heap} {k q cap : Nat} {m z : Int32} {b : Nat → Option Nat}
theorem to_A (h : WP s0 D cy (sI (sB (sR (sArr (sI S 272 k m) 30 k q 10) 273 k (some (gG (sArr (sI S 272 k m) 30 k q 10) 30 k))) 30 k b) 274 k z) H) : WP s0 D cy (addS S k q 10 m z b) H := by
  rw [show gG (sArr (sI S 272 k m) 30 k q 10) 30 k = q from up2_s _ _ _ _] at h
  refine h.map (fun t i => (t, i)) (fun t i hv => ⟨hv, rfl, ?_⟩) (fun t i t' i' _ _ e => ⟨congrArg Prod.fst e, congrArg Prod.snd e⟩)
  have eB : mB (sI (sB (sR (sArr (sI S 272 k m) 30 k q 10) 273 k (some q)) 30 k b) 274 k z) t i = mB (addS S k q 10 m z b) t i := congrFun (congrFun (up2_up2 _ 30 k _ b) t) i
  show cellM cy (addS S k q 10 m z b) t i = cellM cy (sI (sB (sR (sArr (sI S 272 k m) 30 k q 10) 273 k (some q)) 30 k b) 274 k z) t i
  unfold cellM
  by_cases h21 : t < 21
  · rw [if_pos h21, if_pos h21]; rfl
  · rw [if_neg h21, if_neg h21]
    by_cases hr : isRefA t = true
    · rw [if_pos hr, if_pos hr, eB]; rfl
    · rw [if_neg hr, if_neg hr]
      have e : mA (sI (sB (sR (sArr (sI S 272 k m) 30 k q 10) 273 k (some q)) 30 k b) 274 k z) t i = mA S t i := up2_n (fun e => hr (by rw [e.1]; rfl))
      rw [e]; rfl
theorem to_M (hV : vV S 30 k) (hr : mR S 273 k = some (gG S 30 k)) (hN : mN S 30 k = cap) (h : WP s0 D cy (sI (sB (sI S 272 k m) 30 k b) 274 k z) H) : WP s0 D cy (addS S k (gG S 30 k) cap m z b) H := by
  have e : addS S k (gG S 30 k) cap m z b = sI (sB (sI S 272 k m) 30 k b) 274 k z := by
    unfold addS
    rw [← hr, ← hN, up2_id, up2_id, up2_id]
    have ev : (fun t i => vV S t i ∨ (t = 30 ∧ i = k)) = vV S := by
      funext t i
      exact propext ⟨fun h => h.elim (fun x => x) (fun x => by rw [x.1, x.2]; exact hV), Or.inl⟩
    rw [ev]; rfl
  rw [e]; exact h
theorem to_B {b0 : Nat → Option Nat} (hk : ¬ vV S 31 k) (h : WP s0 D cy (sI (sB (sR (sB (sArr (sI S 272 k m) 31 k q cap) 31 k b0) 273 k (some (gG (sB (sArr (sI S 272 k m) 31 k q cap) 31 k b0) 31 k))) 31 k b) 274 k z) H) : WP s0 D cy (addS S k q cap m z b) H := by
  rw [show gG (sB (sArr (sI S 272 k m) 31 k q cap) 31 k b0) 31 k = q from up2_s _ _ _ _] at h
  have no : ∀ t i, vV S t i → ¬ (t = 31 ∧ i = k) := fun t i h z => hk (by rw [← z.1, ← z.2]; exact h)
  refine h.map (fun t i => if t = 30 ∧ i = k then (31, k) else (t, i)) (fun t i hv => ?_) (fun t i t' i' h1 h2 e => ?_)
  · by_cases c : t = 30 ∧ i = k
    · obtain ⟨rfl, rfl⟩ := c
      rw [if_pos ⟨rfl, rfl⟩]
      refine ⟨Or.inr ⟨rfl, rfl⟩, (up2_s _ _ _ _).trans (up2_s _ _ _ _).symm, ?_⟩
      show cellM cy (addS S i q cap m z b) 30 i = cellM cy _ 31 i
      have e1 : mN (addS S i q cap m z b) 30 i = cap := up2_s _ _ _ _
      have e2 : mB (addS S i q cap m z b) 30 i = b := up2_s _ _ _ _
      have e3 : mN (sI (sB (sR (sB (sArr (sI S 272 i m) 31 i q cap) 31 i b0) 273 i (some q)) 31 i b) 274 i z) 31 i = cap := up2_s _ _ _ _
      have e4 : mB (sI (sB (sR (sB (sArr (sI S 272 i m) 31 i q cap) 31 i b0) 273 i (some q)) 31 i b) 274 i z) 31 i = b := up2_s _ _ _ _
      unfold cellM
      rw [e1, e2, e3, e4]; rfl
    · rw [if_neg c]
      have hv' : vV S t i := hv.elim (fun x => x) (fun x => absurd x c)
      have d := no t i hv'
      refine ⟨Or.inl hv', (up2_n c).trans (up2_n d).symm, ?_⟩
      show cellM cy (addS S k q cap m z b) t i = cellM cy _ t i
      have e1 : mN (addS S k q cap m z b) t i = mN S t i := up2_n c
      have e2 : mB (addS S k q cap m z b) t i = mB S t i := up2_n c
      have e3 : mN (sI (sB (sR (sB (sArr (sI S 272 k m) 31 k q cap) 31 k b0) 273 k (some q)) 31 k b) 274 k z) t i = mN S t i := up2_n d
      have e4 : mB (sI (sB (sR (sB (sArr (sI S 272 k m) 31 k q cap) 31 k b0) 273 k (some q)) 31 k b) 274 k z) t i = mB S t i := (up2_n d).trans ((up2_n d).trans (up2_n d))
      have e5 : mA (sI (sB (sR (sB (sArr (sI S 272 k m) 31 k q cap) 31 k b0) 273 k (some q)) 31 k b) 274 k z) t i = mA S t i := up2_n d
      unfold cellM
      rw [e1, e2, e3, e4, e5]; rfl
  · have n1 : ∀ t i, vV (addS S k q cap m z b) t i → ¬ (t = 31 ∧ i = k) := fun t i h z => h.elim (fun x => no t i x z) (fun x => by omega)
    by_cases c : t = 30 ∧ i = k
    · by_cases c' : t' = 30 ∧ i' = k
      · exact ⟨c.1.trans c'.1.symm, c.2.trans c'.2.symm⟩
      · rw [if_pos c, if_neg c'] at e
        exact absurd ⟨(congrArg Prod.fst e).symm, (congrArg Prod.snd e).symm⟩ (n1 t' i' h2)
    · by_cases c' : t' = 30 ∧ i' = k
      · rw [if_neg c, if_pos c'] at e
        exact absurd ⟨congrArg Prod.fst e, congrArg Prod.snd e⟩ (n1 t i h1)
      · rw [if_neg c, if_neg c'] at e
        exact ⟨congrArg Prod.fst e, congrArg Prod.snd e⟩
end TOADD
theorem sI_n {S : HS} {f i g j : Nat} {x : Int32} (h : ¬ (g = f ∧ j = i)) : mI (sI S f i x) g j = mI S g j := up2_n h
theorem EL.same {s0 : State} {S S' : HS} {a : Nat} (h : EL s0 S a) (hk : ∀ t i, vV S t i → (t < 17 ∨ t = 33) → vV S' t i ∧ gG S' t i = gG S t i) : EL s0 S' a := by
  rcases h with ⟨t, i, hV, ht, rfl⟩ | ⟨i, hV, rfl⟩ | h
  · obtain ⟨a, b⟩ := hk t i hV (Or.inl ht)
    exact Or.inl ⟨t, i, a, ht, b.symm⟩
  · obtain ⟨a, b⟩ := hk 33 i hV (Or.inr rfl)
    exact Or.inr (Or.inl ⟨i, a, b.symm⟩)
  · exact Or.inr (Or.inr h)

theorem dJx4a65c_grow_d5877_0 : decode cJx4a65c_grow_d5877 0 = .ok (.aload_n 0, 1) := by decide +kernel
theorem dJx4a65c_grow_d5877_1 : decode cJx4a65c_grow_d5877 1 = .ok (.aload_n 0, 1) := by decide +kernel
theorem dJx4a65c_grow_d5877_2 : decode cJx4a65c_grow_d5877 2 = .ok (.getfield 48, 3) := by decide +kernel
theorem dJx4a65c_grow_d5877_5 : decode cJx4a65c_grow_d5877 5 = .ok (.iconst 1, 1) := by decide +kernel
theorem dJx4a65c_grow_d5877_6 : decode cJx4a65c_grow_d5877 6 = .ok (.iadd, 1) := by decide +kernel
theorem dJx4a65c_grow_d5877_7 : decode cJx4a65c_grow_d5877 7 = .ok (.invokevirtual 69, 3) := by decide +kernel
theorem dJx4a65c_grow_d5877_10 : decode cJx4a65c_grow_d5877 10 = .ok (.areturn, 1) := by decide +kernel
abbrev rm_m_gA : Room := { frames := 2, cells := 1, slots := 10, locals := 44 }
set_option maxHeartbeats 4000000 in
set_option maxRecDepth 100000 in
theorem m_gA {s0 : State} {l : Launch} {D : va_G} {cy : Nat → ClassId} (G : Gl s0 l D cy) (S : HS) (k : Nat) (hV : vV S 17 k) (hr : mR S 273 k = some (eaOf s0)) (hz : ¬ vV S 30 k) (hs : mI S 274 k = nI 0) : Ctr s0 l D cy yJx4a65c_grow_d5877 cJx4a65c_grow_d5877 1 (some (.array (.object "java/lang/Object"))) rm_m_gA S [.ref (gG S 17 k)] (fun v S' => ∃ q, some (.ref (gG S' 30 k)) = v ∧ S' = sR (sArr S 30 k q 10) 273 k (some (gG (sArr S 30 k q 10) 30 k))) := by
  refine pro "java/util/ArrayList" G rfl rfl (Nat.le_of_ble_eq_true rfl) (fun p e s m below meth c ls X w hnm hl => ?_)
  have hx := X.1
  have hb := X.2.1
  have hown := X.2.2.2.1
  have hts := X.2.2.2.2.1
  have hl : lv_has ls 1 [(0, .ref (gG S 17 k))] := hl
  refine lv_aload_n hx hb dJx4a65c_grow_d5877_0 rfl (lv_at hl 0 rfl) ?_
  refine lv_aload_n hx hb dJx4a65c_grow_d5877_1 rfl (lv_at hl 0 rfl) ?_
  refine g_17_2 (S := S) (x := (nI 0)) X w hV wF_Jx4a65c_48 (hs) dJx4a65c_grow_d5877_2 ?_
  refine lv_iconst (v := 1) hx hb dJx4a65c_grow_d5877_5 (by decide) ?_
  refine lv_iadd hx hb dJx4a65c_grow_d5877_6 ?_
  refine lv_topi (fun z1 ez1 => ?_)
  obtain rfl : z1 = 1 := ez1.trans (by decide)
  refine cV (S := S) (nA := 1) (As := [.int 1]) (rest := []) X w hl hV (m_growA G S k hV hr hz) wY_Jx4a65c_grow_92f84 wM_Jx4a65c_69 wIn_Jx4a65c_grow_92f84 wSe_Jx4a65c_Jx4a65c_grow_92f84 wI_Jx4a65c (by decide) rfl (by decide +kernel) rfl rfl dJx4a65c_grow_d5877_7 ⟨by decide, by decide⟩ (Nat.le_of_ble_eq_true rfl) (⟨Nat.le_of_ble_eq_true rfl, Nat.le_of_ble_eq_true rfl⟩) (fun v2 S1 H locs hp w => ?_)
  obtain ⟨q, rfl, rfl⟩ := hp
  exact rA (v := (some (gG (sR (sArr S 30 k q 10) 273 k (some (gG (sArr S 30 k q 10) 30 k))) 30 k))) X w rfl (Or.inr ⟨_, rfl⟩) dJx4a65c_grow_d5877_10 (by decide) (by decide) (⟨_, rfl, rfl⟩)

abbrev rm_m_gB : Room := { frames := 4, cells := 1, slots := 49, locals := 127 }
set_option maxHeartbeats 4000000 in
set_option maxRecDepth 100000 in
theorem m_gB {s0 : State} {l : Launch} {D : va_G} {cy : Nat → ClassId} (G : Gl s0 l D cy) (S : HS) (k n cp mi : Nat) (hc : GrowP n cp) (hV30 : vV S 30 k) (hN : mN S 30 k = n) (ht : ¬ vV S 31 k) (hel : ∀ j, j < n → ∀ y, mB S 30 k j = some y → EL s0 S y) (hmi : va_Mi "[Ljava/lang/Object;" mi s0) (hV : vV S 17 k) (hr : mR S 273 k = some (gG S 30 k)) (hs : mI S 274 k = nI n) : Ctr s0 l D cy yJx4a65c_grow_d5877 cJx4a65c_grow_d5877 1 (some (.array (.object "java/lang/Object"))) rm_m_gB S [.ref (gG S 17 k)] (fun v S' => ∃ q b, some (.ref (gG S' 31 k)) = v ∧ S' = sR (sB (sArr S 31 k q cp) 31 k b) 273 k (some (gG (sB (sArr S 31 k q cp) 31 k b) 31 k)) ∧ ∀ j, j < n → b j = mB S 30 k j) := by
  refine pro "java/util/ArrayList" G rfl rfl (Nat.le_of_ble_eq_true rfl) (fun p e s m below meth c ls X w hnm hl => ?_)
  have hx := X.1
  have hb := X.2.1
  have hown := X.2.2.2.1
  have hts := X.2.2.2.2.1
  have hl : lv_has ls 1 [(0, .ref (gG S 17 k))] := hl
  refine lv_aload_n hx hb dJx4a65c_grow_d5877_0 rfl (lv_at hl 0 rfl) ?_
  refine lv_aload_n hx hb dJx4a65c_grow_d5877_1 rfl (lv_at hl 0 rfl) ?_
  refine g_17_2 (S := S) (x := (nI n)) X w hV wF_Jx4a65c_48 (hs) dJx4a65c_grow_d5877_2 ?_
  refine lv_iconst (v := 1) hx hb dJx4a65c_grow_d5877_5 (by decide) ?_
  refine lv_iadd hx hb dJx4a65c_grow_d5877_6 ?_
  refine lv_topi (fun z1 ez1 => ?_)
  obtain rfl : z1 = nI (n + 1) := ez1.trans (nI_1 _)
  refine cV (S := S) (nA := 1) (As := [.int (nI (n + 1))]) (rest := []) X w hl hV (m_growB G S k n cp mi hc hV30 hN ht hel hmi hV hr) wY_Jx4a65c_grow_92f84 wM_Jx4a65c_69 wIn_Jx4a65c_grow_92f84 wSe_Jx4a65c_Jx4a65c_grow_92f84 wI_Jx4a65c (by decide) rfl (by decide +kernel) rfl rfl dJx4a65c_grow_d5877_7 ⟨by decide, by decide⟩ (Nat.le_of_ble_eq_true rfl) (⟨Nat.le_of_ble_eq_true rfl, Nat.le_of_ble_eq_true rfl⟩) (fun v2 S1 H locs hp w => ?_)
  obtain ⟨q, b, rfl, rfl, hbb⟩ := hp
  exact rA (v := (some (gG (sR (sB (sArr S 31 k q cp) 31 k b) 273 k (some (gG (sB (sArr S 31 k q cp) 31 k b) 31 k))) 31 k))) X w rfl (Or.inr ⟨_, rfl⟩) dJx4a65c_grow_d5877_10 (by decide) (by decide) (⟨_, _, rfl, rfl, hbb⟩)

theorem dJx4a65c_add_72be8_0 : decode cJx4a65c_add_72be8 0 = .ok (.iload_n 3, 1) := by decide +kernel
theorem dJx4a65c_add_72be8_1 : decode cJx4a65c_add_72be8 1 = .ok (.aload_n 2, 1) := by decide +kernel
theorem dJx4a65c_add_72be8_2 : decode cJx4a65c_add_72be8 2 = .ok (.arraylength, 1) := by decide +kernel
theorem dJx4a65c_add_72be8_3 : decode cJx4a65c_add_72be8 3 = .ok (.if_icmp .ne 8, 3) := by decide +kernel
theorem dJx4a65c_add_72be8_6 : decode cJx4a65c_add_72be8 6 = .ok (.aload_n 0, 1) := by decide +kernel
theorem dJx4a65c_add_72be8_7 : decode cJx4a65c_add_72be8 7 = .ok (.invokevirtual 129, 3) := by decide +kernel
theorem dJx4a65c_add_72be8_10 : decode cJx4a65c_add_72be8 10 = .ok (.astore_n 2, 1) := by decide +kernel
theorem dJx4a65c_add_72be8_11 : decode cJx4a65c_add_72be8 11 = .ok (.aload_n 2, 1) := by decide +kernel
theorem dJx4a65c_add_72be8_12 : decode cJx4a65c_add_72be8 12 = .ok (.iload_n 3, 1) := by decide +kernel
theorem dJx4a65c_add_72be8_13 : decode cJx4a65c_add_72be8 13 = .ok (.aload_n 1, 1) := by decide +kernel
theorem dJx4a65c_add_72be8_14 : decode cJx4a65c_add_72be8 14 = .ok (.aastore, 1) := by decide +kernel
theorem dJx4a65c_add_72be8_15 : decode cJx4a65c_add_72be8 15 = .ok (.aload_n 0, 1) := by decide +kernel
theorem dJx4a65c_add_72be8_16 : decode cJx4a65c_add_72be8 16 = .ok (.iload_n 3, 1) := by decide +kernel
theorem dJx4a65c_add_72be8_17 : decode cJx4a65c_add_72be8 17 = .ok (.iconst 1, 1) := by decide +kernel
theorem dJx4a65c_add_72be8_18 : decode cJx4a65c_add_72be8 18 = .ok (.iadd, 1) := by decide +kernel
theorem dJx4a65c_add_72be8_19 : decode cJx4a65c_add_72be8 19 = .ok (.putfield 48, 3) := by decide +kernel
theorem dJx4a65c_add_72be8_22 : decode cJx4a65c_add_72be8 22 = .ok (.return_, 1) := by decide +kernel
abbrev rm_m_adA : Room := { frames := 3, cells := 1, slots := 10, locals := 64 }
set_option maxHeartbeats 4000000 in
set_option maxRecDepth 100000 in
theorem m_adA {s0 : State} {l : Launch} {D : va_G} {cy : Nat → ClassId} (G : Gl s0 l D cy) (S : HS) (k : Nat) (hV : vV S 17 k) (hr : mR S 273 k = some (eaOf s0)) (hz : ¬ vV S 30 k) (hs : mI S 274 k = nI 0) (a : Nat) (ha : EL s0 S a) : Ctr s0 l D cy yJx4a65c_add_72be8 cJx4a65c_add_72be8 4 none rm_m_adA S [.ref (gG S 17 k), .ref a, .ref (eaOf s0), .int (nI 0)] (fun v S' => ∃ q b, none = v ∧ S' = sI (sB (sR (sArr S 30 k q 10) 273 k (some (gG (sArr S 30 k q 10) 30 k))) 30 k b) 274 k (nI 1) ∧ b 0 = some a) := by
  refine pro "java/util/ArrayList" G rfl rfl (Nat.le_of_ble_eq_true rfl) (fun p e s m below meth c ls X w hnm hl => ?_)
  have hx := X.1
  have hb := X.2.1
  have hown := X.2.2.2.1
  have hts := X.2.2.2.2.1
  have hl : lv_has ls 4 [(0, .ref (gG S 17 k)), (1, .ref a), (2, .ref (eaOf s0)), (3, .int (nI 0))] := hl
  refine lv_iload_n hx hb dJx4a65c_add_72be8_0 rfl (lv_at hl 3 rfl) ?_
  refine lv_aload_n hx hb dJx4a65c_add_72be8_1 rfl (lv_at hl 2 rfl) ?_
  refine va_tlen (v := 0) hx hb (X_ea G X.2.2.2.2.2.2.2.2.1).2 w.2 rfl dJx4a65c_add_72be8_2 ?_
  refine lv_icmp_ne (tgt := 11) hx hb dJx4a65c_add_72be8_3 (by decide) (fun hc1 => ?_) (fun hc1 => ?_)
  · exact absurd hc1 (by decide)
  · refine lv_aload_n hx hb dJx4a65c_add_72be8_6 rfl (lv_at hl 0 rfl) ?_
    refine cV (S := S) (nA := 0) (As := []) (rest := []) X w hl hV (m_gA G S k hV hr hz hs) wY_Jx4a65c_grow_d5877 wM_Jx4a65c_129 wIn_Jx4a65c_grow_d5877 wSe_Jx4a65c_Jx4a65c_grow_d5877 wI_Jx4a65c (by decide) rfl (by decide +kernel) rfl rfl dJx4a65c_add_72be8_7 ⟨by decide, by decide⟩ (Nat.le_of_ble_eq_true rfl) (⟨Nat.le_of_ble_eq_true rfl, Nat.le_of_ble_eq_true rfl⟩) (fun v2 S1 H locs hp w => ?_)
    obtain ⟨q, rfl, rfl⟩ := hp
    refine lv_astore_n (lv' := [(2, .ref (gG (sR (sArr S 30 k q 10) 273 k (some (gG (sArr S 30 k q 10) 30 k))) 30 k)), (0, .ref (gG S 17 k)), (1, .ref a), (3, .int (nI 0))]) hx hb dJx4a65c_add_72be8_10 rfl hl (by decide) rfl (fun ls hl => ?_)
    refine lv_aload_n hx hb dJx4a65c_add_72be8_11 rfl (lv_at hl 0 rfl) ?_
    refine lv_iload_n hx hb dJx4a65c_add_72be8_12 rfl (lv_at hl 3 rfl) ?_
    refine lv_aload_n hx hb dJx4a65c_add_72be8_13 rfl (lv_at hl 2 rfl) ?_
    refine aStR (S := (sR (sArr S 30 k q 10) 273 k (some (gG (sArr S 30 k q 10) 30 k)))) (t := 30) X w (Or.inr ⟨rfl, rfl⟩) (by decide) rfl rfl (by rw [show mN (sR (sArr S 30 k q 10) 273 k (some (gG (sArr S 30 k q 10) 30 k))) 30 k = 10 from up2_s _ _ _ _]; exact nI_vp (by decide) (by decide)) (EL.same ha (fun t i hv ht => ⟨Or.inl hv, up2_n (fun z => by omega)⟩)) dJx4a65c_add_72be8_14 (fun H locs w => ?_)
    refine lv_aload_n hx hb dJx4a65c_add_72be8_15 rfl (lv_at hl 1 rfl) ?_
    refine lv_iload_n hx hb dJx4a65c_add_72be8_16 rfl (lv_at hl 3 rfl) ?_
    refine lv_iconst (v := 1) hx hb dJx4a65c_add_72be8_17 (by decide) ?_
    refine lv_iadd hx hb dJx4a65c_add_72be8_18 ?_
    refine lv_topi (fun z3 ez3 => ?_)
    obtain rfl : z3 = nI 1 := ez3.trans (by decide)
    refine p_17_2 (S := (sB (sR (sArr S 30 k q 10) 273 k (some (gG (sArr S 30 k q 10) 30 k))) 30 k (va_up (mB (sR (sArr S 30 k q 10) 273 k (some (gG (sArr S 30 k q 10) 30 k))) 30 k) (nI 0).toNatClampNeg (some a)))) (x := (nI 1)) X w (Or.inl hV) wF_Jx4a65c_48 dJx4a65c_add_72be8_19 (fun H locs w => ?_)
    exact rV X w rfl dJx4a65c_add_72be8_22 (by decide) (by decide) (⟨_, _, rfl, rfl, if_pos rfl⟩)

abbrev rm_m_adM : Room := { frames := 0, cells := 0, slots := 0, locals := 0 }
set_option maxHeartbeats 4000000 in
set_option maxRecDepth 100000 in
theorem m_adM {s0 : State} {l : Launch} {D : va_G} {cy : Nat → ClassId} (G : Gl s0 l D cy) (S : HS) (k n cp : Nat) (hV : vV S 17 k) (hV30 : vV S 30 k) (hN : mN S 30 k = cp) (hn : n < cp) (hcp : cp ≤ 49) (a : Nat) (ha : EL s0 S a) : Ctr s0 l D cy yJx4a65c_add_72be8 cJx4a65c_add_72be8 4 none rm_m_adM S [.ref (gG S 17 k), .ref a, .ref (gG S 30 k), .int (nI n)] (fun v S' => ∃ b, none = v ∧ S' = sI (sB S 30 k b) 274 k (nI (n + 1)) ∧ b n = some a ∧ ∀ j, j < n → b j = mB S 30 k j) := by
  refine pro "java/util/ArrayList" G rfl rfl (Nat.le_of_ble_eq_true rfl) (fun p e s m below meth c ls X w hnm hl => ?_)
  have hx := X.1
  have hb := X.2.1
  have hown := X.2.2.2.1
  have hts := X.2.2.2.2.1
  have hl : lv_has ls 4 [(0, .ref (gG S 17 k)), (1, .ref a), (2, .ref (gG S 30 k)), (3, .int (nI n))] := hl
  refine lv_iload_n hx hb dJx4a65c_add_72be8_0 rfl (lv_at hl 3 rfl) ?_
  refine lv_aload_n hx hb dJx4a65c_add_72be8_1 rfl (lv_at hl 2 rfl) ?_
  refine aLen (S := S) (t := 30) (n := cp) X w hV30 (by decide) rfl (hN) dJx4a65c_add_72be8_2 ?_
  refine lv_icmp_ne (tgt := 11) hx hb dJx4a65c_add_72be8_3 (by decide) (fun hq => ?_) (fun hq => ?_)
  · refine lv_aload_n hx hb dJx4a65c_add_72be8_11 rfl (lv_at hl 2 rfl) ?_
    refine lv_iload_n hx hb dJx4a65c_add_72be8_12 rfl (lv_at hl 3 rfl) ?_
    refine lv_aload_n hx hb dJx4a65c_add_72be8_13 rfl (lv_at hl 1 rfl) ?_
    refine aStR (S := S) (t := 30) X w hV30 (by decide) rfl rfl (by rw [hN]; exact nI_vp hn (by omega)) (ha) dJx4a65c_add_72be8_14 (fun H locs w => ?_)
    refine lv_aload_n hx hb dJx4a65c_add_72be8_15 rfl (lv_at hl 0 rfl) ?_
    refine lv_iload_n hx hb dJx4a65c_add_72be8_16 rfl (lv_at hl 3 rfl) ?_
    refine lv_iconst (v := 1) hx hb dJx4a65c_add_72be8_17 (by decide) ?_
    refine lv_iadd hx hb dJx4a65c_add_72be8_18 ?_
    refine lv_topi (fun z1 ez1 => ?_)
    obtain rfl : z1 = nI (n + 1) := ez1.trans (nI_1 _)
    refine p_17_2 (S := (sB S 30 k (va_up (mB S 30 k) (nI n).toNatClampNeg (some a)))) (x := (nI (n + 1))) X w hV wF_Jx4a65c_48 dJx4a65c_add_72be8_19 (fun H locs w => ?_)
    exact rV X w rfl dJx4a65c_add_72be8_22 (by decide) (by decide) (⟨_, rfl, rfl, if_pos (nI_clamp (by omega)).symm, fun j hj => if_neg (by rw [nI_clamp (by omega)]; omega)⟩)
  · exact absurd ((nI_eq (by omega) (by omega)).mp hq) (Nat.ne_of_lt hn)

abbrev rm_m_adB : Room := { frames := 5, cells := 1, slots := 49, locals := 147 }
set_option maxHeartbeats 4000000 in
set_option maxRecDepth 100000 in
theorem m_adB {s0 : State} {l : Launch} {D : va_G} {cy : Nat → ClassId} (G : Gl s0 l D cy) (S : HS) (k n cp mi : Nat) (hc : GrowP n cp) (hV30 : vV S 30 k) (hN : mN S 30 k = n) (ht : ¬ vV S 31 k) (hel : ∀ j, j < n → ∀ y, mB S 30 k j = some y → EL s0 S y) (hmi : va_Mi "[Ljava/lang/Object;" mi s0) (hV : vV S 17 k) (hr : mR S 273 k = some (gG S 30 k)) (hs : mI S 274 k = nI n) (a : Nat) (ha : EL s0 S a) : Ctr s0 l D cy yJx4a65c_add_72be8 cJx4a65c_add_72be8 4 none rm_m_adB S [.ref (gG S 17 k), .ref a, .ref (gG S 30 k), .int (nI n)] (fun v S' => ∃ q b0 b, none = v ∧ S' = sI (sB (sR (sB (sArr S 31 k q cp) 31 k b0) 273 k (some (gG (sB (sArr S 31 k q cp) 31 k b0) 31 k))) 31 k b) 274 k (nI (n + 1)) ∧ b n = some a ∧ ∀ j, j < n → b j = mB S 30 k j) := by
  refine pro "java/util/ArrayList" G rfl rfl (Nat.le_of_ble_eq_true rfl) (fun p e s m below meth c ls X w hnm hl => ?_)
  have hx := X.1
  have hb := X.2.1
  have hown := X.2.2.2.1
  have hts := X.2.2.2.2.1
  have hl : lv_has ls 4 [(0, .ref (gG S 17 k)), (1, .ref a), (2, .ref (gG S 30 k)), (3, .int (nI n))] := hl
  have hb3 := hc.b
  have no31 : ∀ t i, vV S t i → (t < 17 ∨ t = 33) → ¬ (t = 31 ∧ i = k) := fun t i _ h z => by omega
  refine lv_iload_n hx hb dJx4a65c_add_72be8_0 rfl (lv_at hl 3 rfl) ?_
  refine lv_aload_n hx hb dJx4a65c_add_72be8_1 rfl (lv_at hl 2 rfl) ?_
  refine aLen (S := S) (t := 30) (n := n) X w hV30 (by decide) rfl (hN) dJx4a65c_add_72be8_2 ?_
  refine lv_icmp_ne (tgt := 11) hx hb dJx4a65c_add_72be8_3 (by decide) (fun hq => ?_) (fun hq => ?_)
  · exact absurd rfl hq
  · refine lv_aload_n hx hb dJx4a65c_add_72be8_6 rfl (lv_at hl 0 rfl) ?_
    refine cV (S := S) (nA := 0) (As := []) (rest := []) X w hl hV (m_gB G S k n cp mi hc hV30 hN ht hel hmi hV hr hs) wY_Jx4a65c_grow_d5877 wM_Jx4a65c_129 wIn_Jx4a65c_grow_d5877 wSe_Jx4a65c_Jx4a65c_grow_d5877 wI_Jx4a65c (by decide) rfl (by decide +kernel) rfl rfl dJx4a65c_add_72be8_7 ⟨by decide, by decide⟩ (Nat.le_of_ble_eq_true rfl) (⟨Nat.le_of_ble_eq_true rfl, Nat.le_of_ble_eq_true rfl⟩) (fun v1 S1 H locs hp w => ?_)
    obtain ⟨q, b, rfl, rfl, hbb⟩ := hp
    refine lv_astore_n (lv' := [(2, .ref (gG (sR (sB (sArr S 31 k q cp) 31 k b) 273 k (some (gG (sB (sArr S 31 k q cp) 31 k b) 31 k))) 31 k)), (0, .ref (gG S 17 k)), (1, .ref a), (3, .int (nI n))]) hx hb dJx4a65c_add_72be8_10 rfl hl (by decide) rfl (fun ls hl => ?_)
    refine lv_aload_n hx hb dJx4a65c_add_72be8_11 rfl (lv_at hl 0 rfl) ?_
    refine lv_iload_n hx hb dJx4a65c_add_72be8_12 rfl (lv_at hl 3 rfl) ?_
    refine lv_aload_n hx hb dJx4a65c_add_72be8_13 rfl (lv_at hl 2 rfl) ?_
    refine aStR (S := (sR (sB (sArr S 31 k q cp) 31 k b) 273 k (some (gG (sB (sArr S 31 k q cp) 31 k b) 31 k)))) (t := 31) X w (Or.inr ⟨rfl, rfl⟩) (by decide) rfl rfl (by rw [show mN (sR (sB (sArr S 31 k q cp) 31 k b) 273 k (some (gG (sB (sArr S 31 k q cp) 31 k b) 31 k))) 31 k = cp from up2_s _ _ _ _]; exact nI_vp hb3.2.2 (by omega)) (EL.same ha (fun t i hv ht => ⟨Or.inl hv, up2_n (no31 t i hv ht)⟩)) dJx4a65c_add_72be8_14 (fun H locs w => ?_)
    refine lv_aload_n hx hb dJx4a65c_add_72be8_15 rfl (lv_at hl 1 rfl) ?_
    refine lv_iload_n hx hb dJx4a65c_add_72be8_16 rfl (lv_at hl 3 rfl) ?_
    refine lv_iconst (v := 1) hx hb dJx4a65c_add_72be8_17 (by decide) ?_
    refine lv_iadd hx hb dJx4a65c_add_72be8_18 ?_
    refine lv_topi (fun z2 ez2 => ?_)
    obtain rfl : z2 = nI (n + 1) := ez2.trans (nI_1 _)
    refine p_17_2 (S := (sB (sR (sB (sArr S 31 k q cp) 31 k b) 273 k (some (gG (sB (sArr S 31 k q cp) 31 k b) 31 k))) 31 k (va_up (mB (sR (sB (sArr S 31 k q cp) 31 k b) 273 k (some (gG (sB (sArr S 31 k q cp) 31 k b) 31 k))) 31 k) (nI n).toNatClampNeg (some a)))) (x := (nI (n + 1))) X w (Or.inl hV) wF_Jx4a65c_48 dJx4a65c_add_72be8_19 (fun H locs w => ?_)
    exact rV X w rfl dJx4a65c_add_72be8_22 (by decide) (by decide) (⟨_, _, _, rfl, rfl, if_pos (nI_clamp (by omega)).symm, fun j hj => (if_neg (by rw [nI_clamp (by omega)]; omega)).trans ((congrFun (up2_s _ _ _ _) j).trans (hbb j hj))⟩)

theorem dJx4a65c_add_9ea2d_0 : decode cJx4a65c_add_9ea2d 0 = .ok (.aload_n 0, 1) := by decide +kernel
theorem dJx4a65c_add_9ea2d_1 : decode cJx4a65c_add_9ea2d 1 = .ok (.dup, 1) := by decide +kernel
theorem dJx4a65c_add_9ea2d_2 : decode cJx4a65c_add_9ea2d 2 = .ok (.getfield 63, 3) := by decide +kernel
theorem dJx4a65c_add_9ea2d_5 : decode cJx4a65c_add_9ea2d 5 = .ok (.iconst 1, 1) := by decide +kernel
theorem dJx4a65c_add_9ea2d_6 : decode cJx4a65c_add_9ea2d 6 = .ok (.iadd, 1) := by decide +kernel
theorem dJx4a65c_add_9ea2d_7 : decode cJx4a65c_add_9ea2d 7 = .ok (.putfield 63, 3) := by decide +kernel
theorem dJx4a65c_add_9ea2d_10 : decode cJx4a65c_add_9ea2d 10 = .ok (.aload_n 0, 1) := by decide +kernel
theorem dJx4a65c_add_9ea2d_11 : decode cJx4a65c_add_9ea2d 11 = .ok (.aload_n 1, 1) := by decide +kernel
theorem dJx4a65c_add_9ea2d_12 : decode cJx4a65c_add_9ea2d 12 = .ok (.aload_n 0, 1) := by decide +kernel
theorem dJx4a65c_add_9ea2d_13 : decode cJx4a65c_add_9ea2d 13 = .ok (.getfield 9, 3) := by decide +kernel
theorem dJx4a65c_add_9ea2d_16 : decode cJx4a65c_add_9ea2d 16 = .ok (.aload_n 0, 1) := by decide +kernel
theorem dJx4a65c_add_9ea2d_17 : decode cJx4a65c_add_9ea2d 17 = .ok (.getfield 48, 3) := by decide +kernel
theorem dJx4a65c_add_9ea2d_20 : decode cJx4a65c_add_9ea2d 20 = .ok (.invokevirtual 131, 3) := by decide +kernel
theorem dJx4a65c_add_9ea2d_23 : decode cJx4a65c_add_9ea2d 23 = .ok (.iconst 1, 1) := by decide +kernel
theorem dJx4a65c_add_9ea2d_24 : decode cJx4a65c_add_9ea2d 24 = .ok (.ireturn, 1) := by decide +kernel
abbrev rm_m_addA : Room := { frames := 4, cells := 1, slots := 10, locals := 87 }
set_option maxHeartbeats 4000000 in
set_option maxRecDepth 100000 in
theorem m_addA {s0 : State} {l : Launch} {D : va_G} {cy : Nat → ClassId} (G : Gl s0 l D cy) (S : HS) (k : Nat) (hV : vV S 17 k) (hr : mR S 273 k = some (eaOf s0)) (hz : ¬ vV S 30 k) (hs : mI S 274 k = nI 0) (a : Nat) (ha : EL s0 S a) : Ctr s0 l D cy yJx4a65c_add_9ea2d cJx4a65c_add_9ea2d 2 (some .boolean) rm_m_addA S [.ref (gG S 17 k), .ref a] (fun v S' => some (.int 1) = v ∧ ∃ q m b, S' = addS S k q 10 m (nI 1) b ∧ b 0 = some a) := by
  refine pro "java/util/ArrayList" G rfl rfl (Nat.le_of_ble_eq_true rfl) (fun p e s m below meth c ls X w hnm hl => ?_)
  have hx := X.1
  have hb := X.2.1
  have hown := X.2.2.2.1
  have hts := X.2.2.2.2.1
  have hl : lv_has ls 2 [(0, .ref (gG S 17 k)), (1, .ref a)] := hl
  refine lv_aload_n hx hb dJx4a65c_add_9ea2d_0 rfl (lv_at hl 0 rfl) ?_
  refine lv_dup hx hb dJx4a65c_add_9ea2d_1 rfl ?_
  refine gS_17_0 (S := S) (x := (mI S 272 k)) X w hV wF_Jx4a65c_63 (rfl) dJx4a65c_add_9ea2d_2 ?_
  refine lv_iconst (v := 1) hx hb dJx4a65c_add_9ea2d_5 (by decide) ?_
  refine lv_iadd hx hb dJx4a65c_add_9ea2d_6 ?_
  refine pS_17_0 (S := S) (x := ((mI S 272 k) + 1)) X w hV wF_Jx4a65c_63 dJx4a65c_add_9ea2d_7 (fun H locs w => ?_)
  refine lv_aload_n hx hb dJx4a65c_add_9ea2d_10 rfl (lv_at hl 0 rfl) ?_
  refine lv_aload_n hx hb dJx4a65c_add_9ea2d_11 rfl (lv_at hl 1 rfl) ?_
  refine lv_aload_n hx hb dJx4a65c_add_9ea2d_12 rfl (lv_at hl 0 rfl) ?_
  refine g_17_1 (S := (sI S 272 k ((mI S 272 k) + 1))) (x := (some (eaOf s0))) X w hV wF_Jx4a65c_9 (hr) dJx4a65c_add_9ea2d_13 ?_
  refine lv_aload_n hx hb dJx4a65c_add_9ea2d_16 rfl (lv_at hl 0 rfl) ?_
  refine g_17_2 (S := (sI S 272 k ((mI S 272 k) + 1))) (x := (nI 0)) X w hV wF_Jx4a65c_48 ((sI_n (fun z => absurd z.1 (by decide))).trans hs) dJx4a65c_add_9ea2d_17 ?_
  refine cV (S := (sI S 272 k ((mI S 272 k) + 1))) (nA := 3) (As := [.ref a, .ref (eaOf s0), .int (nI 0)]) (rest := []) X w hl hV (m_adA G (sI S 272 k (mI S 272 k + 1)) k hV hr hz ((sI_n (fun z => absurd z.1 (by decide))).trans hs) a ha) wY_Jx4a65c_add_72be8 wM_Jx4a65c_131 wIn_Jx4a65c_add_72be8 wSe_Jx4a65c_Jx4a65c_add_72be8 wI_Jx4a65c (by decide) rfl (by decide +kernel) rfl rfl dJx4a65c_add_9ea2d_20 ⟨by decide, by decide⟩ (Nat.le_of_ble_eq_true rfl) (⟨Nat.le_of_ble_eq_true rfl, Nat.le_of_ble_eq_true rfl⟩) (fun v1 S1 H locs hp w => ?_)
  obtain ⟨q, b, rfl, rfl, hb0⟩ := hp
  refine lv_iconst (v := 1) hx hb dJx4a65c_add_9ea2d_23 (by decide) ?_
  have w := w.map (to_A w.1)
  exact rZ X w rfl dJx4a65c_add_9ea2d_24 (by decide) (by decide) (by decide) (⟨rfl, _, _, _, rfl, hb0⟩)

abbrev rm_m_addM : Room := { frames := 1, cells := 0, slots := 0, locals := 23 }
set_option maxHeartbeats 4000000 in
set_option maxRecDepth 100000 in
theorem m_addM {s0 : State} {l : Launch} {D : va_G} {cy : Nat → ClassId} (G : Gl s0 l D cy) (S : HS) (k n cp : Nat) (hV : vV S 17 k) (hV30 : vV S 30 k) (hN : mN S 30 k = cp) (hn : n < cp) (hcp : cp ≤ 49) (hr : mR S 273 k = some (gG S 30 k)) (hs : mI S 274 k = nI n) (a : Nat) (ha : EL s0 S a) : Ctr s0 l D cy yJx4a65c_add_9ea2d cJx4a65c_add_9ea2d 2 (some .boolean) rm_m_addM S [.ref (gG S 17 k), .ref a] (fun v S' => some (.int 1) = v ∧ ∃ q m b, S' = addS S k q cp m (nI (n + 1)) b ∧ b n = some a ∧ ∀ j, j < n → b j = mB S 30 k j) := by
  refine pro "java/util/ArrayList" G rfl rfl (Nat.le_of_ble_eq_true rfl) (fun p e s m below meth c ls X w hnm hl => ?_)
  have hx := X.1
  have hb := X.2.1
  have hown := X.2.2.2.1
  have hts := X.2.2.2.2.1
  have hl : lv_has ls 2 [(0, .ref (gG S 17 k)), (1, .ref a)] := hl
  refine lv_aload_n hx hb dJx4a65c_add_9ea2d_0 rfl (lv_at hl 0 rfl) ?_
  refine lv_dup hx hb dJx4a65c_add_9ea2d_1 rfl ?_
  refine gS_17_0 (S := S) (x := (mI S 272 k)) X w hV wF_Jx4a65c_63 (rfl) dJx4a65c_add_9ea2d_2 ?_
  refine lv_iconst (v := 1) hx hb dJx4a65c_add_9ea2d_5 (by decide) ?_
  refine lv_iadd hx hb dJx4a65c_add_9ea2d_6 ?_
  refine pS_17_0 (S := S) (x := ((mI S 272 k) + 1)) X w hV wF_Jx4a65c_63 dJx4a65c_add_9ea2d_7 (fun H locs w => ?_)
  refine lv_aload_n hx hb dJx4a65c_add_9ea2d_10 rfl (lv_at hl 0 rfl) ?_
  refine lv_aload_n hx hb dJx4a65c_add_9ea2d_11 rfl (lv_at hl 1 rfl) ?_
  refine lv_aload_n hx hb dJx4a65c_add_9ea2d_12 rfl (lv_at hl 0 rfl) ?_
  refine g_17_1 (S := (sI S 272 k ((mI S 272 k) + 1))) (x := (some (gG S 30 k))) X w hV wF_Jx4a65c_9 (hr) dJx4a65c_add_9ea2d_13 ?_
  refine lv_aload_n hx hb dJx4a65c_add_9ea2d_16 rfl (lv_at hl 0 rfl) ?_
  refine g_17_2 (S := (sI S 272 k ((mI S 272 k) + 1))) (x := (nI n)) X w hV wF_Jx4a65c_48 ((sI_n (fun z => absurd z.1 (by decide))).trans hs) dJx4a65c_add_9ea2d_17 ?_
  refine cV (S := (sI S 272 k ((mI S 272 k) + 1))) (nA := 3) (As := [.ref a, .ref (gG S 30 k), .int (nI n)]) (rest := []) X w hl hV (m_adM G (sI S 272 k (mI S 272 k + 1)) k n cp hV hV30 hN hn hcp a ha) wY_Jx4a65c_add_72be8 wM_Jx4a65c_131 wIn_Jx4a65c_add_72be8 wSe_Jx4a65c_Jx4a65c_add_72be8 wI_Jx4a65c (by decide) rfl (by decide +kernel) rfl rfl dJx4a65c_add_9ea2d_20 ⟨by decide, by decide⟩ (Nat.le_of_ble_eq_true rfl) (⟨Nat.le_of_ble_eq_true rfl, Nat.le_of_ble_eq_true rfl⟩) (fun v1 S1 H locs hp w => ?_)
  obtain ⟨b, rfl, rfl, hb0, hb1⟩ := hp
  refine lv_iconst (v := 1) hx hb dJx4a65c_add_9ea2d_23 (by decide) ?_
  have w := w.map (to_M hV30 hr hN w.1)
  exact rZ X w rfl dJx4a65c_add_9ea2d_24 (by decide) (by decide) (by decide) (⟨rfl, _, _, _, rfl, hb0, hb1⟩)

abbrev rm_m_addB : Room := { frames := 6, cells := 1, slots := 49, locals := 170 }
set_option maxHeartbeats 4000000 in
set_option maxRecDepth 100000 in
theorem m_addB {s0 : State} {l : Launch} {D : va_G} {cy : Nat → ClassId} (G : Gl s0 l D cy) (S : HS) (k n cp mi : Nat) (hc : GrowP n cp) (hV30 : vV S 30 k) (hN : mN S 30 k = n) (ht : ¬ vV S 31 k) (hel : ∀ j, j < n → ∀ y, mB S 30 k j = some y → EL s0 S y) (hmi : va_Mi "[Ljava/lang/Object;" mi s0) (hV : vV S 17 k) (hr : mR S 273 k = some (gG S 30 k)) (hs : mI S 274 k = nI n) (a : Nat) (ha : EL s0 S a) : Ctr s0 l D cy yJx4a65c_add_9ea2d cJx4a65c_add_9ea2d 2 (some .boolean) rm_m_addB S [.ref (gG S 17 k), .ref a] (fun v S' => some (.int 1) = v ∧ ∃ q m b, S' = addS S k q cp m (nI (n + 1)) b ∧ b n = some a ∧ ∀ j, j < n → b j = mB S 30 k j) := by
  refine pro "java/util/ArrayList" G rfl rfl (Nat.le_of_ble_eq_true rfl) (fun p e s m below meth c ls X w hnm hl => ?_)
  have hx := X.1
  have hb := X.2.1
  have hown := X.2.2.2.1
  have hts := X.2.2.2.2.1
  have hl : lv_has ls 2 [(0, .ref (gG S 17 k)), (1, .ref a)] := hl
  refine lv_aload_n hx hb dJx4a65c_add_9ea2d_0 rfl (lv_at hl 0 rfl) ?_
  refine lv_dup hx hb dJx4a65c_add_9ea2d_1 rfl ?_
  refine gS_17_0 (S := S) (x := (mI S 272 k)) X w hV wF_Jx4a65c_63 (rfl) dJx4a65c_add_9ea2d_2 ?_
  refine lv_iconst (v := 1) hx hb dJx4a65c_add_9ea2d_5 (by decide) ?_
  refine lv_iadd hx hb dJx4a65c_add_9ea2d_6 ?_
  refine pS_17_0 (S := S) (x := ((mI S 272 k) + 1)) X w hV wF_Jx4a65c_63 dJx4a65c_add_9ea2d_7 (fun H locs w => ?_)
  refine lv_aload_n hx hb dJx4a65c_add_9ea2d_10 rfl (lv_at hl 0 rfl) ?_
  refine lv_aload_n hx hb dJx4a65c_add_9ea2d_11 rfl (lv_at hl 1 rfl) ?_
  refine lv_aload_n hx hb dJx4a65c_add_9ea2d_12 rfl (lv_at hl 0 rfl) ?_
  refine g_17_1 (S := (sI S 272 k ((mI S 272 k) + 1))) (x := (some (gG S 30 k))) X w hV wF_Jx4a65c_9 (hr) dJx4a65c_add_9ea2d_13 ?_
  refine lv_aload_n hx hb dJx4a65c_add_9ea2d_16 rfl (lv_at hl 0 rfl) ?_
  refine g_17_2 (S := (sI S 272 k ((mI S 272 k) + 1))) (x := (nI n)) X w hV wF_Jx4a65c_48 ((sI_n (fun z => absurd z.1 (by decide))).trans hs) dJx4a65c_add_9ea2d_17 ?_
  refine cV (S := (sI S 272 k ((mI S 272 k) + 1))) (nA := 3) (As := [.ref a, .ref (gG S 30 k), .int (nI n)]) (rest := []) X w hl hV (m_adB G (sI S 272 k (mI S 272 k + 1)) k n cp mi hc hV30 hN ht hel hmi hV hr ((sI_n (fun z => absurd z.1 (by decide))).trans hs) a ha) wY_Jx4a65c_add_72be8 wM_Jx4a65c_131 wIn_Jx4a65c_add_72be8 wSe_Jx4a65c_Jx4a65c_add_72be8 wI_Jx4a65c (by decide) rfl (by decide +kernel) rfl rfl dJx4a65c_add_9ea2d_20 ⟨by decide, by decide⟩ (Nat.le_of_ble_eq_true rfl) (⟨Nat.le_of_ble_eq_true rfl, Nat.le_of_ble_eq_true rfl⟩) (fun v1 S1 H locs hp w => ?_)
  obtain ⟨q, b0, b, rfl, rfl, hb0, hb1⟩ := hp
  refine lv_iconst (v := 1) hx hb dJx4a65c_add_9ea2d_23 (by decide) ?_
  have w := w.map (to_B ht w.1)
  exact rZ X w rfl dJx4a65c_add_9ea2d_24 (by decide) (by decide) (by decide) (⟨rfl, _, _, _, rfl, hb0, hb1⟩)

theorem Ctr.weak {s0 : State} {l : Launch} {D : va_G} {cy : Nat → ClassId} {y : MethodName} {cc : ByteArray} {n : Nat} {ret : Option FieldType} {rm rm' : Room} {S : HS} {As : List Value} {post : Option Value → HS → Prop} (h : Ctr s0 l D cy y cc n ret rm S As post) (hf : rm.frames ≤ rm'.frames) (hl : rm.locals ≤ rm'.locals) (hc : rm.cells ≤ rm'.cells) (hs : rm.slots ≤ rm'.slots) : Ctr s0 l D cy y cc n ret rm' S As post := by
  unfold Ctr Met at h ⊢
  exact MetFree.mono (MetFree.respec (S' := headSpec (Cond.code y cc n ret :: ALLW) rm') h (fun a s q => q) hf hl hc hs) (fun _ _ x => x) (fun _ _ _ _ _ x => x) (fun a s o t _ ⟨q, L, ⟨e1, e2, e3⟩, e4⟩ => ⟨q, L, ⟨e1, e2, e3.mono hc hs⟩, e4⟩)
theorem Ctr.post {s0 : State} {l : Launch} {D : va_G} {cy : Nat → ClassId} {y : MethodName} {cc : ByteArray} {n : Nat} {ret : Option FieldType} {rm : Room} {S : HS} {As : List Value} {post post' : Option Value → HS → Prop} (h : Ctr s0 l D cy y cc n ret rm S As post) (hp : ∀ v S', post v S' → post' v S') : Ctr s0 l D cy y cc n ret rm S As post' := by
  unfold Ctr Met at h ⊢
  exact MetFree.mono h (fun _ _ x => x) (fun _ _ _ _ _ x => x) (fun a s o t _ ⟨⟨⟨v, S', h1, h2, h3⟩, h4⟩, h5⟩ => ⟨⟨⟨v, S', h1, hp v S' h2, h3⟩, h4⟩, h5⟩)
theorem Gl.mi0 {s0 : State} {l : Launch} {D : va_G} {cy : Nat → ClassId} (G : Gl s0 l D cy) : ∃ mi, va_Mi "[Ljava/lang/Object;" mi s0 := by
  obtain ⟨-, -, b, -, hgv⟩ := G
  exact va_Mi.of (flat_of_before _ hgv (Cond.isRef (.mirror "[Ljava/lang/Object;")) (by decide +kernel))
def addC (n : Nat) : Nat := if n = 0 ∨ capOf n = n then 1 else 0
def addL (n : Nat) : Nat := if n = 0 then 10 else if capOf n = n then 49 else 0
abbrev rm_add1 : Room := { frames := 6, cells := 1, slots := 49, locals := 170 }
abbrev rm_addn (n : Nat) : Room := { frames := 6, cells := addC n, slots := addL n, locals := 170 }
/-- an element is added to a list -/
def AddP (S : HS) (k n a : Nat) : Option Value → HS → Prop := fun v S' => some (.int 1) = v ∧ ∃ q m b, S' = addS S k q (capOf (n + 1)) m (nI (n + 1)) b ∧ b n = some a ∧ ∀ j, j < n → b j = mB S 30 k j
theorem m_addn {s0 : State} {l : Launch} {D : va_G} {cy : Nat → ClassId} (G : Gl s0 l D cy) (S : HS) (k n a : Nat) (h : LsOk (eaOf s0) S k n) (hn : n < 49) (hz : n = 0 → ¬ vV S 30 k) (ht : ¬ vV S 31 k) (hel : ∀ j, j < n → ∀ y, mB S 30 k j = some y → EL s0 S y) (ha : EL s0 S a) : Ctr s0 l D cy yJx4a65c_add_9ea2d cJx4a65c_add_9ea2d 2 (some .boolean) (rm_addn n) S [.ref (gG S 17 k), .ref a] (AddP S k n a) := by
  obtain ⟨h1, h2, -, h4, h5⟩ := h
  by_cases h0 : n = 0
  · subst h0
    refine ((m_addA G S k h1 (h4 rfl) (hz rfl) h2 a ha).weak (Nat.le_of_ble_eq_true rfl) (Nat.le_of_ble_eq_true rfl) (Nat.le_of_ble_eq_true rfl) (Nat.le_of_ble_eq_true rfl)).post (fun v S' ⟨e1, q, m, b, e2, e3⟩ => ⟨e1, q, m, b, e2, e3, fun j hj => absurd hj (Nat.not_lt_zero j)⟩)
  · obtain ⟨g1, g2, g3⟩ := h5 (Nat.pos_of_ne_zero h0)
    by_cases hc : capOf n = n
    · obtain ⟨mi, hmi⟩ := Gl.mi0 G
      have hg := growP_of (Nat.pos_of_ne_zero h0) hc hn
      exact (m_addB G S k n (capOf (n + 1)) mi hg g1 (g3.trans hc) ht hel hmi h1 g2 h2 a ha).weak (Nat.le_of_ble_eq_true rfl) (Nat.le_of_ble_eq_true rfl) (by show 1 ≤ addC n; unfold addC; rw [if_pos (Or.inr hc)]; exact Nat.le_refl _) (by show 49 ≤ addL n; unfold addL; rw [if_neg h0, if_pos hc]; exact Nat.le_refl _)
    · obtain ⟨c1, c2⟩ := capOf_same (Nat.pos_of_ne_zero h0) hc hn
      have z := (m_addM G S k n (capOf n) h1 g1 g3 c2 (capOf_le n) g2 h2 a ha).weak (rm' := rm_addn n) (Nat.le_of_ble_eq_true rfl) (Nat.le_of_ble_eq_true rfl) (Nat.zero_le _) (Nat.zero_le _)
      rw [← c1] at z; exact z

