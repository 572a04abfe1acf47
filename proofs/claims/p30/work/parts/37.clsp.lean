def rep6 (S : HS) (i : Nat) (a b q x1 x2 xL x3 x4 : Int32) : HS := sI (sI (sI (sI (sI (sI (sI (sI (sI (sI (sI S 105 i (-1)) 106 i (-1)) 107 i 0) 101 i a) 102 i b) 103 i q) 96 i x1) 98 i x2) 97 i xL) 99 i x3) 100 i x4
theorem px_min {S : HS} {g : Nat} (h : g ≤ 300) : PXb S 300 (some (.int (if nI g < 20 then nI g else 20))) S := by
  by_cases z : nI g < 20
  · rw [if_pos z]; exact px_b h
  · rw [if_neg z]; exact px_b (g := 20) (by decide)
theorem px_div4 {S : HS} {g : Nat} (h : g ≤ 300) : PXb S 300 (some (.int (nI g / 4))) S := by
  rw [show nI g / 4 = nI (g / 4) from pk_div (d := 4) (by omega) (by decide) (by decide)]
  exact px_b (by omega)
theorem hiP6 {f i : Nat} (z : f / 16 = 6) : hiP f i = true := by simp [hiP, hiH, z]
theorem hidR6 {f i : Nat} (z : f / 16 = 6) : hidR true f i = true := by simp [hidR, z]
/-- which reports there are: those of the hours gone by -/
def RH (S : HS) (nt : Nat) : Prop := ∀ j, j < nt → (mR S 152 j = none → ¬ vV S 6 j) ∧ (mR S 152 j ≠ none → mI S 146 j < mI S 164 0)
theorem rh_fin {S U V : HS} {nt g : Nat} (hRe : ∀ j, j < nt → (mR U 152 j = none → ¬ vV U 6 j) ∧ (mR U 152 j ≠ none → mI S 146 j < mI S 164 0 ∨ mI S 146 j = mI S 164 0)) (eR : ∀ j, mR V 152 j = mR U 152 j) (eV : ∀ j, vV V 6 j = vV U 6 j) (hx : ∀ j, j < nt → ∃ t, t < 720 ∧ mI S 146 j = nI t) (hg : mI S 164 0 = nI g) (hg7 : g < 720) (e146 : ∀ j, mI V 146 j = mI S 146 j) (e164 : mI V 164 0 = nI (g + 1)) : RH V nt := by
  intro j hj
  obtain ⟨r1, r2⟩ := hRe j hj
  rw [eR, eV, e146, e164]
  refine ⟨r1, fun z => ?_⟩
  obtain ⟨t, ht, e⟩ := hx j hj
  have r3 := r2 z
  rw [e, hg] at r3
  rw [e]
  refine (nI_ltI (a := t) (b := g + 1) (by omega) (by omega)).mpr ?_
  rcases r3 with r3 | r3
  · have := (nI_ltI (a := t) (b := g) (by omega) (by omega)).mp r3
    omega
  · have := (nI_eq (a := t) (b := g) (by omega) (by omega)).mp r3
    omega

theorem CI.new6 {ea : Nat} {S : HS} {ns nj nm nt nr nc : Nat} (h : CI ea S ns nj nm nt nr nc) {i q : Nat} (hi : i < nt) (hn : mR S 152 i = none) : CI ea (sNew S 6 i q) ns nj nm nt nr nc := by
  have up : ∀ t k, vV S t k → vV (sNew S 6 i q) t k := fun t k v => Or.inl v
  have dn : ∀ t k, ¬ (t = 6 ∧ k = i) → vV (sNew S 6 i q) t k → vV S t k := fun t k d v => v.elim id (fun e => absurd e d)
  exact ⟨(up _ _ h.v10), h.f160, h.f161, h.f162, h.f163, (up _ _ h.v0), h.f0, h.f1, (up _ _ h.v7), h.f112, h.f113, h.f114, h.f115, (up _ _ h.v4), h.f64, h.f65, h.f66, (up _ _ h.v2), h.f32, h.f33, h.f34, h.f35, h.f36, ⟨up _ _ h.a0.1, h.a0.2⟩, ⟨up _ _ h.a1.1, h.a1.2⟩, ⟨up _ _ h.a2.1, h.a2.2⟩, ⟨up _ _ h.a3.1, h.a3.2⟩, ⟨up _ _ h.a4.1, h.a4.2⟩, (h.l_st.of (up _ _) rfl rfl (up _ _) (fun _ => rfl) rfl), (h.l_jm.of (up _ _) rfl rfl (up _ _) (fun _ => rfl) rfl), (h.l_mo.of (up _ _) rfl rfl (up _ _) (fun _ => rfl) rfl), (h.l_ta.of (up _ _) rfl rfl (up _ _) (fun _ => rfl) rfl), (h.l_re.of (up _ _) rfl rfl (up _ _) (fun _ => rfl) rfl), (h.l_co.of (up _ _) rfl rfl (up _ _) (fun _ => rfl) rfl), h.b_st, h.b_jm, h.b_mo, h.b_ta, h.b_re, h.b_co, (fun j hj => ⟨(h.e_st j hj).1, up _ _ (h.e_st j hj).2⟩), (fun j hj => ⟨(h.e_jm j hj).1, up _ _ (h.e_jm j hj).2⟩), (fun j hj => ⟨(h.e_mo j hj).1, up _ _ (h.e_mo j hj).2⟩), (fun j hj => ⟨(h.e_ta j hj).1, up _ _ (h.e_ta j hj).2⟩), (fun j hj => ⟨(h.e_re j hj).1, up _ _ (h.e_re j hj).2⟩), h.e_co, h.t_st, (fun j hj => (h.t_rp j hj).elim Or.inl (fun z => by
    by_cases e : j = i
    · exact Or.inr ⟨by rw [e, hn] at z; exact absurd z.1 (by simp), Or.inr ⟨rfl, e⟩⟩
    · exact Or.inr ⟨z.1.trans (congrArg some (up2_n (fun y => e y.2)).symm), Or.inl z.2⟩)), h.x_to, h.x_ho, h.x_th, h.x_tw, (fun j hj z => by
    by_cases e : j = i
    · rw [e] at z; exact z.1 hn
    · exact h.x_rl j hj ⟨z.1, by have y := z.2; rwa [show mI (sNew S 6 i q) 97 j = mI S 97 j from if_neg (fun y => e y.2)] at y⟩), h.x_cs, h.x_wl, h.n_st, h.n_mo, h.n_ta, h.n_re, (fun j hj v => h.z_st j hj (dn _ j (by omega) v)), (fun j hj v => h.z_jm j hj (dn _ j (by omega) v)), (fun j hj v => h.z_mo j hj (dn _ j (by omega) v)), (fun j hj v => h.z_ta j hj (dn _ j (by omega) v)), (fun j hj v => h.z_re j hj (dn _ j (by omega) v)), (fun j hj v => h.z_rp j hj (dn _ j (by omega) v)), ⟨(fun z v => h.z30.1 z (dn 30 0 (by omega) v)), (fun z v => h.z30.2.1 z (dn 30 1 (by omega) v)), (fun z v => h.z30.2.2.1 z (dn 30 2 (by omega) v)), (fun z v => h.z30.2.2.2.1 z (dn 30 3 (by omega) v)), (fun z v => h.z30.2.2.2.2.1 z (dn 30 4 (by omega) v)), (fun z v => h.z30.2.2.2.2.2 z (dn 30 5 (by omega) v))⟩, (fun k v => h.z31 k (dn 31 k (by omega) v)), (Nat.le_trans h.x_co (cntB_mono nt (fun k _ hk => by
    obtain ⟨k1, k2, k3⟩ := pO1 hk
    by_cases e : k = i
    · rw [e] at k2; exact absurd hn k2
    · exact pO2 ((if_neg (fun y => e y.2)).trans k1) k2 k3)))⟩
theorem CI.rep {ea : Nat} {S : HS} {ns nj nm nt nr nc : Nat} (h : CI ea S ns nj nm nt nr nc) {i q xL : Nat} {a b ql x1 x2 x3 x4 x : Int32} (hi : i < nt) (hn : mR S 152 i = none) (hL : xL ≤ 300) (hx : ¬ x = 1) : CI ea (sR (sI (rep6 (sNew S 6 i q) i a b ql x1 x2 (nI xL) x3 x4) 104 i x) 152 i (some (gG (sNew S 6 i q) 6 i))) ns nj nm nt nr nc := by
  have up : ∀ t k, vV S t k → vV (sR (sI (rep6 (sNew S 6 i q) i a b ql x1 x2 (nI xL) x3 x4) 104 i x) 152 i (some (gG (sNew S 6 i q) 6 i))) t k := fun t k v => Or.inl v
  have dn : ∀ t k, ¬ (t = 6 ∧ k = i) → vV (sR (sI (rep6 (sNew S 6 i q) i a b ql x1 x2 (nI xL) x3 x4) 104 i x) 152 i (some (gG (sNew S 6 i q) 6 i))) t k → vV S t k := fun t k d v => v.elim id (fun e => absurd e d)
  have eR : ∀ j, ¬ j = i → mR (sR (sI (rep6 (sNew S 6 i q) i a b ql x1 x2 (nI xL) x3 x4) 104 i x) 152 i (some (gG (sNew S 6 i q) 6 i))) 152 j = mR S 152 j := fun j d => up2_n (fun y => d y.2)
  have e97 : mI (sR (sI (rep6 (sNew S 6 i q) i a b ql x1 x2 (nI xL) x3 x4) 104 i x) 152 i (some (gG (sNew S 6 i q) 6 i))) 97 i = nI xL := by simp [mI, sI, sR, sNew, rep6, up2]
  have e97n : ∀ j, ¬ j = i → mI (sR (sI (rep6 (sNew S 6 i q) i a b ql x1 x2 (nI xL) x3 x4) 104 i x) 152 i (some (gG (sNew S 6 i q) 6 i))) 97 j = mI S 97 j := fun j d => by simp [mI, sI, sR, sNew, rep6, up2, d]
  have e104n : ∀ j, ¬ j = i → mI (sR (sI (rep6 (sNew S 6 i q) i a b ql x1 x2 (nI xL) x3 x4) 104 i x) 152 i (some (gG (sNew S 6 i q) 6 i))) 104 j = mI S 104 j := fun j d => by simp [mI, sI, sR, sNew, rep6, up2, d]
  exact ⟨(up _ _ h.v10), h.f160, h.f161, h.f162, h.f163, (up _ _ h.v0), h.f0, h.f1, (up _ _ h.v7), h.f112, h.f113, h.f114, h.f115, (up _ _ h.v4), h.f64, h.f65, h.f66, (up _ _ h.v2), h.f32, h.f33, h.f34, h.f35, h.f36, ⟨up _ _ h.a0.1, h.a0.2⟩, ⟨up _ _ h.a1.1, h.a1.2⟩, ⟨up _ _ h.a2.1, h.a2.2⟩, ⟨up _ _ h.a3.1, h.a3.2⟩, ⟨up _ _ h.a4.1, h.a4.2⟩, (h.l_st.of (up _ _) rfl rfl (up _ _) (fun _ => rfl) rfl), (h.l_jm.of (up _ _) rfl rfl (up _ _) (fun _ => rfl) rfl), (h.l_mo.of (up _ _) rfl rfl (up _ _) (fun _ => rfl) rfl), (h.l_ta.of (up _ _) rfl rfl (up _ _) (fun _ => rfl) rfl), (h.l_re.of (up _ _) rfl rfl (up _ _) (fun _ => rfl) rfl), (h.l_co.of (up _ _) rfl rfl (up _ _) (fun _ => rfl) rfl), h.b_st, h.b_jm, h.b_mo, h.b_ta, h.b_re, h.b_co, (fun j hj => ⟨(h.e_st j hj).1, up _ _ (h.e_st j hj).2⟩), (fun j hj => ⟨(h.e_jm j hj).1, up _ _ (h.e_jm j hj).2⟩), (fun j hj => ⟨(h.e_mo j hj).1, up _ _ (h.e_mo j hj).2⟩), (fun j hj => ⟨(h.e_ta j hj).1, up _ _ (h.e_ta j hj).2⟩), (fun j hj => ⟨(h.e_re j hj).1, up _ _ (h.e_re j hj).2⟩), h.e_co, h.t_st, (fun j hj => by
    by_cases e : j = i
    · rw [e]; exact Or.inr ⟨up2_s _ _ _ _, Or.inr ⟨rfl, rfl⟩⟩
    · rw [eR j e]
      exact (h.t_rp j hj).imp id (fun z => ⟨z.1.trans (congrArg some (up2_n (fun y => e y.2)).symm), Or.inl z.2⟩)), h.x_to, h.x_ho, h.x_th, h.x_tw, (fun j hj z => by
    by_cases e : j = i
    · rw [e, e97] at z; exact nI_pos (by omega) z.2
    · rw [eR j e, e97n j e] at z; exact h.x_rl j hj z), h.x_cs, h.x_wl, h.n_st, h.n_mo, h.n_ta, h.n_re, (fun j hj v => h.z_st j hj (dn _ j (by omega) v)), (fun j hj v => h.z_jm j hj (dn _ j (by omega) v)), (fun j hj v => h.z_mo j hj (dn _ j (by omega) v)), (fun j hj v => h.z_ta j hj (dn _ j (by omega) v)), (fun j hj v => h.z_re j hj (dn _ j (by omega) v)), (fun j hj v => h.z_rp j hj (dn _ j (by omega) v)), ⟨(fun z v => h.z30.1 z (dn 30 0 (by omega) v)), (fun z v => h.z30.2.1 z (dn 30 1 (by omega) v)), (fun z v => h.z30.2.2.1 z (dn 30 2 (by omega) v)), (fun z v => h.z30.2.2.2.1 z (dn 30 3 (by omega) v)), (fun z v => h.z30.2.2.2.2.1 z (dn 30 4 (by omega) v)), (fun z v => h.z30.2.2.2.2.2 z (dn 30 5 (by omega) v))⟩, (fun k v => h.z31 k (dn 31 k (by omega) v)), (Nat.le_trans h.x_co (cntB_mono nt (fun k _ hk => by
    obtain ⟨k1, k2, k3⟩ := pO1 hk
    by_cases e : k = i
    · rw [e] at k2; exact absurd hn k2
    · exact pO2 (by rw [e104n k e]; exact k1) (by rw [eR k e]; exact k2) k3)))⟩
theorem dX6_sortOf_0 : decode cX6_sortOf 0 = .ok (.iload_n 0, 1) := by decide +kernel
theorem dX6_sortOf_1 : decode cX6_sortOf 1 = .ok (.bipush 8, 2) := by decide +kernel
theorem dX6_sortOf_3 : decode cX6_sortOf 3 = .ok (.if_icmp .lt 5, 3) := by decide +kernel
theorem dX6_sortOf_6 : decode cX6_sortOf 6 = .ok (.iconst 3, 1) := by decide +kernel
theorem dX6_sortOf_7 : decode cX6_sortOf 7 = .ok (.ireturn, 1) := by decide +kernel
theorem dX6_sortOf_8 : decode cX6_sortOf 8 = .ok (.iload_n 0, 1) := by decide +kernel
theorem dX6_sortOf_9 : decode cX6_sortOf 9 = .ok (.iconst 5, 1) := by decide +kernel
theorem dX6_sortOf_10 : decode cX6_sortOf 10 = .ok (.if_icmp .lt 5, 3) := by decide +kernel
theorem dX6_sortOf_13 : decode cX6_sortOf 13 = .ok (.iconst 2, 1) := by decide +kernel
theorem dX6_sortOf_14 : decode cX6_sortOf 14 = .ok (.ireturn, 1) := by decide +kernel
theorem dX6_sortOf_15 : decode cX6_sortOf 15 = .ok (.iload_n 0, 1) := by decide +kernel
theorem dX6_sortOf_16 : decode cX6_sortOf 16 = .ok (.iconst 3, 1) := by decide +kernel
theorem dX6_sortOf_17 : decode cX6_sortOf 17 = .ok (.if_icmp .lt 7, 3) := by decide +kernel
theorem dX6_sortOf_20 : decode cX6_sortOf 20 = .ok (.iconst 1, 1) := by decide +kernel
theorem dX6_sortOf_21 : decode cX6_sortOf 21 = .ok (.goto 4, 3) := by decide +kernel
theorem dX6_sortOf_24 : decode cX6_sortOf 24 = .ok (.iconst 0, 1) := by decide +kernel
theorem dX6_sortOf_25 : decode cX6_sortOf 25 = .ok (.ireturn, 1) := by decide +kernel
abbrev rm_m_X6_sortOf : Room := { frames := 0, cells := 0, slots := 0, locals := 0 }
set_option maxHeartbeats 4000000 in
set_option maxRecDepth 100000 in
theorem m_X6_sortOf {s0 : State} {l : Launch} {D : va_G} {cy : Nat → ClassId} (G : Gl s0 l D cy) (S : HS) (a : Int32) : Ctr s0 l D cy yX6_sortOf cX6_sortOf 1 (some .int) rm_m_X6_sortOf S [.int a] (PXb S 3) := by
  refine pro "CavershamShift$Report" G rfl rfl (Nat.le_of_ble_eq_true rfl) (fun p e s m below meth c ls X w hnm hl => ?_)
  have hx := X.1
  have hb := X.2.1
  have hown := X.2.2.2.1
  have hts := X.2.2.2.2.1
  have hl : lv_has ls 1 [(0, .int a)] := hl
  refine lv_iload_n hx hb dX6_sortOf_0 rfl (lv_at hl 0 rfl) ?_
  refine lv_bipush (v := 8) hx hb dX6_sortOf_1 (by decide) ?_
  refine lv_icmp_lt (tgt := 8) hx hb dX6_sortOf_3 (by decide) (fun hc1 => ?_) (fun hc1 => ?_)
  · refine lv_iload_n hx hb dX6_sortOf_8 rfl (lv_at hl 0 rfl) ?_
    refine lv_iconst (v := 5) hx hb dX6_sortOf_9 (by decide) ?_
    refine lv_icmp_lt (tgt := 15) hx hb dX6_sortOf_10 (by decide) (fun hc2 => ?_) (fun hc2 => ?_)
    · refine lv_iload_n hx hb dX6_sortOf_15 rfl (lv_at hl 0 rfl) ?_
      refine lv_iconst (v := 3) hx hb dX6_sortOf_16 (by decide) ?_
      refine lv_icmp_lt (tgt := 24) hx hb dX6_sortOf_17 (by decide) (fun hc3 => ?_) (fun hc3 => ?_)
      · refine lv_iconst (v := 0) hx hb dX6_sortOf_24 (by decide) ?_
        exact rI X w rfl dX6_sortOf_25 (by decide) (by decide) (by first | exact px_b (g := 3) (by decide) | exact px_b (g := 2) (by decide) | exact px_b (g := 1) (by decide) | exact px_b0)
      · refine lv_iconst (v := 1) hx hb dX6_sortOf_20 (by decide) ?_
        refine lv_goto (tgt := 25) hx hb dX6_sortOf_21 (by decide) ?_
        exact rI X w rfl dX6_sortOf_25 (by decide) (by decide) (by first | exact px_b (g := 3) (by decide) | exact px_b (g := 2) (by decide) | exact px_b (g := 1) (by decide) | exact px_b0)
    · refine lv_iconst (v := 2) hx hb dX6_sortOf_13 (by decide) ?_
      exact rI X w rfl dX6_sortOf_14 (by decide) (by decide) (by first | exact px_b (g := 3) (by decide) | exact px_b (g := 2) (by decide) | exact px_b (g := 1) (by decide) | exact px_b0)
  · refine lv_iconst (v := 3) hx hb dX6_sortOf_6 (by decide) ?_
    exact rI X w rfl dX6_sortOf_7 (by decide) (by decide) (by first | exact px_b (g := 3) (by decide) | exact px_b (g := 2) (by decide) | exact px_b (g := 1) (by decide) | exact px_b0)

theorem dX6_lengthOf_0 : decode cX6_lengthOf 0 = .ok (.iload_n 0, 1) := by decide +kernel
theorem dX6_lengthOf_1 : decode cX6_lengthOf 1 = .ok (.tableswitch 40 1 3 #[36, 34, 27], 27) := by decide +kernel
theorem dX6_lengthOf_28 : decode cX6_lengthOf 28 = .ok (.bipush 20, 2) := by decide +kernel
theorem dX6_lengthOf_30 : decode cX6_lengthOf 30 = .ok (.iload_n 1, 1) := by decide +kernel
theorem dX6_lengthOf_31 : decode cX6_lengthOf 31 = .ok (.invokestatic 68, 3) := by decide +kernel
theorem dX6_lengthOf_34 : decode cX6_lengthOf 34 = .ok (.ireturn, 1) := by decide +kernel
theorem dX6_lengthOf_35 : decode cX6_lengthOf 35 = .ok (.iload_n 1, 1) := by decide +kernel
theorem dX6_lengthOf_36 : decode cX6_lengthOf 36 = .ok (.ireturn, 1) := by decide +kernel
theorem dX6_lengthOf_37 : decode cX6_lengthOf 37 = .ok (.iload_n 1, 1) := by decide +kernel
theorem dX6_lengthOf_38 : decode cX6_lengthOf 38 = .ok (.iconst 4, 1) := by decide +kernel
theorem dX6_lengthOf_39 : decode cX6_lengthOf 39 = .ok (.idiv, 1) := by decide +kernel
theorem dX6_lengthOf_40 : decode cX6_lengthOf 40 = .ok (.ireturn, 1) := by decide +kernel
theorem dX6_lengthOf_41 : decode cX6_lengthOf 41 = .ok (.iconst 0, 1) := by decide +kernel
theorem dX6_lengthOf_42 : decode cX6_lengthOf 42 = .ok (.ireturn, 1) := by decide +kernel
abbrev rm_m_X6_lengthOf : Room := { frames := 1, cells := 0, slots := 0, locals := 21 }
set_option maxHeartbeats 4000000 in
set_option maxRecDepth 100000 in
theorem m_X6_lengthOf {s0 : State} {l : Launch} {D : va_G} {cy : Nat → ClassId} (G : Gl s0 l D cy) (S : HS) (a : Int32) (g : Nat) (hg : g ≤ 300) : Ctr s0 l D cy yX6_lengthOf cX6_lengthOf 2 (some .int) rm_m_X6_lengthOf S [.int a, .int (nI g)] (PXb S 300) := by
  refine pro "CavershamShift$Report" G rfl rfl (Nat.le_of_ble_eq_true rfl) (fun p e s m below meth c ls X w hnm hl => ?_)
  have hx := X.1
  have hb := X.2.1
  have hown := X.2.2.2.1
  have hts := X.2.2.2.2.1
  have hl : lv_has ls 2 [(0, .int a), (1, .int (nI g))] := hl
  refine lv_iload_n hx hb dX6_lengthOf_0 rfl (lv_at hl 0 rfl) ?_
  by_cases hw1_1 : (a : Int32).toInt = 1
  · refine lv_tableIn (off := 36) (tgt := 37) hx hb dX6_lengthOf_1 (by omega) (by omega) (by rw [hw1_1]; rfl) (by decide) ?_
    refine lv_iload_n hx hb dX6_lengthOf_37 rfl (lv_at hl 1 rfl) ?_
    refine lv_iconst (v := 4) hx hb dX6_lengthOf_38 (by decide) ?_
    refine lv_idiv hx hb dX6_lengthOf_39 (by decide) ?_
    exact rI X w rfl dX6_lengthOf_40 (by decide) (by decide) (by first | exact px_min hg | exact px_div4 hg | exact px_b hg | exact px_b0)
  by_cases hw1_2 : (a : Int32).toInt = 2
  · refine lv_tableIn (off := 34) (tgt := 35) hx hb dX6_lengthOf_1 (by omega) (by omega) (by rw [hw1_2]; rfl) (by decide) ?_
    refine lv_iload_n hx hb dX6_lengthOf_35 rfl (lv_at hl 1 rfl) ?_
    exact rI X w rfl dX6_lengthOf_36 (by decide) (by decide) (by first | exact px_min hg | exact px_div4 hg | exact px_b hg | exact px_b0)
  by_cases hw1_3 : (a : Int32).toInt = 3
  · refine lv_tableIn (off := 27) (tgt := 28) hx hb dX6_lengthOf_1 (by omega) (by omega) (by rw [hw1_3]; rfl) (by decide) ?_
    refine lv_bipush (v := 20) hx hb dX6_lengthOf_28 (by decide) ?_
    refine lv_iload_n hx hb dX6_lengthOf_30 rfl (lv_at hl 1 rfl) ?_
    refine va_mmin hx hb (X.2.2.1.trans hl.1.symm) hown (hts _ wM_X6_68) (hts _ wSt_J9_min_7cf53) (hts _ wI_J9) (hts _ wY_J9_min_7cf53) (by decide) (Nat.le_of_ble_eq_true rfl) (Nat.le_of_ble_eq_true rfl) (Nat.le_of_ble_eq_true rfl) dX6_lengthOf_31 ?_
    exact rI X w rfl dX6_lengthOf_34 (by decide) (by decide) (by first | exact px_min hg | exact px_div4 hg | exact px_b hg | exact px_b0)
  refine lv_tableOut (tgt := 41) hx hb dX6_lengthOf_1 (by omega) (by decide) ?_
  refine lv_iconst (v := 0) hx hb dX6_lengthOf_41 (by decide) ?_
  exact rI X w rfl dX6_lengthOf_42 (by decide) (by decide) (by first | exact px_min hg | exact px_div4 hg | exact px_b hg | exact px_b0)

theorem dX6_init_0 : decode cX6_init 0 = .ok (.aload_n 0, 1) := by decide +kernel
theorem dX6_init_1 : decode cX6_init 1 = .ok (.invokespecial 3, 3) := by decide +kernel
theorem dX6_init_4 : decode cX6_init 4 = .ok (.aload_n 0, 1) := by decide +kernel
theorem dX6_init_5 : decode cX6_init 5 = .ok (.iconst (-1), 1) := by decide +kernel
theorem dX6_init_6 : decode cX6_init 6 = .ok (.putfield 9, 3) := by decide +kernel
theorem dX6_init_9 : decode cX6_init 9 = .ok (.aload_n 0, 1) := by decide +kernel
theorem dX6_init_10 : decode cX6_init 10 = .ok (.iconst (-1), 1) := by decide +kernel
theorem dX6_init_11 : decode cX6_init 11 = .ok (.putfield 15, 3) := by decide +kernel
theorem dX6_init_14 : decode cX6_init 14 = .ok (.aload_n 0, 1) := by decide +kernel
theorem dX6_init_15 : decode cX6_init 15 = .ok (.iconst 0, 1) := by decide +kernel
theorem dX6_init_16 : decode cX6_init 16 = .ok (.putfield 18, 3) := by decide +kernel
theorem dX6_init_19 : decode cX6_init 19 = .ok (.aload_n 0, 1) := by decide +kernel
theorem dX6_init_20 : decode cX6_init 20 = .ok (.iload_n 2, 1) := by decide +kernel
theorem dX6_init_21 : decode cX6_init 21 = .ok (.putfield 21, 3) := by decide +kernel
theorem dX6_init_24 : decode cX6_init 24 = .ok (.aload_n 0, 1) := by decide +kernel
theorem dX6_init_25 : decode cX6_init 25 = .ok (.iload_n 3, 1) := by decide +kernel
theorem dX6_init_26 : decode cX6_init 26 = .ok (.putfield 24, 3) := by decide +kernel
theorem dX6_init_29 : decode cX6_init 29 = .ok (.aload_n 0, 1) := by decide +kernel
theorem dX6_init_30 : decode cX6_init 30 = .ok (.iload 4, 2) := by decide +kernel
theorem dX6_init_32 : decode cX6_init 32 = .ok (.putfield 27, 3) := by decide +kernel
theorem dX6_init_35 : decode cX6_init 35 = .ok (.aload_n 0, 1) := by decide +kernel
theorem dX6_init_36 : decode cX6_init 36 = .ok (.aload_n 1, 1) := by decide +kernel
theorem dX6_init_37 : decode cX6_init 37 = .ok (.getfield 30, 3) := by decide +kernel
theorem dX6_init_40 : decode cX6_init 40 = .ok (.invokestatic 35, 3) := by decide +kernel
theorem dX6_init_43 : decode cX6_init 43 = .ok (.putfield 39, 3) := by decide +kernel
theorem dX6_init_46 : decode cX6_init 46 = .ok (.aload_n 0, 1) := by decide +kernel
theorem dX6_init_47 : decode cX6_init 47 = .ok (.aload_n 1, 1) := by decide +kernel
theorem dX6_init_48 : decode cX6_init 48 = .ok (.getfield 42, 3) := by decide +kernel
theorem dX6_init_51 : decode cX6_init 51 = .ok (.iload 4, 2) := by decide +kernel
theorem dX6_init_53 : decode cX6_init 53 = .ok (.imul, 1) := by decide +kernel
theorem dX6_init_54 : decode cX6_init 54 = .ok (.bipush 18, 2) := by decide +kernel
theorem dX6_init_56 : decode cX6_init 56 = .ok (.idiv, 1) := by decide +kernel
theorem dX6_init_57 : decode cX6_init 57 = .ok (.putfield 45, 3) := by decide +kernel
theorem dX6_init_60 : decode cX6_init 60 = .ok (.aload_n 0, 1) := by decide +kernel
theorem dX6_init_61 : decode cX6_init 61 = .ok (.aload_n 0, 1) := by decide +kernel
theorem dX6_init_62 : decode cX6_init 62 = .ok (.getfield 39, 3) := by decide +kernel
theorem dX6_init_65 : decode cX6_init 65 = .ok (.aload_n 0, 1) := by decide +kernel
theorem dX6_init_66 : decode cX6_init 66 = .ok (.getfield 45, 3) := by decide +kernel
theorem dX6_init_69 : decode cX6_init 69 = .ok (.invokestatic 48, 3) := by decide +kernel
theorem dX6_init_72 : decode cX6_init 72 = .ok (.putfield 52, 3) := by decide +kernel
theorem dX6_init_75 : decode cX6_init 75 = .ok (.aload_n 0, 1) := by decide +kernel
theorem dX6_init_76 : decode cX6_init 76 = .ok (.aload_n 1, 1) := by decide +kernel
theorem dX6_init_77 : decode cX6_init 77 = .ok (.getfield 55, 3) := by decide +kernel
theorem dX6_init_80 : decode cX6_init 80 = .ok (.iconst 1, 1) := by decide +kernel
theorem dX6_init_81 : decode cX6_init 81 = .ok (.iload 4, 2) := by decide +kernel
theorem dX6_init_83 : decode cX6_init 83 = .ok (.ishl, 1) := by decide +kernel
theorem dX6_init_84 : decode cX6_init 84 = .ok (.iconst 1, 1) := by decide +kernel
theorem dX6_init_85 : decode cX6_init 85 = .ok (.isub, 1) := by decide +kernel
theorem dX6_init_86 : decode cX6_init 86 = .ok (.iand, 1) := by decide +kernel
theorem dX6_init_87 : decode cX6_init 87 = .ok (.putfield 58, 3) := by decide +kernel
theorem dX6_init_90 : decode cX6_init 90 = .ok (.aload_n 0, 1) := by decide +kernel
theorem dX6_init_91 : decode cX6_init 91 = .ok (.iload 4, 2) := by decide +kernel
theorem dX6_init_93 : decode cX6_init 93 = .ok (.bipush 14, 2) := by decide +kernel
theorem dX6_init_95 : decode cX6_init 95 = .ok (.if_icmp .gt 22, 3) := by decide +kernel
theorem dX6_init_98 : decode cX6_init 98 = .ok (.aload_n 1, 1) := by decide +kernel
theorem dX6_init_99 : decode cX6_init 99 = .ok (.getfield 55, 3) := by decide +kernel
theorem dX6_init_102 : decode cX6_init 102 = .ok (.iload 4, 2) := by decide +kernel
theorem dX6_init_104 : decode cX6_init 104 = .ok (.invokestatic 61, 3) := by decide +kernel
theorem dX6_init_107 : decode cX6_init 107 = .ok (.ifCond .eq 10, 3) := by decide +kernel
theorem dX6_init_110 : decode cX6_init 110 = .ok (.iload 4, 2) := by decide +kernel
theorem dX6_init_112 : decode cX6_init 112 = .ok (.iconst 1, 1) := by decide +kernel
theorem dX6_init_113 : decode cX6_init 113 = .ok (.iadd, 1) := by decide +kernel
theorem dX6_init_114 : decode cX6_init 114 = .ok (.goto 4, 3) := by decide +kernel
theorem dX6_init_117 : decode cX6_init 117 = .ok (.iconst (-1), 1) := by decide +kernel
theorem dX6_init_118 : decode cX6_init 118 = .ok (.putfield 65, 3) := by decide +kernel
theorem dX6_init_121 : decode cX6_init 121 = .ok (.return_, 1) := by decide +kernel
abbrev rm_m_X6_init : Room := { frames := 2, cells := 0, slots := 0, locals := 42 }
set_option maxHeartbeats 4000000 in
set_option maxRecDepth 100000 in
theorem m_X6_init {s0 : State} {l : Launch} {D : va_G} {cy : Nat → ClassId} (G : Gl s0 l D cy) (S : HS) (i j ql w0 : Nat) (a b : Int32) (hV : vV S 6 i) (hV9 : vV S 9 j) (hq : ql ≤ 18) (hw0 : w0 ≤ 300) (hw8 : mI S 148 j = nI w0) : Ctr s0 l D cy yX6_init cX6_init 5 none rm_m_X6_init S [.ref (gG S 6 i), .ref (gG S 9 j), .int a, .int b, .int (nI ql)] (fun v S' => none = v ∧ ∃ (x1 x2 x3 x4 : Int32) (xL : Nat), xL ≤ 300 ∧ S' = rep6 S i a b (nI ql) x1 x2 (nI xL) x3 x4) := by
  refine pro "CavershamShift$Report" G rfl rfl (Nat.le_of_ble_eq_true rfl) (fun p e s m below meth c ls X w hnm hl => ?_)
  have hx := X.1
  have hb := X.2.1
  have hown := X.2.2.2.1
  have hts := X.2.2.2.2.1
  have hin2 : meth.name = "<init>" := hnm
  have hl : lv_has ls 5 [(0, .ref (gG S 6 i)), (1, .ref (gG S 9 j)), (2, .int a), (3, .int b), (4, .int (nI ql))] := hl
  have hwq : w0 * ql ≤ 300 * 18 := Nat.mul_le_mul hw0 hq
  refine lv_aload_n hx hb dX6_init_0 rfl (lv_at hl 0 rfl) ?_
  refine W.objInit hx hb hown (hts _ wM_X6_3) (hts _ wIn_O_init) (hts _ wY_O_init) rfl (X.2.2.1.symm ▸ hl.1) rfl dX6_init_1 (Nat.le_of_ble_eq_true rfl) (Nat.le_of_ble_eq_true rfl) ?_
  refine W.eq (g2 := F0 m 4 ls []) rfl ?_
  refine lv_aload_n hx hb dX6_init_4 rfl (lv_at hl 0 rfl) ?_
  refine lv_iconst (v := (-1)) hx hb dX6_init_5 (by decide) ?_
  refine p_6_9 (S := S) (x := (-1)) X w hV wF_X6_9 dX6_init_6 (fun H locs w => ?_)
  refine lv_aload_n hx hb dX6_init_9 rfl (lv_at hl 0 rfl) ?_
  refine lv_iconst (v := (-1)) hx hb dX6_init_10 (by decide) ?_
  refine p_6_10 (S := (sI S 105 i (-1))) (x := (-1)) X w hV wF_X6_15 dX6_init_11 (fun H locs w => ?_)
  refine lv_aload_n hx hb dX6_init_14 rfl (lv_at hl 0 rfl) ?_
  refine lv_iconst (v := 0) hx hb dX6_init_15 (by decide) ?_
  refine p_6_11 (S := (sI (sI S 105 i (-1)) 106 i (-1))) (x := 0) X w hV wF_X6_18 dX6_init_16 (fun H locs w => ?_)
  refine lv_aload_n hx hb dX6_init_19 rfl (lv_at hl 0 rfl) ?_
  refine lv_iload_n hx hb dX6_init_20 rfl (lv_at hl 2 rfl) ?_
  refine p_6_5 (S := (sI (sI (sI S 105 i (-1)) 106 i (-1)) 107 i 0)) (x := a) X w hin2 hV wF_X6_21 dX6_init_21 (fun H locs w => ?_)
  refine lv_aload_n hx hb dX6_init_24 rfl (lv_at hl 0 rfl) ?_
  refine lv_iload_n hx hb dX6_init_25 rfl (lv_at hl 3 rfl) ?_
  refine p_6_6 (S := (sI (sI (sI (sI S 105 i (-1)) 106 i (-1)) 107 i 0) 101 i a)) (x := b) X w hin2 hV wF_X6_24 dX6_init_26 (fun H locs w => ?_)
  refine lv_aload_n hx hb dX6_init_29 rfl (lv_at hl 0 rfl) ?_
  refine lv_iload hx hb dX6_init_30 (lv_at hl 4 rfl) ?_
  refine p_6_7 (S := (sI (sI (sI (sI (sI S 105 i (-1)) 106 i (-1)) 107 i 0) 101 i a) 102 i b)) (x := (nI ql)) X w hin2 hV wF_X6_27 dX6_init_32 (fun H locs w => ?_)
  refine lv_aload_n hx hb dX6_init_35 rfl (lv_at hl 0 rfl) ?_
  refine lv_aload_n hx hb dX6_init_36 rfl (lv_at hl 1 rfl) ?_
  refine g_9_5 (S := (sI (sI (sI (sI (sI (sI S 105 i (-1)) 106 i (-1)) 107 i 0) 101 i a) 102 i b) 103 i (nI ql))) (x := (mI (sI (sI (sI (sI (sI (sI S 105 i (-1)) 106 i (-1)) 107 i 0) 101 i a) 102 i b) 103 i (nI ql)) 149 j)) X w hV9 wF_X6_30 (rfl) dX6_init_37 ?_
  refine cS (S := (sI (sI (sI (sI (sI (sI S 105 i (-1)) 106 i (-1)) 107 i 0) 101 i a) 102 i b) 103 i (nI ql))) (nA := 1) (As := [.int (mI (sI (sI (sI (sI (sI (sI S 105 i (-1)) 106 i (-1)) 107 i 0) 101 i a) 102 i b) 103 i (nI ql)) 149 j)]) (rest := [.ref (gG S 6 i)]) X w hl (m_X6_sortOf G (sI (sI (sI (sI (sI (sI S 105 i (-1)) 106 i (-1)) 107 i 0) 101 i a) 102 i b) 103 i (nI ql)) (mI (sI (sI (sI (sI (sI (sI S 105 i (-1)) 106 i (-1)) 107 i 0) 101 i a) 102 i b) 103 i (nI ql)) 149 j)) wY_X6_sortOf wM_X6_35 wSt_X6_sortOf wI_X6 (by decide +kernel) rfl rfl dX6_init_40 ⟨by decide, by decide⟩ (Nat.le_of_ble_eq_true rfl) (⟨Nat.le_of_ble_eq_true rfl, Nat.le_of_ble_eq_true rfl⟩) (fun v2 S1 H locs hp w => ?_)
  obtain ⟨⟨x1, hbx1, rfl⟩, rfl⟩ := hp
  refine p_6_0 (S := (sI (sI (sI (sI (sI (sI S 105 i (-1)) 106 i (-1)) 107 i 0) 101 i a) 102 i b) 103 i (nI ql))) (x := (nI x1)) X w hin2 hV wF_X6_39 dX6_init_43 (fun H locs w => ?_)
  refine lv_aload_n hx hb dX6_init_46 rfl (lv_at hl 0 rfl) ?_
  refine lv_aload_n hx hb dX6_init_47 rfl (lv_at hl 1 rfl) ?_
  refine g_9_4 (S := (sI (sI (sI (sI (sI (sI (sI S 105 i (-1)) 106 i (-1)) 107 i 0) 101 i a) 102 i b) 103 i (nI ql)) 96 i (nI x1))) (x := (nI w0)) X w hV9 wF_X6_42 (hw8) dX6_init_48 ?_
  refine lv_iload hx hb dX6_init_51 (lv_at hl 4 rfl) ?_
  refine lv_imul hx hb dX6_init_53 ?_
  refine lv_topi (fun z3 ez3 => ?_)
  obtain rfl : z3 = nI (w0 * ql) := ez3.trans (by rw [pk_mul])
  refine lv_bipush (v := 18) hx hb dX6_init_54 (by decide) ?_
  refine lv_idiv hx hb dX6_init_56 (by decide) ?_
  refine lv_topi (fun z4 ez4 => ?_)
  obtain rfl : z4 = nI (w0 * ql / 18) := ez4.trans (pk_div (d := 18) (by omega) (by decide) (by decide))
  refine p_6_2 (S := (sI (sI (sI (sI (sI (sI (sI S 105 i (-1)) 106 i (-1)) 107 i 0) 101 i a) 102 i b) 103 i (nI ql)) 96 i (nI x1))) (x := (nI (w0 * ql / 18))) X w hin2 hV wF_X6_45 dX6_init_57 (fun H locs w => ?_)
  refine lv_aload_n hx hb dX6_init_60 rfl (lv_at hl 0 rfl) ?_
  refine lv_aload_n hx hb dX6_init_61 rfl (lv_at hl 0 rfl) ?_
  refine g_6_0 (S := (sI (sI (sI (sI (sI (sI (sI (sI S 105 i (-1)) 106 i (-1)) 107 i 0) 101 i a) 102 i b) 103 i (nI ql)) 96 i (nI x1)) 98 i (nI (w0 * ql / 18)))) (x := (mI (sI (sI (sI (sI (sI (sI (sI (sI S 105 i (-1)) 106 i (-1)) 107 i 0) 101 i a) 102 i b) 103 i (nI ql)) 96 i (nI x1)) 98 i (nI (w0 * ql / 18))) 96 i)) X w hV wF_X6_39 (rfl) dX6_init_62 ?_
  refine lv_aload_n hx hb dX6_init_65 rfl (lv_at hl 0 rfl) ?_
  refine g_6_2 (S := (sI (sI (sI (sI (sI (sI (sI (sI S 105 i (-1)) 106 i (-1)) 107 i 0) 101 i a) 102 i b) 103 i (nI ql)) 96 i (nI x1)) 98 i (nI (w0 * ql / 18)))) (x := (nI (w0 * ql / 18))) X w hV wF_X6_45 (up2_s _ _ _ _) dX6_init_66 ?_
  refine cS (S := (sI (sI (sI (sI (sI (sI (sI (sI S 105 i (-1)) 106 i (-1)) 107 i 0) 101 i a) 102 i b) 103 i (nI ql)) 96 i (nI x1)) 98 i (nI (w0 * ql / 18)))) (nA := 2) (As := [.int (mI (sI (sI (sI (sI (sI (sI (sI (sI S 105 i (-1)) 106 i (-1)) 107 i 0) 101 i a) 102 i b) 103 i (nI ql)) 96 i (nI x1)) 98 i (nI (w0 * ql / 18))) 96 i), .int (nI (w0 * ql / 18))]) (rest := [.ref (gG S 6 i)]) X w hl (m_X6_lengthOf G (sI (sI (sI (sI (sI (sI (sI (sI S 105 i (-1)) 106 i (-1)) 107 i 0) 101 i a) 102 i b) 103 i (nI ql)) 96 i (nI x1)) 98 i (nI (w0 * ql / 18))) (mI (sI (sI (sI (sI (sI (sI (sI (sI S 105 i (-1)) 106 i (-1)) 107 i 0) 101 i a) 102 i b) 103 i (nI ql)) 96 i (nI x1)) 98 i (nI (w0 * ql / 18))) 96 i) (w0 * ql / 18) (by omega)) wY_X6_lengthOf wM_X6_48 wSt_X6_lengthOf wI_X6 (by decide +kernel) rfl rfl dX6_init_69 ⟨by decide, by decide⟩ (Nat.le_of_ble_eq_true rfl) (⟨Nat.le_of_ble_eq_true rfl, Nat.le_of_ble_eq_true rfl⟩) (fun v6 S1 H locs hp w => ?_)
  obtain ⟨⟨x5, hbx5, rfl⟩, rfl⟩ := hp
  refine p_6_1 (S := (sI (sI (sI (sI (sI (sI (sI (sI S 105 i (-1)) 106 i (-1)) 107 i 0) 101 i a) 102 i b) 103 i (nI ql)) 96 i (nI x1)) 98 i (nI (w0 * ql / 18)))) (x := (nI x5)) X w hin2 hV wF_X6_52 dX6_init_72 (fun H locs w => ?_)
  refine lv_aload_n hx hb dX6_init_75 rfl (lv_at hl 0 rfl) ?_
  refine lv_aload_n hx hb dX6_init_76 rfl (lv_at hl 1 rfl) ?_
  refine g_9_6 (S := (sI (sI (sI (sI (sI (sI (sI (sI (sI S 105 i (-1)) 106 i (-1)) 107 i 0) 101 i a) 102 i b) 103 i (nI ql)) 96 i (nI x1)) 98 i (nI (w0 * ql / 18))) 97 i (nI x5))) (x := (mI (sI (sI (sI (sI (sI (sI (sI (sI (sI S 105 i (-1)) 106 i (-1)) 107 i 0) 101 i a) 102 i b) 103 i (nI ql)) 96 i (nI x1)) 98 i (nI (w0 * ql / 18))) 97 i (nI x5)) 150 j)) X w hV9 wF_X6_55 (rfl) dX6_init_77 ?_
  refine lv_iconst (v := 1) hx hb dX6_init_80 (by decide) ?_
  refine lv_iload hx hb dX6_init_81 (lv_at hl 4 rfl) ?_
  refine lv_ishl hx hb dX6_init_83 ?_
  refine lv_iconst (v := 1) hx hb dX6_init_84 (by decide) ?_
  refine lv_isub hx hb dX6_init_85 ?_
  refine lv_iand hx hb dX6_init_86 ?_
  refine p_6_3 (S := (sI (sI (sI (sI (sI (sI (sI (sI (sI S 105 i (-1)) 106 i (-1)) 107 i 0) 101 i a) 102 i b) 103 i (nI ql)) 96 i (nI x1)) 98 i (nI (w0 * ql / 18))) 97 i (nI x5))) (x := ((mI (sI (sI (sI (sI (sI (sI (sI (sI (sI S 105 i (-1)) 106 i (-1)) 107 i 0) 101 i a) 102 i b) 103 i (nI ql)) 96 i (nI x1)) 98 i (nI (w0 * ql / 18))) 97 i (nI x5)) 150 j) &&& ((1 <<< ((nI ql) &&& 31)) - 1))) X w hin2 hV wF_X6_58 dX6_init_87 (fun H locs w => ?_)
  refine lv_aload_n hx hb dX6_init_90 rfl (lv_at hl 0 rfl) ?_
  refine lv_iload hx hb dX6_init_91 (lv_at hl 4 rfl) ?_
  refine lv_bipush (v := 14) hx hb dX6_init_93 (by decide) ?_
  refine lv_icmp_gt (tgt := 117) hx hb dX6_init_95 (by decide) (fun hc7 => ?_) (fun hc7 => ?_)
  · refine lv_iconst (v := (-1)) hx hb dX6_init_117 (by decide) ?_
    refine p_6_4 (S := (sI (sI (sI (sI (sI (sI (sI (sI (sI (sI S 105 i (-1)) 106 i (-1)) 107 i 0) 101 i a) 102 i b) 103 i (nI ql)) 96 i (nI x1)) 98 i (nI (w0 * ql / 18))) 97 i (nI x5)) 99 i ((mI (sI (sI (sI (sI (sI (sI (sI (sI (sI S 105 i (-1)) 106 i (-1)) 107 i 0) 101 i a) 102 i b) 103 i (nI ql)) 96 i (nI x1)) 98 i (nI (w0 * ql / 18))) 97 i (nI x5)) 150 j) &&& ((1 <<< ((nI ql) &&& 31)) - 1)))) (x := (-1)) X w hin2 hV wF_X6_65 dX6_init_118 (fun H locs w => ?_)
    exact rV X w rfl dX6_init_121 (by decide) (by decide) (⟨rfl, _, _, _, _, _, by assumption, rfl⟩)
  · refine lv_aload_n hx hb dX6_init_98 rfl (lv_at hl 1 rfl) ?_
    refine g_9_6 (S := (sI (sI (sI (sI (sI (sI (sI (sI (sI (sI S 105 i (-1)) 106 i (-1)) 107 i 0) 101 i a) 102 i b) 103 i (nI ql)) 96 i (nI x1)) 98 i (nI (w0 * ql / 18))) 97 i (nI x5)) 99 i ((mI (sI (sI (sI (sI (sI (sI (sI (sI (sI S 105 i (-1)) 106 i (-1)) 107 i 0) 101 i a) 102 i b) 103 i (nI ql)) 96 i (nI x1)) 98 i (nI (w0 * ql / 18))) 97 i (nI x5)) 150 j) &&& ((1 <<< ((nI ql) &&& 31)) - 1)))) (x := (mI (sI (sI (sI (sI (sI (sI (sI (sI (sI (sI S 105 i (-1)) 106 i (-1)) 107 i 0) 101 i a) 102 i b) 103 i (nI ql)) 96 i (nI x1)) 98 i (nI (w0 * ql / 18))) 97 i (nI x5)) 99 i ((mI (sI (sI (sI (sI (sI (sI (sI (sI (sI S 105 i (-1)) 106 i (-1)) 107 i 0) 101 i a) 102 i b) 103 i (nI ql)) 96 i (nI x1)) 98 i (nI (w0 * ql / 18))) 97 i (nI x5)) 150 j) &&& ((1 <<< ((nI ql) &&& 31)) - 1))) 150 j)) X w hV9 wF_X6_55 (rfl) dX6_init_99 ?_
    refine lv_iload hx hb dX6_init_102 (lv_at hl 4 rfl) ?_
    refine cSN (S := (sI (sI (sI (sI (sI (sI (sI (sI (sI (sI S 105 i (-1)) 106 i (-1)) 107 i 0) 101 i a) 102 i b) 103 i (nI ql)) 96 i (nI x1)) 98 i (nI (w0 * ql / 18))) 97 i (nI x5)) 99 i ((mI (sI (sI (sI (sI (sI (sI (sI (sI (sI S 105 i (-1)) 106 i (-1)) 107 i 0) 101 i a) 102 i b) 103 i (nI ql)) 96 i (nI x1)) 98 i (nI (w0 * ql / 18))) 97 i (nI x5)) 150 j) &&& ((1 <<< ((nI ql) &&& 31)) - 1)))) (nA := 2) (As := [.int (mI (sI (sI (sI (sI (sI (sI (sI (sI (sI (sI S 105 i (-1)) 106 i (-1)) 107 i 0) 101 i a) 102 i b) 103 i (nI ql)) 96 i (nI x1)) 98 i (nI (w0 * ql / 18))) 97 i (nI x5)) 99 i ((mI (sI (sI (sI (sI (sI (sI (sI (sI (sI S 105 i (-1)) 106 i (-1)) 107 i 0) 101 i a) 102 i b) 103 i (nI ql)) 96 i (nI x1)) 98 i (nI (w0 * ql / 18))) 97 i (nI x5)) 150 j) &&& ((1 <<< ((nI ql) &&& 31)) - 1))) 150 j), .int (nI ql)]) (rest := [.ref (gG S 6 i)]) X w hl (m_X10_isIn G (sI (sI (sI (sI (sI (sI (sI (sI (sI (sI S 105 i (-1)) 106 i (-1)) 107 i 0) 101 i a) 102 i b) 103 i (nI ql)) 96 i (nI x1)) 98 i (nI (w0 * ql / 18))) 97 i (nI x5)) 99 i ((mI (sI (sI (sI (sI (sI (sI (sI (sI (sI S 105 i (-1)) 106 i (-1)) 107 i 0) 101 i a) 102 i b) 103 i (nI ql)) 96 i (nI x1)) 98 i (nI (w0 * ql / 18))) 97 i (nI x5)) 150 j) &&& ((1 <<< ((nI ql) &&& 31)) - 1))) (mI (sI (sI (sI (sI (sI (sI (sI (sI (sI (sI S 105 i (-1)) 106 i (-1)) 107 i 0) 101 i a) 102 i b) 103 i (nI ql)) 96 i (nI x1)) 98 i (nI (w0 * ql / 18))) 97 i (nI x5)) 99 i ((mI (sI (sI (sI (sI (sI (sI (sI (sI (sI S 105 i (-1)) 106 i (-1)) 107 i 0) 101 i a) 102 i b) 103 i (nI ql)) 96 i (nI x1)) 98 i (nI (w0 * ql / 18))) 97 i (nI x5)) 150 j) &&& ((1 <<< ((nI ql) &&& 31)) - 1))) 150 j) (nI ql)) wY_X10_isIn wMN_X6_61 wSt_X10_isIn wI_X10 (by decide +kernel) rfl rfl dX6_init_104 ⟨by decide, by decide⟩ (Nat.le_of_ble_eq_true rfl) (⟨Nat.le_of_ble_eq_true rfl, Nat.le_of_ble_eq_true rfl⟩) (fun v8 S1 H locs hp w => ?_)
    obtain ⟨rfl, rfl⟩ := hp
    refine lv_if_eq (tgt := 117) hx hb dX6_init_107 (by decide) (fun hc9 => ?_) (fun hc9 => ?_)
    · refine lv_iconst (v := (-1)) hx hb dX6_init_117 (by decide) ?_
      refine p_6_4 (S := (sI (sI (sI (sI (sI (sI (sI (sI (sI (sI S 105 i (-1)) 106 i (-1)) 107 i 0) 101 i a) 102 i b) 103 i (nI ql)) 96 i (nI x1)) 98 i (nI (w0 * ql / 18))) 97 i (nI x5)) 99 i ((mI (sI (sI (sI (sI (sI (sI (sI (sI (sI S 105 i (-1)) 106 i (-1)) 107 i 0) 101 i a) 102 i b) 103 i (nI ql)) 96 i (nI x1)) 98 i (nI (w0 * ql / 18))) 97 i (nI x5)) 150 j) &&& ((1 <<< ((nI ql) &&& 31)) - 1)))) (x := (-1)) X w hin2 hV wF_X6_65 dX6_init_118 (fun H locs w => ?_)
      exact rV X w rfl dX6_init_121 (by decide) (by decide) (⟨rfl, _, _, _, _, _, by assumption, rfl⟩)
    · refine lv_iload hx hb dX6_init_110 (lv_at hl 4 rfl) ?_
      refine lv_iconst (v := 1) hx hb dX6_init_112 (by decide) ?_
      refine lv_iadd hx hb dX6_init_113 ?_
      refine lv_goto (tgt := 118) hx hb dX6_init_114 (by decide) ?_
      refine p_6_4 (S := (sI (sI (sI (sI (sI (sI (sI (sI (sI (sI S 105 i (-1)) 106 i (-1)) 107 i 0) 101 i a) 102 i b) 103 i (nI ql)) 96 i (nI x1)) 98 i (nI (w0 * ql / 18))) 97 i (nI x5)) 99 i ((mI (sI (sI (sI (sI (sI (sI (sI (sI (sI S 105 i (-1)) 106 i (-1)) 107 i 0) 101 i a) 102 i b) 103 i (nI ql)) 96 i (nI x1)) 98 i (nI (w0 * ql / 18))) 97 i (nI x5)) 150 j) &&& ((1 <<< ((nI ql) &&& 31)) - 1)))) (x := ((nI ql) + 1)) X w hin2 hV wF_X6_65 dX6_init_118 (fun H locs w => ?_)
      exact rV X w rfl dX6_init_121 (by decide) (by decide) (⟨rfl, _, _, _, _, _, by assumption, rfl⟩)

theorem dX4_file_0 : decode cX4_file 0 = .ok (.aload_n 2, 1) := by decide +kernel
theorem dX4_file_1 : decode cX4_file 1 = .ok (.getfield 51, 3) := by decide +kernel
theorem dX4_file_4 : decode cX4_file 4 = .ok (.iconst 2, 1) := by decide +kernel
theorem dX4_file_5 : decode cX4_file 5 = .ok (.if_icmp .eq 11, 3) := by decide +kernel
theorem dX4_file_8 : decode cX4_file 8 = .ok (.aload_n 2, 1) := by decide +kernel
theorem dX4_file_9 : decode cX4_file 9 = .ok (.getfield 51, 3) := by decide +kernel
theorem dX4_file_12 : decode cX4_file 12 = .ok (.iconst 1, 1) := by decide +kernel
theorem dX4_file_13 : decode cX4_file 13 = .ok (.if_icmp .ne 7, 3) := by decide +kernel
theorem dX4_file_16 : decode cX4_file 16 = .ok (.iconst 1, 1) := by decide +kernel
theorem dX4_file_17 : decode cX4_file 17 = .ok (.goto 4, 3) := by decide +kernel
theorem dX4_file_20 : decode cX4_file 20 = .ok (.iconst 0, 1) := by decide +kernel
theorem dX4_file_21 : decode cX4_file 21 = .ok (.istore_n 3, 1) := by decide +kernel
theorem dX4_file_22 : decode cX4_file 22 = .ok (.aload_n 2, 1) := by decide +kernel
theorem dX4_file_23 : decode cX4_file 23 = .ok (.getfield 51, 3) := by decide +kernel
theorem dX4_file_26 : decode cX4_file 26 = .ok (.ifCond .ne 11, 3) := by decide +kernel
theorem dX4_file_29 : decode cX4_file 29 = .ok (.aload_n 2, 1) := by decide +kernel
theorem dX4_file_30 : decode cX4_file 30 = .ok (.iconst 4, 1) := by decide +kernel
theorem dX4_file_31 : decode cX4_file 31 = .ok (.putfield 56, 3) := by decide +kernel
theorem dX4_file_34 : decode cX4_file 34 = .ok (.goto 37, 3) := by decide +kernel
theorem dX4_file_37 : decode cX4_file 37 = .ok (.iload_n 3, 1) := by decide +kernel
theorem dX4_file_38 : decode cX4_file 38 = .ok (.ifCond .eq 28, 3) := by decide +kernel
theorem dX4_file_41 : decode cX4_file 41 = .ok (.aload_n 0, 1) := by decide +kernel
theorem dX4_file_42 : decode cX4_file 42 = .ok (.getfield 59, 3) := by decide +kernel
theorem dX4_file_45 : decode cX4_file 45 = .ok (.aload_n 1, 1) := by decide +kernel
theorem dX4_file_46 : decode cX4_file 46 = .ok (.getfield 44, 3) := by decide +kernel
theorem dX4_file_49 : decode cX4_file 49 = .ok (.getfield 62, 3) := by decide +kernel
theorem dX4_file_52 : decode cX4_file 52 = .ok (.invokestatic 67, 3) := by decide +kernel
theorem dX4_file_55 : decode cX4_file 55 = .ok (.ifCond .eq 11, 3) := by decide +kernel
theorem dX4_file_58 : decode cX4_file 58 = .ok (.aload_n 2, 1) := by decide +kernel
theorem dX4_file_59 : decode cX4_file 59 = .ok (.iconst 3, 1) := by decide +kernel
theorem dX4_file_60 : decode cX4_file 60 = .ok (.putfield 56, 3) := by decide +kernel
theorem dX4_file_63 : decode cX4_file 63 = .ok (.goto 8, 3) := by decide +kernel
theorem dX4_file_66 : decode cX4_file 66 = .ok (.aload_n 2, 1) := by decide +kernel
theorem dX4_file_67 : decode cX4_file 67 = .ok (.iconst 0, 1) := by decide +kernel
theorem dX4_file_68 : decode cX4_file 68 = .ok (.putfield 56, 3) := by decide +kernel
theorem dX4_file_71 : decode cX4_file 71 = .ok (.aload_n 1, 1) := by decide +kernel
theorem dX4_file_72 : decode cX4_file 72 = .ok (.aload_n 2, 1) := by decide +kernel
theorem dX4_file_73 : decode cX4_file 73 = .ok (.putfield 71, 3) := by decide +kernel
theorem dX4_file_76 : decode cX4_file 76 = .ok (.return_, 1) := by decide +kernel
abbrev rm_m_X4_file : Room := { frames := 1, cells := 0, slots := 0, locals := 21 }
set_option maxHeartbeats 4000000 in
set_option maxRecDepth 100000 in
theorem m_X4_file {s0 : State} {l : Launch} {D : va_G} {cy : Nat → ClassId} (G : Gl s0 l D cy) (S : HS) (i k : Nat) (hV4 : vV S 4 0) (hV9 : vV S 9 i) (hV6 : vV S 6 i) (hV8 : vV S 8 k) (he : mR S 145 i = some (gG S 8 k)) : Ctr s0 l D cy yX4_file cX4_file 4 none rm_m_X4_file S [.ref (gG S 4 0), .ref (gG S 9 i), .ref (gG S 6 i)] (fun v S' => none = v ∧ ∃ x : Int32, ¬ x = 1 ∧ S' = sR (sI S 104 i x) 152 i (some (gG S 6 i))) := by
  refine pro "CavershamShift$Newsroom" G rfl rfl (Nat.le_of_ble_eq_true rfl) (fun p e s m below meth c ls X w hnm hl => ?_)
  have hx := X.1
  have hb := X.2.1
  have hown := X.2.2.2.1
  have hts := X.2.2.2.2.1
  have hl : lv_has ls 4 [(0, .ref (gG S 4 0)), (1, .ref (gG S 9 i)), (2, .ref (gG S 6 i))] := hl
  refine lv_aload_n hx hb dX4_file_0 rfl (lv_at hl 2 rfl) ?_
  refine g_6_0 (S := S) (x := (mI S 96 i)) X w hV6 wF_X4_51 (rfl) dX4_file_1 ?_
  refine lv_iconst (v := 2) hx hb dX4_file_4 (by decide) ?_
  refine lv_icmp_eq (tgt := 16) hx hb dX4_file_5 (by decide) (fun hc1 => ?_) (fun hc1 => ?_)
  · refine lv_iconst (v := 1) hx hb dX4_file_16 (by decide) ?_
    refine lv_goto (tgt := 21) hx hb dX4_file_17 (by decide) ?_
    refine lv_istore_n (lv' := [(3, .int 1), (0, .ref (gG S 4 0)), (1, .ref (gG S 9 i)), (2, .ref (gG S 6 i))]) hx hb dX4_file_21 rfl hl (by decide) rfl (fun ls hl => ?_)
    refine lv_aload_n hx hb dX4_file_22 rfl (lv_at hl 3 rfl) ?_
    refine g_6_0 (S := S) (x := (mI S 96 i)) X w hV6 wF_X4_51 (rfl) dX4_file_23 ?_
    refine lv_if_ne (tgt := 37) hx hb dX4_file_26 (by decide) (fun hc2 => ?_) (fun hc2 => ?_)
    · refine lv_iload_n hx hb dX4_file_37 rfl (lv_at hl 0 rfl) ?_
      refine lv_if_eq (tgt := 66) hx hb dX4_file_38 (by decide) (fun hc3 => ?_) (fun hc3 => ?_)
      · exact absurd hc3 (by decide)
      · refine lv_aload_n hx hb dX4_file_41 rfl (lv_at hl 1 rfl) ?_
        refine g_4_6 (S := S) (x := (mI S 70 0)) X w hV4 wF_X4_59 (rfl) dX4_file_42 ?_
        refine lv_aload_n hx hb dX4_file_45 rfl (lv_at hl 2 rfl) ?_
        refine g_9_1 (S := S) (x := (some (gG S 8 k))) X w hV9 wF_X4_44 (he) dX4_file_46 ?_
        refine g_8_4 (S := S) (x := (mI S 132 k)) X w hV8 wF_X4_62 (rfl) dX4_file_49 ?_
        refine cSN (S := S) (nA := 2) (As := [.int (mI S 70 0), .int (mI S 132 k)]) (rest := []) X w hl (m_X10_isIn G S (mI S 70 0) (mI S 132 k)) wY_X10_isIn wMN_X4_67 wSt_X10_isIn wI_X10 (by decide +kernel) rfl rfl dX4_file_52 ⟨by decide, by decide⟩ (Nat.le_of_ble_eq_true rfl) (⟨Nat.le_of_ble_eq_true rfl, Nat.le_of_ble_eq_true rfl⟩) (fun v4 S1 H locs hp w => ?_)
        obtain ⟨rfl, rfl⟩ := hp
        refine lv_if_eq (tgt := 66) hx hb dX4_file_55 (by decide) (fun hc5 => ?_) (fun hc5 => ?_)
        · refine lv_aload_n hx hb dX4_file_66 rfl (lv_at hl 3 rfl) ?_
          refine lv_iconst (v := 0) hx hb dX4_file_67 (by decide) ?_
          refine p_6_8 (S := S) (x := 0) X w hV6 wF_X4_56 dX4_file_68 (fun H locs w => ?_)
          refine lv_aload_n hx hb dX4_file_71 rfl (lv_at hl 2 rfl) ?_
          refine lv_aload_n hx hb dX4_file_72 rfl (lv_at hl 3 rfl) ?_
          refine p_9_8 (S := (sI S 104 i 0)) (x := (some (gG S 6 i))) X w hV9 wF_X4_71 dX4_file_73 (fun H locs w => ?_)
          exact rV X w rfl dX4_file_76 (by decide) (by decide) (⟨rfl, _, by decide, rfl⟩)
        · refine lv_aload_n hx hb dX4_file_58 rfl (lv_at hl 3 rfl) ?_
          refine lv_iconst (v := 3) hx hb dX4_file_59 (by decide) ?_
          refine p_6_8 (S := S) (x := 3) X w hV6 wF_X4_56 dX4_file_60 (fun H locs w => ?_)
          refine lv_goto (tgt := 71) hx hb dX4_file_63 (by decide) ?_
          refine lv_aload_n hx hb dX4_file_71 rfl (lv_at hl 2 rfl) ?_
          refine lv_aload_n hx hb dX4_file_72 rfl (lv_at hl 3 rfl) ?_
          refine p_9_8 (S := (sI S 104 i 3)) (x := (some (gG S 6 i))) X w hV9 wF_X4_71 dX4_file_73 (fun H locs w => ?_)
          exact rV X w rfl dX4_file_76 (by decide) (by decide) (⟨rfl, _, by decide, rfl⟩)
    · refine lv_aload_n hx hb dX4_file_29 rfl (lv_at hl 3 rfl) ?_
      refine lv_iconst (v := 4) hx hb dX4_file_30 (by decide) ?_
      refine p_6_8 (S := S) (x := 4) X w hV6 wF_X4_56 dX4_file_31 (fun H locs w => ?_)
      refine lv_goto (tgt := 71) hx hb dX4_file_34 (by decide) ?_
      refine lv_aload_n hx hb dX4_file_71 rfl (lv_at hl 2 rfl) ?_
      refine lv_aload_n hx hb dX4_file_72 rfl (lv_at hl 3 rfl) ?_
      refine p_9_8 (S := (sI S 104 i 4)) (x := (some (gG S 6 i))) X w hV9 wF_X4_71 dX4_file_73 (fun H locs w => ?_)
      exact rV X w rfl dX4_file_76 (by decide) (by decide) (⟨rfl, _, by decide, rfl⟩)
  · refine lv_aload_n hx hb dX4_file_8 rfl (lv_at hl 2 rfl) ?_
    refine g_6_0 (S := S) (x := (mI S 96 i)) X w hV6 wF_X4_51 (rfl) dX4_file_9 ?_
    refine lv_iconst (v := 1) hx hb dX4_file_12 (by decide) ?_
    refine lv_icmp_ne (tgt := 20) hx hb dX4_file_13 (by decide) (fun hc6 => ?_) (fun hc6 => ?_)
    · refine lv_iconst (v := 0) hx hb dX4_file_20 (by decide) ?_
      refine lv_istore_n (lv' := [(3, .int 0), (0, .ref (gG S 4 0)), (1, .ref (gG S 9 i)), (2, .ref (gG S 6 i))]) hx hb dX4_file_21 rfl hl (by decide) rfl (fun ls hl => ?_)
      refine lv_aload_n hx hb dX4_file_22 rfl (lv_at hl 3 rfl) ?_
      refine g_6_0 (S := S) (x := (mI S 96 i)) X w hV6 wF_X4_51 (rfl) dX4_file_23 ?_
      refine lv_if_ne (tgt := 37) hx hb dX4_file_26 (by decide) (fun hc7 => ?_) (fun hc7 => ?_)
      · refine lv_iload_n hx hb dX4_file_37 rfl (lv_at hl 0 rfl) ?_
        refine lv_if_eq (tgt := 66) hx hb dX4_file_38 (by decide) (fun hc8 => ?_) (fun hc8 => ?_)
        · refine lv_aload_n hx hb dX4_file_66 rfl (lv_at hl 3 rfl) ?_
          refine lv_iconst (v := 0) hx hb dX4_file_67 (by decide) ?_
          refine p_6_8 (S := S) (x := 0) X w hV6 wF_X4_56 dX4_file_68 (fun H locs w => ?_)
          refine lv_aload_n hx hb dX4_file_71 rfl (lv_at hl 2 rfl) ?_
          refine lv_aload_n hx hb dX4_file_72 rfl (lv_at hl 3 rfl) ?_
          refine p_9_8 (S := (sI S 104 i 0)) (x := (some (gG S 6 i))) X w hV9 wF_X4_71 dX4_file_73 (fun H locs w => ?_)
          exact rV X w rfl dX4_file_76 (by decide) (by decide) (⟨rfl, _, by decide, rfl⟩)
        · exact absurd hc8 (by decide)
      · refine lv_aload_n hx hb dX4_file_29 rfl (lv_at hl 3 rfl) ?_
        refine lv_iconst (v := 4) hx hb dX4_file_30 (by decide) ?_
        refine p_6_8 (S := S) (x := 4) X w hV6 wF_X4_56 dX4_file_31 (fun H locs w => ?_)
        refine lv_goto (tgt := 71) hx hb dX4_file_34 (by decide) ?_
        refine lv_aload_n hx hb dX4_file_71 rfl (lv_at hl 2 rfl) ?_
        refine lv_aload_n hx hb dX4_file_72 rfl (lv_at hl 3 rfl) ?_
        refine p_9_8 (S := (sI S 104 i 4)) (x := (some (gG S 6 i))) X w hV9 wF_X4_71 dX4_file_73 (fun H locs w => ?_)
        exact rV X w rfl dX4_file_76 (by decide) (by decide) (⟨rfl, _, by decide, rfl⟩)
    · refine lv_iconst (v := 1) hx hb dX4_file_16 (by decide) ?_
      refine lv_goto (tgt := 21) hx hb dX4_file_17 (by decide) ?_
      refine lv_istore_n (lv' := [(3, .int 1), (0, .ref (gG S 4 0)), (1, .ref (gG S 9 i)), (2, .ref (gG S 6 i))]) hx hb dX4_file_21 rfl hl (by decide) rfl (fun ls hl => ?_)
      refine lv_aload_n hx hb dX4_file_22 rfl (lv_at hl 3 rfl) ?_
      refine g_6_0 (S := S) (x := (mI S 96 i)) X w hV6 wF_X4_51 (rfl) dX4_file_23 ?_
      refine lv_if_ne (tgt := 37) hx hb dX4_file_26 (by decide) (fun hc9 => ?_) (fun hc9 => ?_)
      · refine lv_iload_n hx hb dX4_file_37 rfl (lv_at hl 0 rfl) ?_
        refine lv_if_eq (tgt := 66) hx hb dX4_file_38 (by decide) (fun hc10 => ?_) (fun hc10 => ?_)
        · exact absurd hc10 (by decide)
        · refine lv_aload_n hx hb dX4_file_41 rfl (lv_at hl 1 rfl) ?_
          refine g_4_6 (S := S) (x := (mI S 70 0)) X w hV4 wF_X4_59 (rfl) dX4_file_42 ?_
          refine lv_aload_n hx hb dX4_file_45 rfl (lv_at hl 2 rfl) ?_
          refine g_9_1 (S := S) (x := (some (gG S 8 k))) X w hV9 wF_X4_44 (he) dX4_file_46 ?_
          refine g_8_4 (S := S) (x := (mI S 132 k)) X w hV8 wF_X4_62 (rfl) dX4_file_49 ?_
          refine cSN (S := S) (nA := 2) (As := [.int (mI S 70 0), .int (mI S 132 k)]) (rest := []) X w hl (m_X10_isIn G S (mI S 70 0) (mI S 132 k)) wY_X10_isIn wMN_X4_67 wSt_X10_isIn wI_X10 (by decide +kernel) rfl rfl dX4_file_52 ⟨by decide, by decide⟩ (Nat.le_of_ble_eq_true rfl) (⟨Nat.le_of_ble_eq_true rfl, Nat.le_of_ble_eq_true rfl⟩) (fun v11 S1 H locs hp w => ?_)
          obtain ⟨rfl, rfl⟩ := hp
          refine lv_if_eq (tgt := 66) hx hb dX4_file_55 (by decide) (fun hc12 => ?_) (fun hc12 => ?_)
          · refine lv_aload_n hx hb dX4_file_66 rfl (lv_at hl 3 rfl) ?_
            refine lv_iconst (v := 0) hx hb dX4_file_67 (by decide) ?_
            refine p_6_8 (S := S) (x := 0) X w hV6 wF_X4_56 dX4_file_68 (fun H locs w => ?_)
            refine lv_aload_n hx hb dX4_file_71 rfl (lv_at hl 2 rfl) ?_
            refine lv_aload_n hx hb dX4_file_72 rfl (lv_at hl 3 rfl) ?_
            refine p_9_8 (S := (sI S 104 i 0)) (x := (some (gG S 6 i))) X w hV9 wF_X4_71 dX4_file_73 (fun H locs w => ?_)
            exact rV X w rfl dX4_file_76 (by decide) (by decide) (⟨rfl, _, by decide, rfl⟩)
          · refine lv_aload_n hx hb dX4_file_58 rfl (lv_at hl 3 rfl) ?_
            refine lv_iconst (v := 3) hx hb dX4_file_59 (by decide) ?_
            refine p_6_8 (S := S) (x := 3) X w hV6 wF_X4_56 dX4_file_60 (fun H locs w => ?_)
            refine lv_goto (tgt := 71) hx hb dX4_file_63 (by decide) ?_
            refine lv_aload_n hx hb dX4_file_71 rfl (lv_at hl 2 rfl) ?_
            refine lv_aload_n hx hb dX4_file_72 rfl (lv_at hl 3 rfl) ?_
            refine p_9_8 (S := (sI S 104 i 3)) (x := (some (gG S 6 i))) X w hV9 wF_X4_71 dX4_file_73 (fun H locs w => ?_)
            exact rV X w rfl dX4_file_76 (by decide) (by decide) (⟨rfl, _, by decide, rfl⟩)
      · refine lv_aload_n hx hb dX4_file_29 rfl (lv_at hl 3 rfl) ?_
        refine lv_iconst (v := 4) hx hb dX4_file_30 (by decide) ?_
        refine p_6_8 (S := S) (x := 4) X w hV6 wF_X4_56 dX4_file_31 (fun H locs w => ?_)
        refine lv_goto (tgt := 71) hx hb dX4_file_34 (by decide) ?_
        refine lv_aload_n hx hb dX4_file_71 rfl (lv_at hl 2 rfl) ?_
        refine lv_aload_n hx hb dX4_file_72 rfl (lv_at hl 3 rfl) ?_
        refine p_9_8 (S := (sI S 104 i 4)) (x := (some (gG S 6 i))) X w hV9 wF_X4_71 dX4_file_73 (fun H locs w => ?_)
        exact rV X w rfl dX4_file_76 (by decide) (by decide) (⟨rfl, _, by decide, rfl⟩)

theorem rh_step {S T : HS} {nt k2 q1 : Nat} {a b ql r1 r2 rL r3 r4 x9 : Int32} (hRH : ∀ j, j < nt → (mR T 152 j = none → ¬ vV T 6 j) ∧ (mR T 152 j ≠ none → mI S 146 j < mI S 164 0 ∨ (mI S 146 j = mI S 164 0 ∧ j < k2))) (hk : k2 < nt) (hth : mI S 146 k2 = mI S 164 0) :
    ∀ j, j < nt → (mR (sR (sI (rep6 (sNew T 6 k2 q1) k2 a b ql r1 r2 rL r3 r4) 104 k2 x9) 152 k2 (some (gG (sNew T 6 k2 q1) 6 k2))) 152 j = none → ¬ vV (sR (sI (rep6 (sNew T 6 k2 q1) k2 a b ql r1 r2 rL r3 r4) 104 k2 x9) 152 k2 (some (gG (sNew T 6 k2 q1) 6 k2))) 6 j) ∧ (mR (sR (sI (rep6 (sNew T 6 k2 q1) k2 a b ql r1 r2 rL r3 r4) 104 k2 x9) 152 k2 (some (gG (sNew T 6 k2 q1) 6 k2))) 152 j ≠ none → mI S 146 j < mI S 164 0 ∨ (mI S 146 j = mI S 164 0 ∧ j < k2 + 1)) := by
  intro j hj
  by_cases e : j = k2
  · refine ⟨fun z => ?_, fun _ => Or.inr ⟨by rw [e]; exact hth, by omega⟩⟩
    rw [e, show mR (sR (sI (rep6 (sNew T 6 k2 q1) k2 a b ql r1 r2 rL r3 r4) 104 k2 x9) 152 k2 (some (gG (sNew T 6 k2 q1) 6 k2))) 152 k2 = some (gG (sNew T 6 k2 q1) 6 k2) from up2_s _ _ _ _] at z
    exact absurd z (Option.some_ne_none _)
  · have e1 : mR (sR (sI (rep6 (sNew T 6 k2 q1) k2 a b ql r1 r2 rL r3 r4) 104 k2 x9) 152 k2 (some (gG (sNew T 6 k2 q1) 6 k2))) 152 j = mR T 152 j := up2_n (fun y => e y.2)
    rw [e1]
    refine ⟨fun z v => ?_, fun z => ((hRH j hj).2 z).imp id (fun y => ⟨y.1, by omega⟩)⟩
    exact v.elim ((hRH j hj).1 z) (fun y => e y.2)

theorem dX10_endHour_0 : decode cX10_endHour 0 = .ok (.iconst 0, 1) := by decide +kernel
theorem dX10_endHour_1 : decode cX10_endHour 1 = .ok (.istore_n 1, 1) := by decide +kernel
theorem dX10_endHour_2 : decode cX10_endHour 2 = .ok (.iload_n 1, 1) := by decide +kernel
theorem dX10_endHour_3 : decode cX10_endHour 3 = .ok (.aload_n 0, 1) := by decide +kernel
theorem dX10_endHour_4 : decode cX10_endHour 4 = .ok (.getfield 28, 3) := by decide +kernel
theorem dX10_endHour_7 : decode cX10_endHour 7 = .ok (.getfield 162, 3) := by decide +kernel
theorem dX10_endHour_10 : decode cX10_endHour 10 = .ok (.invokevirtual 66, 3) := by decide +kernel
theorem dX10_endHour_13 : decode cX10_endHour 13 = .ok (.if_icmp .ge 105, 3) := by decide +kernel
theorem dX10_endHour_16 : decode cX10_endHour 16 = .ok (.aload_n 0, 1) := by decide +kernel
theorem dX10_endHour_17 : decode cX10_endHour 17 = .ok (.getfield 28, 3) := by decide +kernel
theorem dX10_endHour_20 : decode cX10_endHour 20 = .ok (.getfield 162, 3) := by decide +kernel
theorem dX10_endHour_23 : decode cX10_endHour 23 = .ok (.iload_n 1, 1) := by decide +kernel
theorem dX10_endHour_24 : decode cX10_endHour 24 = .ok (.invokevirtual 417, 3) := by decide +kernel
theorem dX10_endHour_27 : decode cX10_endHour 27 = .ok (.checkcast 177, 3) := by decide +kernel
theorem dX10_endHour_30 : decode cX10_endHour 30 = .ok (.astore_n 2, 1) := by decide +kernel
theorem dX10_endHour_31 : decode cX10_endHour 31 = .ok (.aload_n 2, 1) := by decide +kernel
theorem dX10_endHour_32 : decode cX10_endHour 32 = .ok (.getfield 333, 3) := by decide +kernel
theorem dX10_endHour_35 : decode cX10_endHour 35 = .ok (.aload_n 0, 1) := by decide +kernel
theorem dX10_endHour_36 : decode cX10_endHour 36 = .ok (.getfield 41, 3) := by decide +kernel
theorem dX10_endHour_39 : decode cX10_endHour 39 = .ok (.if_icmp .ne 21, 3) := by decide +kernel
theorem dX10_endHour_42 : decode cX10_endHour 42 = .ok (.aload_n 0, 1) := by decide +kernel
theorem dX10_endHour_43 : decode cX10_endHour 43 = .ok (.getfield 21, 3) := by decide +kernel
theorem dX10_endHour_46 : decode cX10_endHour 46 = .ok (.aload_n 2, 1) := by decide +kernel
theorem dX10_endHour_47 : decode cX10_endHour 47 = .ok (.getfield 326, 3) := by decide +kernel
theorem dX10_endHour_50 : decode cX10_endHour 50 = .ok (.aload_n 0, 1) := by decide +kernel
theorem dX10_endHour_51 : decode cX10_endHour 51 = .ok (.invokevirtual 411, 3) := by decide +kernel
theorem dX10_endHour_54 : decode cX10_endHour 54 = .ok (.invokevirtual 374, 3) := by decide +kernel
theorem dX10_endHour_57 : decode cX10_endHour 57 = .ok (.goto 4, 3) := by decide +kernel
theorem dX10_endHour_60 : decode cX10_endHour 60 = .ok (.iconst (-1), 1) := by decide +kernel
theorem dX10_endHour_61 : decode cX10_endHour 61 = .ok (.istore_n 3, 1) := by decide +kernel
theorem dX10_endHour_62 : decode cX10_endHour 62 = .ok (.iload_n 3, 1) := by decide +kernel
theorem dX10_endHour_63 : decode cX10_endHour 63 = .ok (.iconst (-1), 1) := by decide +kernel
theorem dX10_endHour_64 : decode cX10_endHour 64 = .ok (.if_icmp .eq 48, 3) := by decide +kernel
theorem dX10_endHour_67 : decode cX10_endHour 67 = .ok (.aload_n 0, 1) := by decide +kernel
theorem dX10_endHour_68 : decode cX10_endHour 68 = .ok (.getfield 21, 3) := by decide +kernel
theorem dX10_endHour_71 : decode cX10_endHour 71 = .ok (.aload_n 0, 1) := by decide +kernel
theorem dX10_endHour_72 : decode cX10_endHour 72 = .ok (.invokevirtual 411, 3) := by decide +kernel
theorem dX10_endHour_75 : decode cX10_endHour 75 = .ok (.iload_n 3, 1) := by decide +kernel
theorem dX10_endHour_76 : decode cX10_endHour 76 = .ok (.invokevirtual 377, 3) := by decide +kernel
theorem dX10_endHour_79 : decode cX10_endHour 79 = .ok (.istore 4, 2) := by decide +kernel
theorem dX10_endHour_81 : decode cX10_endHour 81 = .ok (.aload_n 0, 1) := by decide +kernel
theorem dX10_endHour_82 : decode cX10_endHour 82 = .ok (.getfield 28, 3) := by decide +kernel
theorem dX10_endHour_85 : decode cX10_endHour 85 = .ok (.aload_n 2, 1) := by decide +kernel
theorem dX10_endHour_86 : decode cX10_endHour 86 = .ok (.new 202, 3) := by decide +kernel
theorem dX10_endHour_89 : decode cX10_endHour 89 = .ok (.dup, 1) := by decide +kernel
theorem dX10_endHour_90 : decode cX10_endHour 90 = .ok (.aload_n 2, 1) := by decide +kernel
theorem dX10_endHour_91 : decode cX10_endHour 91 = .ok (.iload_n 3, 1) := by decide +kernel
theorem dX10_endHour_92 : decode cX10_endHour 92 = .ok (.aload_n 0, 1) := by decide +kernel
theorem dX10_endHour_93 : decode cX10_endHour 93 = .ok (.getfield 21, 3) := by decide +kernel
theorem dX10_endHour_96 : decode cX10_endHour 96 = .ok (.aload_n 0, 1) := by decide +kernel
theorem dX10_endHour_97 : decode cX10_endHour 97 = .ok (.invokevirtual 411, 3) := by decide +kernel
theorem dX10_endHour_100 : decode cX10_endHour 100 = .ok (.iload_n 3, 1) := by decide +kernel
theorem dX10_endHour_101 : decode cX10_endHour 101 = .ok (.invokevirtual 259, 3) := by decide +kernel
theorem dX10_endHour_104 : decode cX10_endHour 104 = .ok (.iload 4, 2) := by decide +kernel
theorem dX10_endHour_106 : decode cX10_endHour 106 = .ok (.invokespecial 421, 3) := by decide +kernel
theorem dX10_endHour_109 : decode cX10_endHour 109 = .ok (.invokevirtual 424, 3) := by decide +kernel
theorem dX10_endHour_112 : decode cX10_endHour 112 = .ok (.iinc 1 1, 3) := by decide +kernel
theorem dX10_endHour_115 : decode cX10_endHour 115 = .ok (.goto (-113), 3) := by decide +kernel
theorem dX10_endHour_118 : decode cX10_endHour 118 = .ok (.aload_n 0, 1) := by decide +kernel
theorem dX10_endHour_119 : decode cX10_endHour 119 = .ok (.getfield 21, 3) := by decide +kernel
theorem dX10_endHour_122 : decode cX10_endHour 122 = .ok (.aload_n 0, 1) := by decide +kernel
theorem dX10_endHour_123 : decode cX10_endHour 123 = .ok (.invokevirtual 411, 3) := by decide +kernel
theorem dX10_endHour_126 : decode cX10_endHour 126 = .ok (.invokevirtual 428, 3) := by decide +kernel
theorem dX10_endHour_129 : decode cX10_endHour 129 = .ok (.aload_n 0, 1) := by decide +kernel
theorem dX10_endHour_130 : decode cX10_endHour 130 = .ok (.getfield 28, 3) := by decide +kernel
theorem dX10_endHour_133 : decode cX10_endHour 133 = .ok (.aload_n 0, 1) := by decide +kernel
theorem dX10_endHour_134 : decode cX10_endHour 134 = .ok (.getfield 41, 3) := by decide +kernel
theorem dX10_endHour_137 : decode cX10_endHour 137 = .ok (.invokevirtual 431, 3) := by decide +kernel
theorem dX10_endHour_140 : decode cX10_endHour 140 = .ok (.aload_n 0, 1) := by decide +kernel
theorem dX10_endHour_141 : decode cX10_endHour 141 = .ok (.getfield 28, 3) := by decide +kernel
theorem dX10_endHour_144 : decode cX10_endHour 144 = .ok (.aload_n 0, 1) := by decide +kernel
theorem dX10_endHour_145 : decode cX10_endHour 145 = .ok (.getfield 41, 3) := by decide +kernel
theorem dX10_endHour_148 : decode cX10_endHour 148 = .ok (.invokevirtual 434, 3) := by decide +kernel
theorem dX10_endHour_151 : decode cX10_endHour 151 = .ok (.aload_n 0, 1) := by decide +kernel
theorem dX10_endHour_152 : decode cX10_endHour 152 = .ok (.dup, 1) := by decide +kernel
theorem dX10_endHour_153 : decode cX10_endHour 153 = .ok (.getfield 41, 3) := by decide +kernel
theorem dX10_endHour_156 : decode cX10_endHour 156 = .ok (.iconst 1, 1) := by decide +kernel
theorem dX10_endHour_157 : decode cX10_endHour 157 = .ok (.iadd, 1) := by decide +kernel
theorem dX10_endHour_158 : decode cX10_endHour 158 = .ok (.putfield 41, 3) := by decide +kernel
theorem dX10_endHour_161 : decode cX10_endHour 161 = .ok (.aload_n 0, 1) := by decide +kernel
theorem dX10_endHour_162 : decode cX10_endHour 162 = .ok (.invokevirtual 411, 3) := by decide +kernel
theorem dX10_endHour_165 : decode cX10_endHour 165 = .ok (.ifCond .ne 13, 3) := by decide +kernel
theorem dX10_endHour_168 : decode cX10_endHour 168 = .ok (.aload_n 0, 1) := by decide +kernel
theorem dX10_endHour_169 : decode cX10_endHour 169 = .ok (.getfield 28, 3) := by decide +kernel
theorem dX10_endHour_172 : decode cX10_endHour 172 = .ok (.sipush 600, 3) := by decide +kernel
theorem dX10_endHour_175 : decode cX10_endHour 175 = .ok (.putfield 437, 3) := by decide +kernel
theorem dX10_endHour_178 : decode cX10_endHour 178 = .ok (.return_, 1) := by decide +kernel
abbrev rm_m_X10_endHour : Room := { frames := 11, cells := 80, slots := 2480, locals := 288 }
set_option maxHeartbeats 4000000 in
set_option maxRecDepth 100000 in
theorem m_X10_endHour {s0 : State} {l : Launch} {D : va_G} {cy : Nat → ClassId} (G : Gl s0 l D cy) (S : HS) (ea ns nj nm nt nr nc : Nat) (h : CI ea S ns nj nm nt nr nc) (hea : ea = eaOf s0) (g : Nat) (hg : mI S 164 0 = nI g) (hg7 : g < 720) (hrh : RH S nt) : Ctr s0 l D cy yX10_endHour cX10_endHour 5 none rm_m_X10_endHour S [.ref (gG S 10 0)] (fun v S' => none = v ∧ ∃ nc', CI ea S' ns nj nm nt nr nc' ∧ Kq (hidV true) hiP (hidR true) S S' ∧ mI S' 164 0 = nI (g + 1) ∧ RH S' nt) := by
  refine pro "CavershamShift" G rfl rfl (Nat.le_of_ble_eq_true rfl) (fun p e s m below meth c ls X w hnm hl => ?_)
  have hx := X.1
  have hb := X.2.1
  have hown := X.2.2.2.1
  have hts := X.2.2.2.2.1
  have hl : lv_has ls 5 [(0, .ref (gG S 10 0))] := hl
  have h0 := h
  have hK : Kq (hidV true) hiP (hidR true) S S := Kq.rf
  refine lv_iconst (v := 0) hx hb dX10_endHour_0 (by decide) ?_
  refine lv_istore_n (lv' := [(1, .int 0), (0, .ref (gG S 10 0))]) hx hb dX10_endHour_1 rfl hl (by decide) rfl (fun ls hl => ?_)
  have L2 : ∀ (N : Nat) (k2 : Nat) (T2 : HS) (H : Heap) (locs : List Loc) (ls : Array Slot), nt - k2 < N → (k2 ≤ nt) → (CI ea T2 ns nj nm nt nr nc) → (Kq (hidV true) hiP (hidR true) S T2) → (∀ j, j < nt → (mR T2 152 j = none → ¬ vV T2 6 j) ∧ (mR T2 152 j ≠ none → mI S 146 j < mI S 164 0 ∨ (mI S 146 j = mI S 164 0 ∧ j < k2))) → (mI T2 164 0 = mI S 164 0) → Wd s0 D cy T2 s.heap H locs → lv_has ls 5 [(1, .int (nI k2)), (0, .ref (gG S 10 0))] → W p l e rm_m_X10_endHour s m ([.ref (gG S 10 0)] : List Value).toArray below meth c H locs (k2) (13 * k2) (MQ below (GQ s0 D cy (fun v S' => none = v ∧ ∃ nc', CI ea S' ns nj nm nt nr nc' ∧ Kq (hidV true) hiP (hidR true) S S' ∧ mI S' 164 0 = nI (g + 1) ∧ RH S' nt)) ([.ref (gG S 10 0)] : List Value).toArray s rm_m_X10_endHour.cells rm_m_X10_endHour.slots (A0 s0)) (F0 m 2 ls []) := by
    intro N
    induction N with
    | zero => intros; omega
    | succ N ih2 =>
      intro k2 T2 H locs ls hmu hk_k2 h hK_T2 hRH e164 w hl
      have hK := hK_T2
      refine lv_iload_n hx hb dX10_endHour_2 rfl (lv_at hl 0 rfl) ?_
      refine lv_aload_n hx hb dX10_endHour_3 rfl (lv_at hl 1 rfl) ?_
      refine rE0 ((rfl).trans ((hK_T2.G (t := 10) (i := 0) rfl)).symm) ?_
      refine g_10_2 (S := T2) (x := (some (gG T2 4 0))) X w h.v10 wF_X10_28 (h.f162) dX10_endHour_4 ?_
      refine g_4_0 (S := T2) (x := (some (gG T2 17 3))) X w h.v4 wF_X10_162 (h.f64) dX10_endHour_7 ?_
      refine cV (S := T2) (nA := 0) (As := []) (rest := [.int (nI k2)]) X w hl h.l_ta.1 (m_size G T2 ea 3 nt h.l_ta) wY_Jx4a65c_size_8abf5 wM_X10_66 wIn_Jx4a65c_size_8abf5 wSe_Jx4a65c_Jx4a65c_size_8abf5 wI_Jx4a65c (by decide) rfl (by decide +kernel) rfl rfl dX10_endHour_10 ⟨by decide, by decide⟩ (Nat.le_of_ble_eq_true rfl) (⟨(show k2 + 0 ≤ 80 by have := h.b_ta; omega), (show 13 * k2 + 0 ≤ 2480 by have := h.b_ta; omega)⟩) (fun v1 S1 H locs hp w => ?_)
      obtain ⟨rfl, rfl⟩ := hp
      refine lv_icmp_ge (tgt := 118) hx hb dX10_endHour_13 (by decide) (fun hc_k2 => ?_) (fun hc_k2 => ?_)
      · have hge_k2 : nt ≤ k2 := by
          have hb1 := h.b_ta
          exact (nI_leI (a := nt) (b := k2) (by omega) (by omega)).mp hc_k2
        have hRe : ∀ j, j < nt → (mR T2 152 j = none → ¬ vV T2 6 j) ∧ (mR T2 152 j ≠ none → mI S 146 j < mI S 164 0 ∨ mI S 146 j = mI S 164 0) := fun j hj => ⟨(hRH j hj).1, fun z => ((hRH j hj).2 z).imp id (fun y => y.1)⟩
        refine W.widen (k := 40) (n := 520) (show k2 ≤ 40 by have := h.b_ta; omega) (show 13 * k2 ≤ 520 by have := h.b_ta; omega) ?_
        refine lv_aload_n hx hb dX10_endHour_118 rfl (lv_at hl 1 rfl) ?_
        refine rE0 ((rfl).trans ((hK_T2.G (t := 10) (i := 0) rfl)).symm) ?_
        refine g_10_1 (S := T2) (x := (some (gG T2 7 0))) X w h.v10 wF_X10_21 (h.f161) dX10_endHour_119 ?_
        refine lv_aload_n hx hb dX10_endHour_122 rfl (lv_at hl 1 rfl) ?_
        refine rE0 ((rfl).trans ((hK_T2.G (t := 10) (i := 0) rfl)).symm) ?_
        refine cV (S := T2) (nA := 0) (As := []) (rest := [.ref (gG T2 7 0)]) X w hl h.v10 (m_X10_hourOfDay G T2 ea ns nj nm nt nr nc h ) wY_X10_hourOfDay wM_X10_411 wIn_X10_hourOfDay wSe_X10_X10_hourOfDay wI_X10 (by decide) rfl (by decide +kernel) rfl rfl dX10_endHour_123 ⟨by decide, by decide⟩ (Nat.le_of_ble_eq_true rfl) (⟨(show 40 + 0 ≤ 80 by have := h.b_ta; omega), (show 520 + 0 ≤ 2480 by have := h.b_ta; omega)⟩) (fun v2 S1 H locs hp w => ?_)
        obtain ⟨rfl, rfl⟩ := hp
        refine cV (S := T2) (nA := 1) (As := [.int (mI T2 164 0 - mI T2 164 0 / 24 * 24)]) (rest := []) X w hl h.v7 (m_X7_tire G T2 ea ns nj nm nt nr nc h (mI T2 164 0 - mI T2 164 0 / 24 * 24)) wY_X7_tire wM_X10_428 wIn_X7_tire wSe_X7_X7_tire wI_X7 (by decide) rfl (by decide +kernel) rfl rfl dX10_endHour_126 ⟨by decide, by decide⟩ (Nat.le_of_ble_eq_true rfl) (⟨(show 40 + 0 ≤ 80 by have := h.b_ta; omega), (show 520 + 0 ≤ 2480 by have := h.b_ta; omega)⟩) (fun v5 U3 H locs hp w => ?_)
        obtain ⟨rfl, h, hkU3⟩ := hp
        have hK_U3 : Kq (hidV true) hiP (hidR true) S U3 := hK.tr (m12 hkU3)
        have hK := hK_U3
        have e164 : mI U3 164 0 = mI S 164 0 := (hkU3.I (f := 164) (i := 0) rfl).trans e164
        have hRe : ∀ j, j < nt → (mR U3 152 j = none → ¬ vV U3 6 j) ∧ (mR U3 152 j ≠ none → mI S 146 j < mI S 164 0 ∨ mI S 146 j = mI S 164 0) := fun j hj => by rw [show mR U3 152 j = mR T2 152 j from hkU3.R rfl, show vV U3 6 j = vV T2 6 j from hkU3.V rfl]; exact hRe j hj
        refine lv_aload_n hx hb dX10_endHour_129 rfl (lv_at hl 1 rfl) ?_
        refine rE0 ((rfl).trans ((hK_U3.G (t := 10) (i := 0) rfl)).symm) ?_
        refine g_10_2 (S := U3) (x := (some (gG U3 4 0))) X w h.v10 wF_X10_28 (h.f162) dX10_endHour_130 ?_
        refine lv_aload_n hx hb dX10_endHour_133 rfl (lv_at hl 1 rfl) ?_
        refine rE0 ((rfl).trans ((hK_U3.G (t := 10) (i := 0) rfl)).symm) ?_
        refine g_10_4 (S := U3) (x := (mI U3 164 0)) X w h.v10 wF_X10_41 (rfl) dX10_endHour_134 ?_
        refine cV (S := U3) (nA := 1) (As := [.int (mI U3 164 0)]) (rest := []) X w hl h.v4 (m_X4_dropStale G U3 ea ns nj nm nt nr nc h (mI U3 164 0)) wY_X4_dropStale wM_X10_431 wIn_X4_dropStale wSe_X4_X4_dropStale wI_X4 (by decide) rfl (by decide +kernel) rfl rfl dX10_endHour_137 ⟨by decide, by decide⟩ (Nat.le_of_ble_eq_true rfl) (⟨(show 40 + 0 ≤ 80 by have := h.b_ta; omega), (show 520 + 0 ≤ 2480 by have := h.b_ta; omega)⟩) (fun v8 U6 H locs hp w => ?_)
        obtain ⟨rfl, h, hkU6⟩ := hp
        have hK_U6 : Kq (hidV true) hiP (hidR true) S U6 := hK.tr (m12 hkU6)
        have hK := hK_U6
        have e164 : mI U6 164 0 = mI S 164 0 := (hkU6.I (f := 164) (i := 0) rfl).trans e164
        have hRe : ∀ j, j < nt → (mR U6 152 j = none → ¬ vV U6 6 j) ∧ (mR U6 152 j ≠ none → mI S 146 j < mI S 164 0 ∨ mI S 146 j = mI S 164 0) := fun j hj => by rw [show mR U6 152 j = mR U3 152 j from hkU6.R rfl, show vV U6 6 j = vV U3 6 j from hkU6.V rfl]; exact hRe j hj
        refine lv_aload_n hx hb dX10_endHour_140 rfl (lv_at hl 1 rfl) ?_
        refine rE0 ((rfl).trans ((hK_U6.G (t := 10) (i := 0) rfl)).symm) ?_
        refine g_10_2 (S := U6) (x := (some (gG U6 4 0))) X w h.v10 wF_X10_28 (h.f162) dX10_endHour_141 ?_
        refine lv_aload_n hx hb dX10_endHour_144 rfl (lv_at hl 1 rfl) ?_
        refine rE0 ((rfl).trans ((hK_U6.G (t := 10) (i := 0) rfl)).symm) ?_
        refine g_10_4 (S := U6) (x := (mI U6 164 0)) X w h.v10 wF_X10_41 (rfl) dX10_endHour_145 ?_
        refine cV (S := U6) (nA := 1) (As := [.int (mI U6 164 0)]) (rest := []) X w hl h.v4 (m_X4_runWire G U6 ea ns nj nm nt nr nc h (hea) (mI U6 164 0)) wY_X4_runWire wM_X10_434 wIn_X4_runWire wSe_X4_X4_runWire wI_X4 (by decide) rfl (by decide +kernel) rfl rfl dX10_endHour_148 ⟨by decide, by decide⟩ (Nat.le_of_ble_eq_true rfl) (⟨Nat.le_of_ble_eq_true rfl, Nat.le_of_ble_eq_true rfl⟩) (fun v12 U9 H locs hp w => ?_)
        obtain ⟨rfl, nc10, h, hkU9⟩ := hp
        have hK_U9 : Kq (hidV true) hiP (hidR true) S U9 := hK.tr (m12 hkU9)
        have hK := hK_U9
        have e164 : mI U9 164 0 = mI S 164 0 := (hkU9.I (f := 164) (i := 0) rfl).trans e164
        have hRe : ∀ j, j < nt → (mR U9 152 j = none → ¬ vV U9 6 j) ∧ (mR U9 152 j ≠ none → mI S 146 j < mI S 164 0 ∨ mI S 146 j = mI S 164 0) := fun j hj => by rw [show mR U9 152 j = mR U6 152 j from hkU9.R rfl, show vV U9 6 j = vV U6 6 j from hkU9.V rfl]; exact hRe j hj
        refine lv_aload_n hx hb dX10_endHour_151 rfl (lv_at hl 1 rfl) ?_
        refine lv_dup hx hb dX10_endHour_152 rfl ?_
        refine rE0 ((rfl).trans ((hK_U9.G (t := 10) (i := 0) rfl)).symm) ?_
        refine g_10_4 (S := U9) (x := (nI g)) X w h.v10 wF_X10_41 (e164.trans hg) dX10_endHour_153 ?_
        refine lv_iconst (v := 1) hx hb dX10_endHour_156 (by decide) ?_
        refine lv_iadd hx hb dX10_endHour_157 ?_
        refine lv_topi (fun z13 ez13 => ?_)
        obtain rfl : z13 = nI (g + 1) := ez13.trans (nI_1 _)
        refine rE1 ((rfl).trans ((hK_U9.G (t := 10) (i := 0) rfl)).symm) ?_
        refine p_10_4 (S := U9) (x := (nI (g + 1))) X w h.v10 wF_X10_41 dX10_endHour_158 (fun H locs w => ?_)
        have h : CI ea (sI U9 164 0 (nI (g + 1))) ns nj nm nt nr nc10 := h.s164 (by omega)
        have hK : Kq (hidV true) hiP (hidR true) S (sI U9 164 0 (nI (g + 1))) := hK.sI rfl
        refine lv_aload_n hx hb dX10_endHour_161 rfl (lv_at hl 1 rfl) ?_
        refine rE0 ((rfl).trans ((hK_U9.G (t := 10) (i := 0) rfl)).symm) ?_
        refine cV (S := (sI U9 164 0 (nI (g + 1)))) (nA := 0) (As := []) (rest := []) X w hl h.v10 (m_X10_hourOfDay G (sI U9 164 0 (nI (g + 1))) ea ns nj nm nt nr nc10 h ) wY_X10_hourOfDay wM_X10_411 wIn_X10_hourOfDay wSe_X10_X10_hourOfDay wI_X10 (by decide) rfl (by decide +kernel) rfl rfl dX10_endHour_162 ⟨by decide, by decide⟩ (Nat.le_of_ble_eq_true rfl) (⟨(show 80 + 0 ≤ 80 by have := h.b_ta; omega), (show 2480 + 0 ≤ 2480 by have := h.b_ta; omega)⟩) (fun v14 S1 H locs hp w => ?_)
        obtain ⟨rfl, rfl⟩ := hp
        refine lv_if_ne (tgt := 178) hx hb dX10_endHour_165 (by decide) (fun hc15 => ?_) (fun hc15 => ?_)
        · exact rV X w rfl dX10_endHour_178 (Nat.le_of_ble_eq_true rfl) (Nat.le_of_ble_eq_true rfl) (⟨rfl, _, h, hK, rfl, rh_fin hRe (fun _ => rfl) (fun _ => rfl) h0.x_th hg hg7 (fun j => hK.I rfl) rfl⟩)
        · refine lv_aload_n hx hb dX10_endHour_168 rfl (lv_at hl 1 rfl) ?_
          refine rE0 ((rfl).trans ((hK_U9.G (t := 10) (i := 0) rfl)).symm) ?_
          refine g_10_2 (S := (sI U9 164 0 (nI (g + 1)))) (x := (some (gG (sI U9 164 0 (nI (g + 1))) 4 0))) X w h.v10 wF_X10_28 (h.f162) dX10_endHour_169 ?_
          refine lv_sipush (v := 600) hx hb dX10_endHour_172 (by decide) ?_
          refine p_4_5 (S := (sI U9 164 0 (nI (g + 1)))) (x := 600) X w h.v4 wF_X10_437 dX10_endHour_175 (fun H locs w => ?_)
          have h : CI ea (sI (sI U9 164 0 (nI (g + 1))) 69 0 600) ns nj nm nt nr nc10 := h.s69 (by decide)
          have hK : Kq (hidV true) hiP (hidR true) S (sI (sI U9 164 0 (nI (g + 1))) 69 0 600) := hK.sI rfl
          exact rV X w rfl dX10_endHour_178 (Nat.le_of_ble_eq_true rfl) (Nat.le_of_ble_eq_true rfl) (⟨rfl, _, h, hK, rfl, rh_fin hRe (fun _ => rfl) (fun _ => rfl) h0.x_th hg hg7 (fun j => hK.I rfl) rfl⟩)
      · have hlt_k2 : k2 < nt := by
          have hb1 := h.b_ta
          exact Nat.lt_of_not_le (fun z => hc_k2 ((nI_leI (a := nt) (b := k2) (by omega) (by omega)).mpr z))
        refine lv_aload_n hx hb dX10_endHour_16 rfl (lv_at hl 1 rfl) ?_
        refine rE0 ((rfl).trans ((hK_T2.G (t := 10) (i := 0) rfl)).symm) ?_
        refine g_10_2 (S := T2) (x := (some (gG T2 4 0))) X w h.v10 wF_X10_28 (h.f162) dX10_endHour_17 ?_
        refine g_4_0 (S := T2) (x := (some (gG T2 17 3))) X w h.v4 wF_X10_162 (h.f64) dX10_endHour_20 ?_
        refine lv_iload_n hx hb dX10_endHour_23 rfl (lv_at hl 0 rfl) ?_
        refine cV (S := T2) (nA := 1) (As := [.int (nI k2)]) (rest := []) X w hl h.l_ta.1 (m_get G T2 ea 3 k2 nt (some (gG T2 9 k2)) h.l_ta hlt_k2 (h.e_ta k2 hlt_k2).1) wY_Jx4a65c_get_915e3 wM_X10_417 wIn_Jx4a65c_get_915e3 wSe_Jx4a65c_Jx4a65c_get_915e3 wI_Jx4a65c (by decide) rfl (by decide +kernel) rfl rfl dX10_endHour_24 ⟨by decide, by decide⟩ (Nat.le_of_ble_eq_true rfl) (⟨(show k2 + 0 ≤ 80 by have := h.b_ta; omega), (show 13 * k2 + 0 ≤ 2480 by have := h.b_ta; omega)⟩) (fun v16 S1 H locs hp w => ?_)
        obtain ⟨rfl, rfl⟩ := hp
        refine ckC (S := T2) (t := 9) X w (h.e_ta k2 hlt_k2).2 (by decide) rfl wC_X10_177 dX10_endHour_27 ?_
        refine lv_astore_n (lv' := [(2, .ref (gG T2 9 k2)), (1, .int (nI k2)), (0, .ref (gG S 10 0))]) hx hb dX10_endHour_30 rfl hl (by decide) rfl (fun ls hl => ?_)
        refine lv_aload_n hx hb dX10_endHour_31 rfl (lv_at hl 0 rfl) ?_
        refine g_9_2 (S := T2) (x := (mI T2 146 k2)) X w (h.e_ta k2 hlt_k2).2 wF_X10_333 (rfl) dX10_endHour_32 ?_
        refine lv_aload_n hx hb dX10_endHour_35 rfl (lv_at hl 2 rfl) ?_
        refine rE0 ((rfl).trans ((hK_T2.G (t := 10) (i := 0) rfl)).symm) ?_
        refine g_10_4 (S := T2) (x := (mI T2 164 0)) X w h.v10 wF_X10_41 (rfl) dX10_endHour_36 ?_
        refine lv_icmp_ne (tgt := 60) hx hb dX10_endHour_39 (by decide) (fun hth => ?_) (fun hth => ?_)
        · refine lv_iconst (v := (-1)) hx hb dX10_endHour_60 (by decide) ?_
          refine lv_istore_n (lv' := [(3, .int (-1)), (2, .ref (gG T2 9 k2)), (1, .int (nI k2)), (0, .ref (gG S 10 0))]) hx hb dX10_endHour_61 rfl hl (by decide) rfl (fun ls hl => ?_)
          refine lv_iload_n hx hb dX10_endHour_62 rfl (lv_at hl 0 rfl) ?_
          refine lv_iconst (v := (-1)) hx hb dX10_endHour_63 (by decide) ?_
          refine lv_icmp_eq (tgt := 112) hx hb dX10_endHour_64 (by decide) (fun hc17 => ?_) (fun hc17 => ?_)
          · refine lv_iinc (v := nI (k2 + 1)) (lv' := [(1, .int (nI (k2 + 1))), (3, .int (-1)), (2, .ref (gG T2 9 k2)), (0, .ref (gG S 10 0))]) hx hb dX10_endHour_112 hl (k := 2) rfl (nI_1 _) (by decide) rfl (fun ls hl => ?_)
            refine lv_goto (tgt := 2) hx hb dX10_endHour_115 (by decide) ?_
            refine W.widen (k := k2 + 1) (n := 13 * (k2 + 1)) (by first | exact Nat.le_succ k2 | exact Nat.le_refl (k2 + 1)) (by first | exact (show 13 * k2 ≤ 13 * (k2 + 1) by omega) | exact (show 13 * k2 + 13 ≤ 13 * (k2 + 1) by omega)) ?_
            exact ih2 (k2 + 1) T2 _ _ _ (by omega) (hlt_k2) (h) (hK) (by first | exact hRH9 | exact fun j hj => ⟨(hRH j hj).1, fun z => ((hRH j hj).2 z).imp id (fun y => ⟨y.1, by omega⟩)⟩) (e164) w (lv_sub hl [0, 3] rfl)
          · exact absurd hc17 (by decide)
        · have hth9 : mI S 146 k2 = mI S 164 0 := ((hK_T2.I (f := 146) (i := k2) rfl).symm.trans hth).trans e164
          refine lv_aload_n hx hb dX10_endHour_42 rfl (lv_at hl 2 rfl) ?_
          refine rE0 ((rfl).trans ((hK_T2.G (t := 10) (i := 0) rfl)).symm) ?_
          refine g_10_1 (S := T2) (x := (some (gG T2 7 0))) X w h.v10 wF_X10_21 (h.f161) dX10_endHour_43 ?_
          refine lv_aload_n hx hb dX10_endHour_46 rfl (lv_at hl 0 rfl) ?_
          obtain ⟨i18, hli18, hei18⟩ := h.t_st k2 hlt_k2
          refine g_9_1 (S := T2) (x := (some (gG T2 8 i18))) X w (h.e_ta k2 hlt_k2).2 wF_X10_326 (hei18) dX10_endHour_47 ?_
          refine lv_aload_n hx hb dX10_endHour_50 rfl (lv_at hl 2 rfl) ?_
          refine rE0 ((rfl).trans ((hK_T2.G (t := 10) (i := 0) rfl)).symm) ?_
          refine cV (S := T2) (nA := 0) (As := []) (rest := [.ref (gG T2 8 i18), .ref (gG T2 7 0)]) X w hl h.v10 (m_X10_hourOfDay G T2 ea ns nj nm nt nr nc h ) wY_X10_hourOfDay wM_X10_411 wIn_X10_hourOfDay wSe_X10_X10_hourOfDay wI_X10 (by decide) rfl (by decide +kernel) rfl rfl dX10_endHour_51 ⟨by decide, by decide⟩ (Nat.le_of_ble_eq_true rfl) (⟨(show k2 + 0 ≤ 80 by have := h.b_ta; omega), (show 13 * k2 + 0 ≤ 2480 by have := h.b_ta; omega)⟩) (fun v19 S1 H locs hp w => ?_)
          obtain ⟨rfl, rfl⟩ := hp
          refine cV (S := T2) (nA := 2) (As := [.ref (gG T2 8 i18), .int (mI T2 164 0 - mI T2 164 0 / 24 * 24)]) (rest := []) X w hl h.v7 (m_X7_setThatHears G T2 ea ns nj nm nt nr nc h i18 hli18 (mI T2 164 0 - mI T2 164 0 / 24 * 24)) wY_X7_setThatHears wM_X10_374 wIn_X7_setThatHears wSe_X7_X7_setThatHears wI_X7 (by decide) rfl (by decide +kernel) rfl rfl dX10_endHour_54 ⟨by decide, by decide⟩ (Nat.le_of_ble_eq_true rfl) (⟨(show k2 + 0 ≤ 80 by have := h.b_ta; omega), (show 13 * k2 + 0 ≤ 2480 by have := h.b_ta; omega)⟩) (fun v21 S1 H locs hp w => ?_)
          obtain ⟨⟨x20, rfl⟩, rfl⟩ := hp
          refine lv_goto (tgt := 61) hx hb dX10_endHour_57 (by decide) ?_
          refine lv_istore_n (lv' := [(3, .int x20), (2, .ref (gG T2 9 k2)), (1, .int (nI k2)), (0, .ref (gG S 10 0))]) hx hb dX10_endHour_61 rfl hl (by decide) rfl (fun ls hl => ?_)
          refine lv_iload_n hx hb dX10_endHour_62 rfl (lv_at hl 0 rfl) ?_
          refine lv_iconst (v := (-1)) hx hb dX10_endHour_63 (by decide) ?_
          refine lv_icmp_eq (tgt := 112) hx hb dX10_endHour_64 (by decide) (fun hc22 => ?_) (fun hc22 => ?_)
          · refine lv_iinc (v := nI (k2 + 1)) (lv' := [(1, .int (nI (k2 + 1))), (3, .int x20), (2, .ref (gG T2 9 k2)), (0, .ref (gG S 10 0))]) hx hb dX10_endHour_112 hl (k := 2) rfl (nI_1 _) (by decide) rfl (fun ls hl => ?_)
            refine lv_goto (tgt := 2) hx hb dX10_endHour_115 (by decide) ?_
            refine W.widen (k := k2 + 1) (n := 13 * (k2 + 1)) (by first | exact Nat.le_succ k2 | exact Nat.le_refl (k2 + 1)) (by first | exact (show 13 * k2 ≤ 13 * (k2 + 1) by omega) | exact (show 13 * k2 + 13 ≤ 13 * (k2 + 1) by omega)) ?_
            exact ih2 (k2 + 1) T2 _ _ _ (by omega) (hlt_k2) (h) (hK) (by first | exact hRH9 | exact fun j hj => ⟨(hRH j hj).1, fun z => ((hRH j hj).2 z).imp id (fun y => ⟨y.1, by omega⟩)⟩) (e164) w (lv_sub hl [0, 3] rfl)
          · refine lv_aload_n hx hb dX10_endHour_67 rfl (lv_at hl 3 rfl) ?_
            refine rE0 ((rfl).trans ((hK_T2.G (t := 10) (i := 0) rfl)).symm) ?_
            refine g_10_1 (S := T2) (x := (some (gG T2 7 0))) X w h.v10 wF_X10_21 (h.f161) dX10_endHour_68 ?_
            refine lv_aload_n hx hb dX10_endHour_71 rfl (lv_at hl 3 rfl) ?_
            refine rE0 ((rfl).trans ((hK_T2.G (t := 10) (i := 0) rfl)).symm) ?_
            refine cV (S := T2) (nA := 0) (As := []) (rest := [.ref (gG T2 7 0)]) X w hl h.v10 (m_X10_hourOfDay G T2 ea ns nj nm nt nr nc h ) wY_X10_hourOfDay wM_X10_411 wIn_X10_hourOfDay wSe_X10_X10_hourOfDay wI_X10 (by decide) rfl (by decide +kernel) rfl rfl dX10_endHour_72 ⟨by decide, by decide⟩ (Nat.le_of_ble_eq_true rfl) (⟨(show k2 + 0 ≤ 80 by have := h.b_ta; omega), (show 13 * k2 + 0 ≤ 2480 by have := h.b_ta; omega)⟩) (fun v23 S1 H locs hp w => ?_)
            obtain ⟨rfl, rfl⟩ := hp
            refine lv_iload_n hx hb dX10_endHour_75 rfl (lv_at hl 0 rfl) ?_
            refine cV (S := T2) (nA := 2) (As := [.int (mI T2 164 0 - mI T2 164 0 / 24 * 24), .int x20]) (rest := []) X w hl h.v7 (m_X7_qualityAt G T2 ea ns nj nm nt nr nc h (mI T2 164 0 - mI T2 164 0 / 24 * 24) x20) wY_X7_qualityAt wM_X10_377 wIn_X7_qualityAt wSe_X7_X7_qualityAt wI_X7 (by decide) rfl (by decide +kernel) rfl rfl dX10_endHour_76 ⟨by decide, by decide⟩ (Nat.le_of_ble_eq_true rfl) (⟨(show k2 + 0 ≤ 80 by have := h.b_ta; omega), (show 13 * k2 + 0 ≤ 2480 by have := h.b_ta; omega)⟩) (fun v25 S1 H locs hp w => ?_)
            obtain ⟨⟨x24, hbx24, rfl⟩, rfl⟩ := hp
            refine lv_istore (lv' := [(4, .int (nI x24)), (3, .int x20), (2, .ref (gG T2 9 k2)), (1, .int (nI k2)), (0, .ref (gG S 10 0))]) hx hb dX10_endHour_79 hl (by decide) rfl (fun ls hl => ?_)
            have hno : mR T2 152 k2 = none ∧ ¬ vV T2 6 k2 := by
              cases ec : mR T2 152 k2 with
              | none => exact ⟨rfl, (hRH k2 hlt_k2).1 ec⟩
              | some y =>
                rcases (hRH k2 hlt_k2).2 (by rw [ec]; exact Option.some_ne_none _) with z | z
                · rw [hth9] at z; exact absurd z Int32.lt_irrefl
                · omega
            obtain ⟨i9, hi9, hs9⟩ := h.t_st k2 hlt_k2
            obtain ⟨w9, hw9, he9⟩ := h.x_tw k2 hlt_k2
            have h9 := h
            refine lv_aload_n hx hb dX10_endHour_81 rfl (lv_at hl 4 rfl) ?_
            refine rE0 ((rfl).trans ((hK_T2.G (t := 10) (i := 0) rfl)).symm) ?_
            refine g_10_2 (S := T2) (x := (some (gG T2 4 0))) X w h.v10 wF_X10_28 (h.f162) dX10_endHour_82 ?_
            refine lv_aload_n hx hb dX10_endHour_85 rfl (lv_at hl 2 rfl) ?_
            refine nwO (S := T2) (t := 6) (n := 13) X w k2 (hno.2) (Or.inl (by decide)) (by decide) rfl in_6 tyX6 tyX6_ok (by decide +kernel) wC_X10_202 wNew_X6 wI_X6 dX10_endHour_86 rfl ((show k2 + 1 ≤ 80 by have := h.b_ta; omega)) ((show 13 * k2 + 13 ≤ 2480 by have := h.b_ta; omega)) (fun q1 S2 H hS2 w => ?_)
            subst hS2
            have h : CI ea (sNew T2 6 k2 q1) ns nj nm nt nr nc := h.new6 hlt_k2 hno.1
            have hK : Kq (hidV true) hiP (hidR true) S (sNew T2 6 k2 q1) := hK.new rfl (by decide) (fun f z => hiP6 z) (fun f z => hidR6 z)
            refine lv_dup hx hb dX10_endHour_89 rfl ?_
            refine lv_aload_n hx hb dX10_endHour_90 rfl (lv_at hl 2 rfl) ?_
            refine lv_iload_n hx hb dX10_endHour_91 rfl (lv_at hl 1 rfl) ?_
            refine lv_aload_n hx hb dX10_endHour_92 rfl (lv_at hl 4 rfl) ?_
            refine rE0 ((rfl).trans ((hK_T2.G (t := 10) (i := 0) rfl)).symm) ?_
            refine g_10_1 (S := (sNew T2 6 k2 q1)) (x := (some (gG (sNew T2 6 k2 q1) 7 0))) X w h.v10 wF_X10_21 (h.f161) dX10_endHour_93 ?_
            refine lv_aload_n hx hb dX10_endHour_96 rfl (lv_at hl 4 rfl) ?_
            refine rE0 ((rfl).trans ((hK_T2.G (t := 10) (i := 0) rfl)).symm) ?_
            refine cV (S := (sNew T2 6 k2 q1)) (nA := 0) (As := []) (rest := [.ref (gG (sNew T2 6 k2 q1) 7 0), .int x20, .ref (gG T2 9 k2), .ref (gG (sNew T2 6 k2 q1) 6 k2), .ref (gG (sNew T2 6 k2 q1) 6 k2), .ref (gG T2 9 k2), .ref (gG T2 4 0)]) X w hl h.v10 (m_X10_hourOfDay G (sNew T2 6 k2 q1) ea ns nj nm nt nr nc h ) wY_X10_hourOfDay wM_X10_411 wIn_X10_hourOfDay wSe_X10_X10_hourOfDay wI_X10 (by decide) rfl (by decide +kernel) rfl rfl dX10_endHour_97 ⟨by decide, by decide⟩ (Nat.le_of_ble_eq_true rfl) (⟨(show k2 + 1 + 0 ≤ 80 by have := h.b_ta; omega), (show 13 * k2 + 13 + 0 ≤ 2480 by have := h.b_ta; omega)⟩) (fun v27 S1 H locs hp w => ?_)
            obtain ⟨rfl, rfl⟩ := hp
            refine lv_iload_n hx hb dX10_endHour_100 rfl (lv_at hl 1 rfl) ?_
            refine cV (S := (sNew T2 6 k2 q1)) (nA := 2) (As := [.int (mI (sNew T2 6 k2 q1) 164 0 - mI (sNew T2 6 k2 q1) 164 0 / 24 * 24), .int x20]) (rest := [.int x20, .ref (gG T2 9 k2), .ref (gG (sNew T2 6 k2 q1) 6 k2), .ref (gG (sNew T2 6 k2 q1) 6 k2), .ref (gG T2 9 k2), .ref (gG T2 4 0)]) X w hl h.v7 (m_X7_monitorIn G (sNew T2 6 k2 q1) ea ns nj nm nt nr nc h (mI (sNew T2 6 k2 q1) 164 0 - mI (sNew T2 6 k2 q1) 164 0 / 24 * 24) x20) wY_X7_monitorIn wM_X10_259 wIn_X7_monitorIn wSe_X7_X7_monitorIn wI_X7 (by decide) rfl (by decide +kernel) rfl rfl dX10_endHour_101 ⟨by decide, by decide⟩ (Nat.le_of_ble_eq_true rfl) (⟨(show k2 + 1 + 0 ≤ 80 by have := h.b_ta; omega), (show 13 * k2 + 13 + 0 ≤ 2480 by have := h.b_ta; omega)⟩) (fun v28 S1 H locs hp w => ?_)
            obtain ⟨rfl, rfl⟩ := hp
            refine lv_iload hx hb dX10_endHour_104 (lv_at hl 0 rfl) ?_
            refine cI (S := (sNew T2 6 k2 q1)) (nA := 4) (As := [.ref (gG T2 9 k2), .int x20, .int (cSlot (sNew T2 6 k2 q1) 1 (mI (sNew T2 6 k2 q1) 164 0 - mI (sNew T2 6 k2 q1) 164 0 / 24 * 24) x20), .int (nI x24)]) (rest := [.ref (gG (sNew T2 6 k2 q1) 6 k2), .ref (gG T2 9 k2), .ref (gG T2 4 0)]) X w hl (m_X6_init G (sNew T2 6 k2 q1) k2 k2 x24 w9 x20 (cSlot (sNew T2 6 k2 q1) 1 (mI (sNew T2 6 k2 q1) 164 0 - mI (sNew T2 6 k2 q1) 164 0 / 24 * 24) x20) (Or.inr ⟨rfl, rfl⟩) (Or.inl (h9.e_ta k2 hlt_k2).2) hbx24 hw9 he9) wY_X6_init wM_X10_421 wIn_X6_init wI_X6 rfl (by decide +kernel) rfl rfl dX10_endHour_106 ⟨by decide, by decide⟩ (Nat.le_of_ble_eq_true rfl) (⟨(show k2 + 1 + 0 ≤ 80 by have := h.b_ta; omega), (show 13 * k2 + 13 + 0 ≤ 2480 by have := h.b_ta; omega)⟩) (fun v29 S1 H locs hp w => ?_)
            obtain ⟨rfl, r1, r2, r3, r4, rL, hrL, rfl⟩ := hp
            refine cV (S := (rep6 (sNew T2 6 k2 q1) k2 x20 (cSlot (sNew T2 6 k2 q1) 1 (mI (sNew T2 6 k2 q1) 164 0 - mI (sNew T2 6 k2 q1) 164 0 / 24 * 24) x20) (nI x24) r1 r2 (nI rL) r3 r4)) (nA := 2) (As := [.ref (gG T2 9 k2), .ref (gG (sNew T2 6 k2 q1) 6 k2)]) (rest := []) X w hl h.v4 (m_X4_file G (rep6 (sNew T2 6 k2 q1) k2 x20 (cSlot (sNew T2 6 k2 q1) 1 (mI (sNew T2 6 k2 q1) 164 0 - mI (sNew T2 6 k2 q1) 164 0 / 24 * 24) x20) (nI x24) r1 r2 (nI rL) r3 r4) k2 i9 (Or.inl h9.v4) (Or.inl (h9.e_ta k2 hlt_k2).2) (Or.inr ⟨rfl, rfl⟩) (Or.inl (h9.e_st i9 hi9).2) hs9) wY_X4_file wM_X10_424 wIn_X4_file wSe_X4_X4_file wI_X4 (by decide) rfl (by decide +kernel) rfl rfl dX10_endHour_109 ⟨by decide, by decide⟩ (Nat.le_of_ble_eq_true rfl) (⟨(show k2 + 1 + 0 ≤ 80 by have := h.b_ta; omega), (show 13 * k2 + 13 + 0 ≤ 2480 by have := h.b_ta; omega)⟩) (fun v30 S1 H locs hp w => ?_)
            obtain ⟨rfl, x9, hx9, rfl⟩ := hp
            have h : CI ea (sR (sI (rep6 (sNew T2 6 k2 q1) k2 x20 (cSlot (sNew T2 6 k2 q1) 1 (mI (sNew T2 6 k2 q1) 164 0 - mI (sNew T2 6 k2 q1) 164 0 / 24 * 24) x20) (nI x24) r1 r2 (nI rL) r3 r4) 104 k2 x9) 152 k2 (some (gG (sNew T2 6 k2 q1) 6 k2))) ns nj nm nt nr nc := h9.rep hlt_k2 hno.1 hrL hx9
            have hK : Kq (hidV true) hiP (hidR true) S (sR (sI (rep6 (sNew T2 6 k2 q1) k2 x20 (cSlot (sNew T2 6 k2 q1) 1 (mI (sNew T2 6 k2 q1) 164 0 - mI (sNew T2 6 k2 q1) 164 0 / 24 * 24) x20) (nI x24) r1 r2 (nI rL) r3 r4) 104 k2 x9) 152 k2 (some (gG (sNew T2 6 k2 q1) 6 k2))) := ((((((((((((((hK_T2.new (t := 6) (i := k2) (q := q1) rfl (by decide) (fun f z => hiP6 z) (fun f z => hidR6 z)).sI rfl).sI rfl).sI rfl).sI rfl).sI rfl).sI rfl).sI rfl).sI rfl).sI rfl).sI rfl).sI rfl).sI rfl).sR rfl)
            have e164 : mI (sR (sI (rep6 (sNew T2 6 k2 q1) k2 x20 (cSlot (sNew T2 6 k2 q1) 1 (mI (sNew T2 6 k2 q1) 164 0 - mI (sNew T2 6 k2 q1) 164 0 / 24 * 24) x20) (nI x24) r1 r2 (nI rL) r3 r4) 104 k2 x9) 152 k2 (some (gG (sNew T2 6 k2 q1) 6 k2))) 164 0 = mI S 164 0 := e164
            have hRH9 : ∀ j, j < nt → (mR (sR (sI (rep6 (sNew T2 6 k2 q1) k2 x20 (cSlot (sNew T2 6 k2 q1) 1 (mI (sNew T2 6 k2 q1) 164 0 - mI (sNew T2 6 k2 q1) 164 0 / 24 * 24) x20) (nI x24) r1 r2 (nI rL) r3 r4) 104 k2 x9) 152 k2 (some (gG (sNew T2 6 k2 q1) 6 k2))) 152 j = none → ¬ vV (sR (sI (rep6 (sNew T2 6 k2 q1) k2 x20 (cSlot (sNew T2 6 k2 q1) 1 (mI (sNew T2 6 k2 q1) 164 0 - mI (sNew T2 6 k2 q1) 164 0 / 24 * 24) x20) (nI x24) r1 r2 (nI rL) r3 r4) 104 k2 x9) 152 k2 (some (gG (sNew T2 6 k2 q1) 6 k2))) 6 j) ∧ (mR (sR (sI (rep6 (sNew T2 6 k2 q1) k2 x20 (cSlot (sNew T2 6 k2 q1) 1 (mI (sNew T2 6 k2 q1) 164 0 - mI (sNew T2 6 k2 q1) 164 0 / 24 * 24) x20) (nI x24) r1 r2 (nI rL) r3 r4) 104 k2 x9) 152 k2 (some (gG (sNew T2 6 k2 q1) 6 k2))) 152 j ≠ none → mI S 146 j < mI S 164 0 ∨ (mI S 146 j = mI S 164 0 ∧ j < k2 + 1)) := rh_step hRH hlt_k2 hth9
            refine lv_iinc (v := nI (k2 + 1)) (lv' := [(1, .int (nI (k2 + 1))), (4, .int (nI x24)), (3, .int x20), (2, .ref (gG T2 9 k2)), (0, .ref (gG S 10 0))]) hx hb dX10_endHour_112 hl (k := 3) rfl (nI_1 _) (by decide) rfl (fun ls hl => ?_)
            refine lv_goto (tgt := 2) hx hb dX10_endHour_115 (by decide) ?_
            refine W.widen (k := k2 + 1) (n := 13 * (k2 + 1)) (by first | exact Nat.le_succ k2 | exact Nat.le_refl (k2 + 1)) (by first | exact (show 13 * k2 ≤ 13 * (k2 + 1) by omega) | exact (show 13 * k2 + 13 ≤ 13 * (k2 + 1) by omega)) ?_
            exact ih2 (k2 + 1) (sR (sI (rep6 (sNew T2 6 k2 q1) k2 x20 (cSlot (sNew T2 6 k2 q1) 1 (mI (sNew T2 6 k2 q1) 164 0 - mI (sNew T2 6 k2 q1) 164 0 / 24 * 24) x20) (nI x24) r1 r2 (nI rL) r3 r4) 104 k2 x9) 152 k2 (some (gG (sNew T2 6 k2 q1) 6 k2))) _ _ _ (by omega) (hlt_k2) (h) (hK) (by first | exact hRH9 | exact fun j hj => ⟨(hRH j hj).1, fun z => ((hRH j hj).2 z).imp id (fun y => ⟨y.1, by omega⟩)⟩) (e164) w (lv_sub hl [0, 4] rfl)
  refine W.widen (k := 0) (n := 13 * 0) (Nat.zero_le _) (Nat.zero_le _) ?_
  exact L2 _ 0 S _ _ _ (Nat.lt_succ_self _) (Nat.zero_le _) (h) (hK) (fun j hj => ⟨(hrh j hj).1, fun z => Or.inl ((hrh j hj).2 z)⟩) (rfl) w (lv_sub hl [0, 1] rfl)
