def rep6 (S : HS) (i : Nat) (a b q x1 x2 xL x3 x4 : Int32) : HS := sI (sI (sI (sI (sI (sI (sI (sI (sI (sI (sI S 105 i (-1)) 106 i (-1)) 107 i 0) 101 i a) 102 i b) 103 i q) 96 i x1) 98 i x2) 97 i xL) 99 i x3) 100 i x4
theorem hiP6 {f i : Nat} (z : f / 16 = 6) : hiP f i = true := by simp [hiP, hiH, z]
theorem hidR6 {f i : Nat} (z : f / 16 = 6) : hidR true f i = true := by simp [hidR, z]
/-- which reports there are: those of the hours gone by -/
def RH (S : HS) (nt : Nat) : Prop := ∀ j, j < nt → (mR S 152 j = none → ¬ vV S 6 j) ∧ (mR S 152 j ≠ none → mI S 146 j < mI S 164 0)
theorem rh_fin {S U V : HS} {nt g : Nat} (hRe : ∀ j, j < nt → (mR U 152 j = none → ¬ vV U 6 j) ∧ (mR U 152 j ≠ none → mI S 146 j < mI S 164 0 ∨ mI S 146 j = mI S 164 0)) (eR : ∀ j, mR V 152 j = mR U 152 j) (eV : ∀ j, vV V 6 j = vV U 6 j) (hx : ∀ j, j < nt → ∃ t, t < 720 ∧ mI S 146 j = nI t) (hg : mI S 164 0 = nI g) (hg7 : g < 720) (e146 : ∀ j, mI V 146 j = mI S 146 j) (e164 : mI V 164 0 = nI (g + 1)) : RH V nt := by
  intro j hj
  obtain ⟨r1, r2⟩ := hRe j hj
  rw [eR, eV, e146, e164]
  refine ⟨r1, fun z => ?_⟩
  obtain ⟨t, ht, e⟩ := hx j hj
  have r3 := r2 z
  rw [e, hg] at r3
  rw [e]
  refine (nI_ltI (a := t) (b := g + 1) (by omega) (by omega)).mpr ?_
  rcases r3 with r3 | r3
  · have := (nI_ltI (a := t) (b := g) (by omega) (by omega)).mp r3
    omega
  · have := (nI_eq (a := t) (b := g) (by omega) (by omega)).mp r3
    omega

theorem CI.new6 {ea : Nat} {S : HS} {ns nj nm nt nr nc : Nat} (h : CI ea S ns nj nm nt nr nc) {i q : Nat} (hi : i < nt) (hn : mR S 152 i = none) : CI ea (sNew S 6 i q) ns nj nm nt nr nc := by
  have up : ∀ t k, vV S t k → vV (sNew S 6 i q) t k := fun t k v => Or.inl v
  have dn : ∀ t k, ¬ (t = 6 ∧ k = i) → vV (sNew S 6 i q) t k → vV S t k := fun t k d v => v.elim id (fun e => absurd e d)
  exact ⟨(up _ _ h.v10), h.f160, h.f161, h.f162, h.f163, (up _ _ h.v0), h.f0, h.f1, (up _ _ h.v7), h.f112, h.f113, h.f114, h.f115, (up _ _ h.v4), h.f64, h.f65, h.f66, (up _ _ h.v2), h.f32, h.f33, h.f34, h.f35, h.f36, ⟨up _ _ h.a0.1, h.a0.2⟩, ⟨up _ _ h.a1.1, h.a1.2⟩, ⟨up _ _ h.a2.1, h.a2.2⟩, ⟨up _ _ h.a3.1, h.a3.2⟩, ⟨up _ _ h.a4.1, h.a4.2⟩, (h.l_st.of (up _ _) rfl rfl (up _ _) (fun _ => rfl) rfl), (h.l_jm.of (up _ _) rfl rfl (up _ _) (fun _ => rfl) rfl), (h.l_mo.of (up _ _) rfl rfl (up _ _) (fun _ => rfl) rfl), (h.l_ta.of (up _ _) rfl rfl (up _ _) (fun _ => rfl) rfl), (h.l_re.of (up _ _) rfl rfl (up _ _) (fun _ => rfl) rfl), (h.l_co.of (up _ _) rfl rfl (up _ _) (fun _ => rfl) rfl), h.b_st, h.b_jm, h.b_mo, h.b_ta, h.b_re, h.b_co, (fun j hj => ⟨(h.e_st j hj).1, up _ _ (h.e_st j hj).2⟩), (fun j hj => ⟨(h.e_jm j hj).1, up _ _ (h.e_jm j hj).2⟩), (fun j hj => ⟨(h.e_mo j hj).1, up _ _ (h.e_mo j hj).2⟩), (fun j hj => ⟨(h.e_ta j hj).1, up _ _ (h.e_ta j hj).2⟩), (fun j hj => ⟨(h.e_re j hj).1, up _ _ (h.e_re j hj).2⟩), h.e_co, h.t_st, (fun j hj => (h.t_rp j hj).elim Or.inl (fun z => by
    by_cases e : j = i
    · exact Or.inr ⟨by rw [e, hn] at z; exact absurd z.1 (by simp), Or.inr ⟨rfl, e⟩⟩
    · exact Or.inr ⟨z.1.trans (congrArg some (up2_n (fun y => e y.2)).symm), Or.inl z.2⟩)), h.x_to, h.x_ho, h.x_th, h.x_tw, (fun j hj z => by
    by_cases e : j = i
    · rw [e] at z; exact z.1 hn
    · exact h.x_rl j hj ⟨z.1, by have y := z.2; rwa [show mI (sNew S 6 i q) 97 j = mI S 97 j from if_neg (fun y => e y.2)] at y⟩), h.x_cs, h.x_wl, h.n_st, h.n_mo, h.n_ta, h.n_re, (fun j hj v => h.z_st j hj (dn _ j (by omega) v)), (fun j hj v => h.z_jm j hj (dn _ j (by omega) v)), (fun j hj v => h.z_mo j hj (dn _ j (by omega) v)), (fun j hj v => h.z_ta j hj (dn _ j (by omega) v)), (fun j hj v => h.z_re j hj (dn _ j (by omega) v)), (fun j hj v => h.z_rp j hj (dn _ j (by omega) v)), ⟨(fun z v => h.z30.1 z (dn 30 0 (by omega) v)), (fun z v => h.z30.2.1 z (dn 30 1 (by omega) v)), (fun z v => h.z30.2.2.1 z (dn 30 2 (by omega) v)), (fun z v => h.z30.2.2.2.1 z (dn 30 3 (by omega) v)), (fun z v => h.z30.2.2.2.2.1 z (dn 30 4 (by omega) v)), (fun z v => h.z30.2.2.2.2.2 z (dn 30 5 (by omega) v))⟩, (fun k v => h.z31 k (dn 31 k (by omega) v)), (Nat.le_trans h.x_co (cntB_mono nt (fun k _ hk => by
    obtain ⟨k1, k2, k3⟩ := pO1 hk
    by_cases e : k = i
    · rw [e] at k2; exact absurd hn k2
    · exact pO2 ((if_neg (fun y => e y.2)).trans k1) k2 k3)))⟩
theorem CI.rep {ea : Nat} {S : HS} {ns nj nm nt nr nc : Nat} (h : CI ea S ns nj nm nt nr nc) {i q xL : Nat} {a b ql x1 x2 x3 x4 x : Int32} (hi : i < nt) (hn : mR S 152 i = none) (hL : xL ≤ 300) (hx : ¬ x = 1) : CI ea (sR (sI (rep6 (sNew S 6 i q) i a b ql x1 x2 (nI xL) x3 x4) 104 i x) 152 i (some (gG (sNew S 6 i q) 6 i))) ns nj nm nt nr nc := by
  have up : ∀ t k, vV S t k → vV (sR (sI (rep6 (sNew S 6 i q) i a b ql x1 x2 (nI xL) x3 x4) 104 i x) 152 i (some (gG (sNew S 6 i q) 6 i))) t k := fun t k v => Or.inl v
  have dn : ∀ t k, ¬ (t = 6 ∧ k = i) → vV (sR (sI (rep6 (sNew S 6 i q) i a b ql x1 x2 (nI xL) x3 x4) 104 i x) 152 i (some (gG (sNew S 6 i q) 6 i))) t k → vV S t k := fun t k d v => v.elim id (fun e => absurd e d)
  have eR : ∀ j, ¬ j = i → mR (sR (sI (rep6 (sNew S 6 i q) i a b ql x1 x2 (nI xL) x3 x4) 104 i x) 152 i (some (gG (sNew S 6 i q) 6 i))) 152 j = mR S 152 j := fun j d => up2_n (fun y => d y.2)
  have e97 : mI (sR (sI (rep6 (sNew S 6 i q) i a b ql x1 x2 (nI xL) x3 x4) 104 i x) 152 i (some (gG (sNew S 6 i q) 6 i))) 97 i = nI xL := by simp [mI, sI, sR, sNew, rep6, up2]
  have e97n : ∀ j, ¬ j = i → mI (sR (sI (rep6 (sNew S 6 i q) i a b ql x1 x2 (nI xL) x3 x4) 104 i x) 152 i (some (gG (sNew S 6 i q) 6 i))) 97 j = mI S 97 j := fun j d => by simp [mI, sI, sR, sNew, rep6, up2, d]
  have e104n : ∀ j, ¬ j = i → mI (sR (sI (rep6 (sNew S 6 i q) i a b ql x1 x2 (nI xL) x3 x4) 104 i x) 152 i (some (gG (sNew S 6 i q) 6 i))) 104 j = mI S 104 j := fun j d => by simp [mI, sI, sR, sNew, rep6, up2, d]
  exact ⟨(up _ _ h.v10), h.f160, h.f161, h.f162, h.f163, (up _ _ h.v0), h.f0, h.f1, (up _ _ h.v7), h.f112, h.f113, h.f114, h.f115, (up _ _ h.v4), h.f64, h.f65, h.f66, (up _ _ h.v2), h.f32, h.f33, h.f34, h.f35, h.f36, ⟨up _ _ h.a0.1, h.a0.2⟩, ⟨up _ _ h.a1.1, h.a1.2⟩, ⟨up _ _ h.a2.1, h.a2.2⟩, ⟨up _ _ h.a3.1, h.a3.2⟩, ⟨up _ _ h.a4.1, h.a4.2⟩, (h.l_st.of (up _ _) rfl rfl (up _ _) (fun _ => rfl) rfl), (h.l_jm.of (up _ _) rfl rfl (up _ _) (fun _ => rfl) rfl), (h.l_mo.of (up _ _) rfl rfl (up _ _) (fun _ => rfl) rfl), (h.l_ta.of (up _ _) rfl rfl (up _ _) (fun _ => rfl) rfl), (h.l_re.of (up _ _) rfl rfl (up _ _) (fun _ => rfl) rfl), (h.l_co.of (up _ _) rfl rfl (up _ _) (fun _ => rfl) rfl), h.b_st, h.b_jm, h.b_mo, h.b_ta, h.b_re, h.b_co, (fun j hj => ⟨(h.e_st j hj).1, up _ _ (h.e_st j hj).2⟩), (fun j hj => ⟨(h.e_jm j hj).1, up _ _ (h.e_jm j hj).2⟩), (fun j hj => ⟨(h.e_mo j hj).1, up _ _ (h.e_mo j hj).2⟩), (fun j hj => ⟨(h.e_ta j hj).1, up _ _ (h.e_ta j hj).2⟩), (fun j hj => ⟨(h.e_re j hj).1, up _ _ (h.e_re j hj).2⟩), h.e_co, h.t_st, (fun j hj => by
    by_cases e : j = i
    · rw [e]; exact Or.inr ⟨up2_s _ _ _ _, Or.inr ⟨rfl, rfl⟩⟩
    · rw [eR j e]
      exact (h.t_rp j hj).imp id (fun z => ⟨z.1.trans (congrArg some (up2_n (fun y => e y.2)).symm), Or.inl z.2⟩)), h.x_to, h.x_ho, h.x_th, h.x_tw, (fun j hj z => by
    by_cases e : j = i
    · rw [e, e97] at z; exact nI_pos (by omega) z.2
    · rw [eR j e, e97n j e] at z; exact h.x_rl j hj z), h.x_cs, h.x_wl, h.n_st, h.n_mo, h.n_ta, h.n_re, (fun j hj v => h.z_st j hj (dn _ j (by omega) v)), (fun j hj v => h.z_jm j hj (dn _ j (by omega) v)), (fun j hj v => h.z_mo j hj (dn _ j (by omega) v)), (fun j hj v => h.z_ta j hj (dn _ j (by omega) v)), (fun j hj v => h.z_re j hj (dn _ j (by omega) v)), (fun j hj v => h.z_rp j hj (dn _ j (by omega) v)), ⟨(fun z v => h.z30.1 z (dn 30 0 (by omega) v)), (fun z v => h.z30.2.1 z (dn 30 1 (by omega) v)), (fun z v => h.z30.2.2.1 z (dn 30 2 (by omega) v)), (fun z v => h.z30.2.2.2.1 z (dn 30 3 (by omega) v)), (fun z v => h.z30.2.2.2.2.1 z (dn 30 4 (by omega) v)), (fun z v => h.z30.2.2.2.2.2 z (dn 30 5 (by omega) v))⟩, (fun k v => h.z31 k (dn 31 k (by omega) v)), (Nat.le_trans h.x_co (cntB_mono nt (fun k _ hk => by
    obtain ⟨k1, k2, k3⟩ := pO1 hk
    by_cases e : k = i
    · rw [e] at k2; exact absurd hn k2
    · exact pO2 (by rw [e104n k e]; exact k1) (by rw [eR k e]; exact k2) k3)))⟩
theorem dX6_sortOf_0 : decode cX6_sortOf 0 = .ok (.iload_n 0, 1) := by decide +kernel
theorem dX6_sortOf_1 : decode cX6_sortOf 1 = .ok (.bipush 8, 2) := by decide +kernel
theorem dX6_sortOf_3 : decode cX6_sortOf 3 = .ok (.if_icmp .lt 5, 3) := by decide +kernel
theorem dX6_sortOf_6 : decode cX6_sortOf 6 = .ok (.iconst 3, 1) := by decide +kernel
theorem dX6_sortOf_7 : decode cX6_sortOf 7 = .ok (.ireturn, 1) := by decide +kernel
theorem dX6_sortOf_8 : decode cX6_sortOf 8 = .ok (.iload_n 0, 1) := by decide +kernel
theorem dX6_sortOf_9 : decode cX6_sortOf 9 = .ok (.iconst 5, 1) := by decide +kernel
theorem dX6_sortOf_10 : decode cX6_sortOf 10 = .ok (.if_icmp .lt 5, 3) := by decide +kernel
theorem dX6_sortOf_13 : decode cX6_sortOf 13 = .ok (.iconst 2, 1) := by decide +kernel
theorem dX6_sortOf_14 : decode cX6_sortOf 14 = .ok (.ireturn, 1) := by decide +kernel
theorem dX6_sortOf_15 : decode cX6_sortOf 15 = .ok (.iload_n 0, 1) := by decide +kernel
theorem dX6_sortOf_16 : decode cX6_sortOf 16 = .ok (.iconst 3, 1) := by decide +kernel
theorem dX6_sortOf_17 : decode cX6_sortOf 17 = .ok (.if_icmp .lt 7, 3) := by decide +kernel
theorem dX6_sortOf_20 : decode cX6_sortOf 20 = .ok (.iconst 1, 1) := by decide +kernel
theorem dX6_sortOf_21 : decode cX6_sortOf 21 = .ok (.goto 4, 3) := by decide +kernel
theorem dX6_sortOf_24 : decode cX6_sortOf 24 = .ok (.iconst 0, 1) := by decide +kernel
theorem dX6_sortOf_25 : decode cX6_sortOf 25 = .ok (.ireturn, 1) := by decide +kernel
theorem dX6_lengthOf_0 : decode cX6_lengthOf 0 = .ok (.iload_n 0, 1) := by decide +kernel
theorem dX6_lengthOf_1 : decode cX6_lengthOf 1 = .ok (.tableswitch 40 1 3 #[36, 34, 27], 27) := by decide +kernel
theorem dX6_lengthOf_28 : decode cX6_lengthOf 28 = .ok (.bipush 20, 2) := by decide +kernel
theorem dX6_lengthOf_30 : decode cX6_lengthOf 30 = .ok (.iload_n 1, 1) := by decide +kernel
theorem dX6_lengthOf_31 : decode cX6_lengthOf 31 = .ok (.invokestatic 68, 3) := by decide +kernel
theorem dX6_lengthOf_34 : decode cX6_lengthOf 34 = .ok (.ireturn, 1) := by decide +kernel
theorem dX6_lengthOf_35 : decode cX6_lengthOf 35 = .ok (.iload_n 1, 1) := by decide +kernel
theorem dX6_lengthOf_36 : decode cX6_lengthOf 36 = .ok (.ireturn, 1) := by decide +kernel
theorem dX6_lengthOf_37 : decode cX6_lengthOf 37 = .ok (.iload_n 1, 1) := by decide +kernel
theorem dX6_lengthOf_38 : decode cX6_lengthOf 38 = .ok (.iconst 4, 1) := by decide +kernel
theorem dX6_lengthOf_39 : decode cX6_lengthOf 39 = .ok (.idiv, 1) := by decide +kernel
theorem dX6_lengthOf_40 : decode cX6_lengthOf 40 = .ok (.ireturn, 1) := by decide +kernel
theorem dX6_lengthOf_41 : decode cX6_lengthOf 41 = .ok (.iconst 0, 1) := by decide +kernel
theorem dX6_lengthOf_42 : decode cX6_lengthOf 42 = .ok (.ireturn, 1) := by decide +kernel
theorem dX6_init_0 : decode cX6_init 0 = .ok (.aload_n 0, 1) := by decide +kernel
theorem dX6_init_1 : decode cX6_init 1 = .ok (.invokespecial 3, 3) := by decide +kernel
theorem dX6_init_4 : decode cX6_init 4 = .ok (.aload_n 0, 1) := by decide +kernel
theorem dX6_init_5 : decode cX6_init 5 = .ok (.iconst (-1), 1) := by decide +kernel
theorem dX6_init_6 : decode cX6_init 6 = .ok (.putfield 9, 3) := by decide +kernel
theorem dX6_init_9 : decode cX6_init 9 = .ok (.aload_n 0, 1) := by decide +kernel
theorem dX6_init_10 : decode cX6_init 10 = .ok (.iconst (-1), 1) := by decide +kernel
theorem dX6_init_11 : decode cX6_init 11 = .ok (.putfield 15, 3) := by decide +kernel
theorem dX6_init_14 : decode cX6_init 14 = .ok (.aload_n 0, 1) := by decide +kernel
theorem dX6_init_15 : decode cX6_init 15 = .ok (.iconst 0, 1) := by decide +kernel
theorem dX6_init_16 : decode cX6_init 16 = .ok (.putfield 18, 3) := by decide +kernel
theorem dX6_init_19 : decode cX6_init 19 = .ok (.aload_n 0, 1) := by decide +kernel
theorem dX6_init_20 : decode cX6_init 20 = .ok (.iload_n 2, 1) := by decide +kernel
theorem dX6_init_21 : decode cX6_init 21 = .ok (.putfield 21, 3) := by decide +kernel
theorem dX6_init_24 : decode cX6_init 24 = .ok (.aload_n 0, 1) := by decide +kernel
theorem dX6_init_25 : decode cX6_init 25 = .ok (.iload_n 3, 1) := by decide +kernel
theorem dX6_init_26 : decode cX6_init 26 = .ok (.putfield 24, 3) := by decide +kernel
theorem dX6_init_29 : decode cX6_init 29 = .ok (.aload_n 0, 1) := by decide +kernel
theorem dX6_init_30 : decode cX6_init 30 = .ok (.iload 4, 2) := by decide +kernel
theorem dX6_init_32 : decode cX6_init 32 = .ok (.putfield 27, 3) := by decide +kernel
theorem dX6_init_35 : decode cX6_init 35 = .ok (.aload_n 0, 1) := by decide +kernel
theorem dX6_init_36 : decode cX6_init 36 = .ok (.aload_n 1, 1) := by decide +kernel
theorem dX6_init_37 : decode cX6_init 37 = .ok (.getfield 30, 3) := by decide +kernel
theorem dX6_init_40 : decode cX6_init 40 = .ok (.invokestatic 35, 3) := by decide +kernel
theorem dX6_init_43 : decode cX6_init 43 = .ok (.putfield 39, 3) := by decide +kernel
theorem dX6_init_46 : decode cX6_init 46 = .ok (.aload_n 0, 1) := by decide +kernel
theorem dX6_init_47 : decode cX6_init 47 = .ok (.aload_n 1, 1) := by decide +kernel
theorem dX6_init_48 : decode cX6_init 48 = .ok (.getfield 42, 3) := by decide +kernel
theorem dX6_init_51 : decode cX6_init 51 = .ok (.iload 4, 2) := by decide +kernel
theorem dX6_init_53 : decode cX6_init 53 = .ok (.imul, 1) := by decide +kernel
theorem dX6_init_54 : decode cX6_init 54 = .ok (.bipush 18, 2) := by decide +kernel
theorem dX6_init_56 : decode cX6_init 56 = .ok (.idiv, 1) := by decide +kernel
theorem dX6_init_57 : decode cX6_init 57 = .ok (.putfield 45, 3) := by decide +kernel
theorem dX6_init_60 : decode cX6_init 60 = .ok (.aload_n 0, 1) := by decide +kernel
theorem dX6_init_61 : decode cX6_init 61 = .ok (.aload_n 0, 1) := by decide +kernel
theorem dX6_init_62 : decode cX6_init 62 = .ok (.getfield 39, 3) := by decide +kernel
theorem dX6_init_65 : decode cX6_init 65 = .ok (.aload_n 0, 1) := by decide +kernel
theorem dX6_init_66 : decode cX6_init 66 = .ok (.getfield 45, 3) := by decide +kernel
theorem dX6_init_69 : decode cX6_init 69 = .ok (.invokestatic 48, 3) := by decide +kernel
theorem dX6_init_72 : decode cX6_init 72 = .ok (.putfield 52, 3) := by decide +kernel
theorem dX6_init_75 : decode cX6_init 75 = .ok (.aload_n 0, 1) := by decide +kernel
theorem dX6_init_76 : decode cX6_init 76 = .ok (.aload_n 1, 1) := by decide +kernel
theorem dX6_init_77 : decode cX6_init 77 = .ok (.getfield 55, 3) := by decide +kernel
theorem dX6_init_80 : decode cX6_init 80 = .ok (.iconst 1, 1) := by decide +kernel
theorem dX6_init_81 : decode cX6_init 81 = .ok (.iload 4, 2) := by decide +kernel
theorem dX6_init_83 : decode cX6_init 83 = .ok (.ishl, 1) := by decide +kernel
theorem dX6_init_84 : decode cX6_init 84 = .ok (.iconst 1, 1) := by decide +kernel
theorem dX6_init_85 : decode cX6_init 85 = .ok (.isub, 1) := by decide +kernel
theorem dX6_init_86 : decode cX6_init 86 = .ok (.iand, 1) := by decide +kernel
theorem dX6_init_87 : decode cX6_init 87 = .ok (.putfield 58, 3) := by decide +kernel
theorem dX6_init_90 : decode cX6_init 90 = .ok (.aload_n 0, 1) := by decide +kernel
theorem dX6_init_91 : decode cX6_init 91 = .ok (.iload 4, 2) := by decide +kernel
theorem dX6_init_93 : decode cX6_init 93 = .ok (.bipush 14, 2) := by decide +kernel
theorem dX6_init_95 : decode cX6_init 95 = .ok (.if_icmp .gt 22, 3) := by decide +kernel
theorem dX6_init_98 : decode cX6_init 98 = .ok (.aload_n 1, 1) := by decide +kernel
theorem dX6_init_99 : decode cX6_init 99 = .ok (.getfield 55, 3) := by decide +kernel
theorem dX6_init_102 : decode cX6_init 102 = .ok (.iload 4, 2) := by decide +kernel
theorem dX6_init_104 : decode cX6_init 104 = .ok (.invokestatic 61, 3) := by decide +kernel
theorem dX6_init_107 : decode cX6_init 107 = .ok (.ifCond .eq 10, 3) := by decide +kernel
theorem dX6_init_110 : decode cX6_init 110 = .ok (.iload 4, 2) := by decide +kernel
theorem dX6_init_112 : decode cX6_init 112 = .ok (.iconst 1, 1) := by decide +kernel
theorem dX6_init_113 : decode cX6_init 113 = .ok (.iadd, 1) := by decide +kernel
theorem dX6_init_114 : decode cX6_init 114 = .ok (.goto 4, 3) := by decide +kernel
theorem dX6_init_117 : decode cX6_init 117 = .ok (.iconst (-1), 1) := by decide +kernel
theorem dX6_init_118 : decode cX6_init 118 = .ok (.putfield 65, 3) := by decide +kernel
theorem dX6_init_121 : decode cX6_init 121 = .ok (.return_, 1) := by decide +kernel
theorem dX4_file_0 : decode cX4_file 0 = .ok (.aload_n 2, 1) := by decide +kernel
theorem dX4_file_1 : decode cX4_file 1 = .ok (.getfield 51, 3) := by decide +kernel
theorem dX4_file_4 : decode cX4_file 4 = .ok (.iconst 2, 1) := by decide +kernel
theorem dX4_file_5 : decode cX4_file 5 = .ok (.if_icmp .eq 11, 3) := by decide +kernel
theorem dX4_file_8 : decode cX4_file 8 = .ok (.aload_n 2, 1) := by decide +kernel
theorem dX4_file_9 : decode cX4_file 9 = .ok (.getfield 51, 3) := by decide +kernel
theorem dX4_file_12 : decode cX4_file 12 = .ok (.iconst 1, 1) := by decide +kernel
theorem dX4_file_13 : decode cX4_file 13 = .ok (.if_icmp .ne 7, 3) := by decide +kernel
theorem dX4_file_16 : decode cX4_file 16 = .ok (.iconst 1, 1) := by decide +kernel
theorem dX4_file_17 : decode cX4_file 17 = .ok (.goto 4, 3) := by decide +kernel
theorem dX4_file_20 : decode cX4_file 20 = .ok (.iconst 0, 1) := by decide +kernel
theorem dX4_file_21 : decode cX4_file 21 = .ok (.istore_n 3, 1) := by decide +kernel
theorem dX4_file_22 : decode cX4_file 22 = .ok (.aload_n 2, 1) := by decide +kernel
theorem dX4_file_23 : decode cX4_file 23 = .ok (.getfield 51, 3) := by decide +kernel
theorem dX4_file_26 : decode cX4_file 26 = .ok (.ifCond .ne 11, 3) := by decide +kernel
theorem dX4_file_29 : decode cX4_file 29 = .ok (.aload_n 2, 1) := by decide +kernel
theorem dX4_file_30 : decode cX4_file 30 = .ok (.iconst 4, 1) := by decide +kernel
theorem dX4_file_31 : decode cX4_file 31 = .ok (.putfield 56, 3) := by decide +kernel
theorem dX4_file_34 : decode cX4_file 34 = .ok (.goto 37, 3) := by decide +kernel
theorem dX4_file_37 : decode cX4_file 37 = .ok (.iload_n 3, 1) := by decide +kernel
theorem dX4_file_38 : decode cX4_file 38 = .ok (.ifCond .eq 28, 3) := by decide +kernel
theorem dX4_file_41 : decode cX4_file 41 = .ok (.aload_n 0, 1) := by decide +kernel
theorem dX4_file_42 : decode cX4_file 42 = .ok (.getfield 59, 3) := by decide +kernel
theorem dX4_file_45 : decode cX4_file 45 = .ok (.aload_n 1, 1) := by decide +kernel
theorem dX4_file_46 : decode cX4_file 46 = .ok (.getfield 44, 3) := by decide +kernel
theorem dX4_file_49 : decode cX4_file 49 = .ok (.getfield 62, 3) := by decide +kernel
theorem dX4_file_52 : decode cX4_file 52 = .ok (.invokestatic 67, 3) := by decide +kernel
theorem dX4_file_55 : decode cX4_file 55 = .ok (.ifCond .eq 11, 3) := by decide +kernel
theorem dX4_file_58 : decode cX4_file 58 = .ok (.aload_n 2, 1) := by decide +kernel
theorem dX4_file_59 : decode cX4_file 59 = .ok (.iconst 3, 1) := by decide +kernel
theorem dX4_file_60 : decode cX4_file 60 = .ok (.putfield 56, 3) := by decide +kernel
theorem dX4_file_63 : decode cX4_file 63 = .ok (.goto 8, 3) := by decide +kernel
theorem dX4_file_66 : decode cX4_file 66 = .ok (.aload_n 2, 1) := by decide +kernel
theorem dX4_file_67 : decode cX4_file 67 = .ok (.iconst 0, 1) := by decide +kernel
theorem dX4_file_68 : decode cX4_file 68 = .ok (.putfield 56, 3) := by decide +kernel
theorem dX4_file_71 : decode cX4_file 71 = .ok (.aload_n 1, 1) := by decide +kernel
theorem dX4_file_72 : decode cX4_file 72 = .ok (.aload_n 2, 1) := by decide +kernel
theorem dX4_file_73 : decode cX4_file 73 = .ok (.putfield 71, 3) := by decide +kernel
theorem dX4_file_76 : decode cX4_file 76 = .ok (.return_, 1) := by decide +kernel
theorem rh_step {S T : HS} {nt k2 q1 : Nat} {a b ql r1 r2 rL r3 r4 x9 : Int32} (hRH : ∀ j, j < nt → (mR T 152 j = none → ¬ vV T 6 j) ∧ (mR T 152 j ≠ none → mI S 146 j < mI S 164 0 ∨ (mI S 146 j = mI S 164 0 ∧ j < k2))) (hk : k2 < nt) (hth : mI S 146 k2 = mI S 164 0) :
    ∀ j, j < nt → (mR (sR (sI (rep6 (sNew T 6 k2 q1) k2 a b ql r1 r2 rL r3 r4) 104 k2 x9) 152 k2 (some (gG (sNew T 6 k2 q1) 6 k2))) 152 j = none → ¬ vV (sR (sI (rep6 (sNew T 6 k2 q1) k2 a b ql r1 r2 rL r3 r4) 104 k2 x9) 152 k2 (some (gG (sNew T 6 k2 q1) 6 k2))) 6 j) ∧ (mR (sR (sI (rep6 (sNew T 6 k2 q1) k2 a b ql r1 r2 rL r3 r4) 104 k2 x9) 152 k2 (some (gG (sNew T 6 k2 q1) 6 k2))) 152 j ≠ none → mI S 146 j < mI S 164 0 ∨ (mI S 146 j = mI S 164 0 ∧ j < k2 + 1)) := by
  intro j hj
  by_cases e : j = k2
  · refine ⟨fun z => ?_, fun _ => Or.inr ⟨by rw [e]; exact hth, by omega⟩⟩
    rw [e, show mR (sR (sI (rep6 (sNew T 6 k2 q1) k2 a b ql r1 r2 rL r3 r4) 104 k2 x9) 152 k2 (some (gG (sNew T 6 k2 q1) 6 k2))) 152 k2 = some (gG (sNew T 6 k2 q1) 6 k2) from up2_s _ _ _ _] at z
    exact absurd z (Option.some_ne_none _)
  · have e1 : mR (sR (sI (rep6 (sNew T 6 k2 q1) k2 a b ql r1 r2 rL r3 r4) 104 k2 x9) 152 k2 (some (gG (sNew T 6 k2 q1) 6 k2))) 152 j = mR T 152 j := up2_n (fun y => e y.2)
    rw [e1]
    refine ⟨fun z v => ?_, fun z => ((hRH j hj).2 z).imp id (fun y => ⟨y.1, by omega⟩)⟩
    exact v.elim ((hRH j hj).1 z) (fun y => e y.2)

theorem dX10_endHour_0 : decode cX10_endHour 0 = .ok (.iconst 0, 1) := by decide +kernel
theorem dX10_endHour_1 : decode cX10_endHour 1 = .ok (.istore_n 1, 1) := by decide +kernel
theorem dX10_endHour_2 : decode cX10_endHour 2 = .ok (.iload_n 1, 1) := by decide +kernel
theorem dX10_endHour_3 : decode cX10_endHour 3 = .ok (.aload_n 0, 1) := by decide +kernel
theorem dX10_endHour_4 : decode cX10_endHour 4 = .ok (.getfield 28, 3) := by decide +kernel
theorem dX10_endHour_7 : decode cX10_endHour 7 = .ok (.getfield 162, 3) := by decide +kernel
theorem dX10_endHour_10 : decode cX10_endHour 10 = .ok (.invokevirtual 66, 3) := by decide +kernel
theorem dX10_endHour_13 : decode cX10_endHour 13 = .ok (.if_icmp .ge 105, 3) := by decide +kernel
theorem dX10_endHour_16 : decode cX10_endHour 16 = .ok (.aload_n 0, 1) := by decide +kernel
theorem dX10_endHour_17 : decode cX10_endHour 17 = .ok (.getfield 28, 3) := by decide +kernel
theorem dX10_endHour_20 : decode cX10_endHour 20 = .ok (.getfield 162, 3) := by decide +kernel
theorem dX10_endHour_23 : decode cX10_endHour 23 = .ok (.iload_n 1, 1) := by decide +kernel
theorem dX10_endHour_24 : decode cX10_endHour 24 = .ok (.invokevirtual 417, 3) := by decide +kernel
theorem dX10_endHour_27 : decode cX10_endHour 27 = .ok (.checkcast 177, 3) := by decide +kernel
theorem dX10_endHour_30 : decode cX10_endHour 30 = .ok (.astore_n 2, 1) := by decide +kernel
theorem dX10_endHour_31 : decode cX10_endHour 31 = .ok (.aload_n 2, 1) := by decide +kernel
theorem dX10_endHour_32 : decode cX10_endHour 32 = .ok (.getfield 333, 3) := by decide +kernel
theorem dX10_endHour_35 : decode cX10_endHour 35 = .ok (.aload_n 0, 1) := by decide +kernel
theorem dX10_endHour_36 : decode cX10_endHour 36 = .ok (.getfield 41, 3) := by decide +kernel
theorem dX10_endHour_39 : decode cX10_endHour 39 = .ok (.if_icmp .ne 21, 3) := by decide +kernel
theorem dX10_endHour_42 : decode cX10_endHour 42 = .ok (.aload_n 0, 1) := by decide +kernel
theorem dX10_endHour_43 : decode cX10_endHour 43 = .ok (.getfield 21, 3) := by decide +kernel
theorem dX10_endHour_46 : decode cX10_endHour 46 = .ok (.aload_n 2, 1) := by decide +kernel
theorem dX10_endHour_47 : decode cX10_endHour 47 = .ok (.getfield 326, 3) := by decide +kernel
theorem dX10_endHour_50 : decode cX10_endHour 50 = .ok (.aload_n 0, 1) := by decide +kernel
theorem dX10_endHour_51 : decode cX10_endHour 51 = .ok (.invokevirtual 411, 3) := by decide +kernel
theorem dX10_endHour_54 : decode cX10_endHour 54 = .ok (.invokevirtual 374, 3) := by decide +kernel
theorem dX10_endHour_57 : decode cX10_endHour 57 = .ok (.goto 4, 3) := by decide +kernel
theorem dX10_endHour_60 : decode cX10_endHour 60 = .ok (.iconst (-1), 1) := by decide +kernel
theorem dX10_endHour_61 : decode cX10_endHour 61 = .ok (.istore_n 3, 1) := by decide +kernel
theorem dX10_endHour_62 : decode cX10_endHour 62 = .ok (.iload_n 3, 1) := by decide +kernel
theorem dX10_endHour_63 : decode cX10_endHour 63 = .ok (.iconst (-1), 1) := by decide +kernel
theorem dX10_endHour_64 : decode cX10_endHour 64 = .ok (.if_icmp .eq 48, 3) := by decide +kernel
theorem dX10_endHour_67 : decode cX10_endHour 67 = .ok (.aload_n 0, 1) := by decide +kernel
theorem dX10_endHour_68 : decode cX10_endHour 68 = .ok (.getfield 21, 3) := by decide +kernel
theorem dX10_endHour_71 : decode cX10_endHour 71 = .ok (.aload_n 0, 1) := by decide +kernel
theorem dX10_endHour_72 : decode cX10_endHour 72 = .ok (.invokevirtual 411, 3) := by decide +kernel
theorem dX10_endHour_75 : decode cX10_endHour 75 = .ok (.iload_n 3, 1) := by decide +kernel
theorem dX10_endHour_76 : decode cX10_endHour 76 = .ok (.invokevirtual 377, 3) := by decide +kernel
theorem dX10_endHour_79 : decode cX10_endHour 79 = .ok (.istore 4, 2) := by decide +kernel
theorem dX10_endHour_81 : decode cX10_endHour 81 = .ok (.aload_n 0, 1) := by decide +kernel
theorem dX10_endHour_82 : decode cX10_endHour 82 = .ok (.getfield 28, 3) := by decide +kernel
theorem dX10_endHour_85 : decode cX10_endHour 85 = .ok (.aload_n 2, 1) := by decide +kernel
theorem dX10_endHour_86 : decode cX10_endHour 86 = .ok (.new 202, 3) := by decide +kernel
theorem dX10_endHour_89 : decode cX10_endHour 89 = .ok (.dup, 1) := by decide +kernel
theorem dX10_endHour_90 : decode cX10_endHour 90 = .ok (.aload_n 2, 1) := by decide +kernel
theorem dX10_endHour_91 : decode cX10_endHour 91 = .ok (.iload_n 3, 1) := by decide +kernel
theorem dX10_endHour_92 : decode cX10_endHour 92 = .ok (.aload_n 0, 1) := by decide +kernel
theorem dX10_endHour_93 : decode cX10_endHour 93 = .ok (.getfield 21, 3) := by decide +kernel
theorem dX10_endHour_96 : decode cX10_endHour 96 = .ok (.aload_n 0, 1) := by decide +kernel
theorem dX10_endHour_97 : decode cX10_endHour 97 = .ok (.invokevirtual 411, 3) := by decide +kernel
theorem dX10_endHour_100 : decode cX10_endHour 100 = .ok (.iload_n 3, 1) := by decide +kernel
theorem dX10_endHour_101 : decode cX10_endHour 101 = .ok (.invokevirtual 259, 3) := by decide +kernel
theorem dX10_endHour_104 : decode cX10_endHour 104 = .ok (.iload 4, 2) := by decide +kernel
theorem dX10_endHour_106 : decode cX10_endHour 106 = .ok (.invokespecial 421, 3) := by decide +kernel
theorem dX10_endHour_109 : decode cX10_endHour 109 = .ok (.invokevirtual 424, 3) := by decide +kernel
theorem dX10_endHour_112 : decode cX10_endHour 112 = .ok (.iinc 1 1, 3) := by decide +kernel
theorem dX10_endHour_115 : decode cX10_endHour 115 = .ok (.goto (-113), 3) := by decide +kernel
theorem dX10_endHour_118 : decode cX10_endHour 118 = .ok (.aload_n 0, 1) := by decide +kernel
theorem dX10_endHour_119 : decode cX10_endHour 119 = .ok (.getfield 21, 3) := by decide +kernel
theorem dX10_endHour_122 : decode cX10_endHour 122 = .ok (.aload_n 0, 1) := by decide +kernel
theorem dX10_endHour_123 : decode cX10_endHour 123 = .ok (.invokevirtual 411, 3) := by decide +kernel
theorem dX10_endHour_126 : decode cX10_endHour 126 = .ok (.invokevirtual 428, 3) := by decide +kernel
theorem dX10_endHour_129 : decode cX10_endHour 129 = .ok (.aload_n 0, 1) := by decide +kernel
theorem dX10_endHour_130 : decode cX10_endHour 130 = .ok (.getfield 28, 3) := by decide +kernel
theorem dX10_endHour_133 : decode cX10_endHour 133 = .ok (.aload_n 0, 1) := by decide +kernel
theorem dX10_endHour_134 : decode cX10_endHour 134 = .ok (.getfield 41, 3) := by decide +kernel
theorem dX10_endHour_137 : decode cX10_endHour 137 = .ok (.invokevirtual 431, 3) := by decide +kernel
theorem dX10_endHour_140 : decode cX10_endHour 140 = .ok (.aload_n 0, 1) := by decide +kernel
theorem dX10_endHour_141 : decode cX10_endHour 141 = .ok (.getfield 28, 3) := by decide +kernel
theorem dX10_endHour_144 : decode cX10_endHour 144 = .ok (.aload_n 0, 1) := by decide +kernel
theorem dX10_endHour_145 : decode cX10_endHour 145 = .ok (.getfield 41, 3) := by decide +kernel
theorem dX10_endHour_148 : decode cX10_endHour 148 = .ok (.invokevirtual 434, 3) := by decide +kernel
theorem dX10_endHour_151 : decode cX10_endHour 151 = .ok (.aload_n 0, 1) := by decide +kernel
theorem dX10_endHour_152 : decode cX10_endHour 152 = .ok (.dup, 1) := by decide +kernel
theorem dX10_endHour_153 : decode cX10_endHour 153 = .ok (.getfield 41, 3) := by decide +kernel
theorem dX10_endHour_156 : decode cX10_endHour 156 = .ok (.iconst 1, 1) := by decide +kernel
theorem dX10_endHour_157 : decode cX10_endHour 157 = .ok (.iadd, 1) := by decide +kernel
theorem dX10_endHour_158 : decode cX10_endHour 158 = .ok (.putfield 41, 3) := by decide +kernel
theorem dX10_endHour_161 : decode cX10_endHour 161 = .ok (.aload_n 0, 1) := by decide +kernel
theorem dX10_endHour_162 : decode cX10_endHour 162 = .ok (.invokevirtual 411, 3) := by decide +kernel
theorem dX10_endHour_165 : decode cX10_endHour 165 = .ok (.ifCond .ne 13, 3) := by decide +kernel
theorem dX10_endHour_168 : decode cX10_endHour 168 = .ok (.aload_n 0, 1) := by decide +kernel
theorem dX10_endHour_169 : decode cX10_endHour 169 = .ok (.getfield 28, 3) := by decide +kernel
theorem dX10_endHour_172 : decode cX10_endHour 172 = .ok (.sipush 600, 3) := by decide +kernel
theorem dX10_endHour_175 : decode cX10_endHour 175 = .ok (.putfield 437, 3) := by decide +kernel
theorem dX10_endHour_178 : decode cX10_endHour 178 = .ok (.return_, 1) := by decide +kernel
