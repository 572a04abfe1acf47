def fiS (so p l : Int32) : Int32 := if so = 0 then 4 else if (so = 2 ∨ so = 1) ∧ sIn p l = true then 3 else 0
theorem rSort_c (w : Int32) : rSort w = 0 ∨ rSort w = 1 ∨ rSort w = 2 ∨ rSort w = 3 := by
  unfold rSort
  split
  · exact Or.inr (Or.inr (Or.inr rfl))
  · split
    · exact Or.inr (Or.inr (Or.inl rfl))
    · split
      · exact Or.inr (Or.inl rfl)
      · exact Or.inl rfl
theorem recS_eq {A : HS} {j : Nat} {so p l : Int32} (e1 : so = rSort (mI A 244 j)) (e2 : p = mI A 259 0) (e3 : l = mI A 226 (tS A j)) : fiS so p l = recS A j := by
  unfold fiS recS
  rw [e1, e2, e3]
  by_cases c : sIn (mI A 259 0) (mI A 226 (tS A j)) = true
  · rcases rSort_c (mI A 244 j) with z | z | z | z <;> rw [z, c] <;> decide
  · have c2 : sIn (mI A 259 0) (mI A 226 (tS A j)) = false := Bool.eq_false_iff.mpr c
    rcases rSort_c (mI A 244 j) with z | z | z | z <;> rw [z, c2] <;> decide
theorem fiS_0 {so p l : Int32} (h : fiS so p l = 0) : ¬ so = 0 := fun z => by
  unfold fiS at h
  rw [if_pos z] at h; exact absurd h (by decide)
theorem fiS_1 {so p l : Int32} : ¬ fiS so p l = 1 := fun h => by
  unfold fiS at h
  split at h
  · exact absurd h (by decide)
  · split at h <;> exact absurd h (by decide)
theorem fiS_m {so p l : Int32} : ¬ fiS so p l = -1 := fun h => by
  unfold fiS at h
  split at h
  · exact absurd h (by decide)
  · split at h <;> exact absurd h (by decide)
theorem hod {S : HS} {g : Nat} (e : mI S 164 0 = nI g) (hg : g < 1000) : mI S 164 0 - mI S 164 0 / 24 * 24 = nI (g % 24) := by
  rw [e]; exact pk_rem (d := 24) (by omega) (by decide) (by decide)
section REC
variable {A : HS} {ns nj g k : Nat}
theorem recL_f (h : ¬ mI (recL A ns nj g k) 241 k = nI g) : recL A ns nj g (k + 1) = recL A ns nj g k := if_neg (fun z => h ((show mI (recL A ns nj g k) 241 k = mI A 241 k from (km_recL k).I rfl).trans z))
theorem recL_t (h : mI (recL A ns nj g k) 241 k = nI g) : recL A ns nj g (k + 1) = recA (recL A ns nj g k) ns nj (g % 24) k := if_pos ((show mI (recL A ns nj g k) 241 k = mI A 241 k from (km_recL k).I rfl).symm.trans h)
theorem recL_0 (h : mI (recL A ns nj g k) 241 k = nI g) (e : rRec (recL A ns nj g k) ns nj k (g % 24) 3 = -1) : recL A ns nj g (k + 1) = recL A ns nj g k := (recL_t h).trans (if_pos e)
theorem recL_1 {b : Nat} (h : mI (recL A ns nj g k) 241 k = nI g) (hb : b < 3) (e : rRec (recL A ns nj g k) ns nj k (g % 24) 3 = nI b) : recL A ns nj g (k + 1) = recB (recL A ns nj g k) ns nj (g % 24) k b := by
  rw [recL_t h]
  unfold recA
  rw [e, if_neg (nI_neg1 (by omega)), nI_clamp (by omega)]
theorem hoA_t {nm nt nr : Nat} (e : nI ((g + 1) % 24) = 0) : hoA A ns nj nm nt nr g = sI (sI (hoB A ns nj nm nt nr g) 257 0 (nI (g + 1))) 258 0 600 := if_pos ((nI_eq (a := (g + 1) % 24) (b := 0) (by omega) (by decide)).mp e)
theorem hoA_f {nm nt nr : Nat} (e : ¬ nI ((g + 1) % 24) = 0) : hoA A ns nj nm nt nr g = sI (hoB A ns nj nm nt nr g) 257 0 (nI (g + 1)) := if_neg (fun z => e (by rw [z]; rfl))
end REC

theorem RK.new6 {S A : HS} {ns nj nm nt nr nc : Nat} {j q : Nat} (hn : mR S 152 j = none) (h : RK S A ns nj nm nt nr nc) : RK (sNew S 6 j q) (A) ns nj nm nt nr nc := by
  exact ⟨h.rc, h.ok, h.mo, h.re, h.pr, (fun i hi => by
    by_cases e : i = j
    · subst e
      rcases h.rp i hi with z | ⟨p0, -⟩
      · exact Or.inl z
      · rw [hn] at p0; exact absurd p0.symm (Option.some_ne_none _)
    · have f96 : mI (sNew S 6 j q) 96 i = mI S 96 i := by simp [mI, mR, sI, sR, sNew, rep6, up2, e]
      have f97 : mI (sNew S 6 j q) 97 i = mI S 97 i := by simp [mI, mR, sI, sR, sNew, rep6, up2, e]
      have f98 : mI (sNew S 6 j q) 98 i = mI S 98 i := by simp [mI, mR, sI, sR, sNew, rep6, up2, e]
      have f99 : mI (sNew S 6 j q) 99 i = mI S 99 i := by simp [mI, mR, sI, sR, sNew, rep6, up2, e]
      have f100 : mI (sNew S 6 j q) 100 i = mI S 100 i := by simp [mI, mR, sI, sR, sNew, rep6, up2, e]
      have f101 : mI (sNew S 6 j q) 101 i = mI S 101 i := by simp [mI, mR, sI, sR, sNew, rep6, up2, e]
      have f102 : mI (sNew S 6 j q) 102 i = mI S 102 i := by simp [mI, mR, sI, sR, sNew, rep6, up2, e]
      have f103 : mI (sNew S 6 j q) 103 i = mI S 103 i := by simp [mI, mR, sI, sR, sNew, rep6, up2, e]
      have f104 : mI (sNew S 6 j q) 104 i = mI S 104 i := by simp [mI, mR, sI, sR, sNew, rep6, up2, e]
      have f105 : mI (sNew S 6 j q) 105 i = mI S 105 i := by simp [mI, mR, sI, sR, sNew, rep6, up2, e]
      have f106 : mI (sNew S 6 j q) 106 i = mI S 106 i := by simp [mI, mR, sI, sR, sNew, rep6, up2, e]
      have f107 : mI (sNew S 6 j q) 107 i = mI S 107 i := by simp [mI, mR, sI, sR, sNew, rep6, up2, e]
      have f108 : mI (sNew S 6 j q) 108 i = mI S 108 i := by simp [mI, mR, sI, sR, sNew, rep6, up2, e]
      have g9 : gG (sNew S 6 j q) 6 i = gG S 6 i := up2_n (fun y => e y.2)
      have y := h.rp i hi
      unfold RCr RCf at y ⊢
      rw [f96, f97, f98, f99, f100, f101, f102, f103, f104, f105, f106, f107, f108, g9]
      exact y.imp id (fun z => ⟨z.1, Or.inl z.2.1, z.2.2⟩)), h.wi, h.tu, h.qu, h.q1, h.q2, h.q3, h.q4, h.q6, h.q7, h.q8, h.q9, h.rz⟩
abbrev rm_e_X6_sortOf : Room := { frames := 0, cells := 0, slots := 0, locals := 0 }
set_option maxHeartbeats 4000000 in
set_option maxRecDepth 100000 in
theorem e_X6_sortOf {s0 : State} {l : Launch} {D : va_G} {cy : Nat → ClassId} (G : Gl s0 l D cy) (S : HS) (a : Int32) : Ctr s0 l D cy yX6_sortOf cX6_sortOf 1 (some .int) rm_e_X6_sortOf S [.int a] (PU S (some (.int (rSort a)))) := by
  refine pro "CavershamShift$Report" G rfl rfl (Nat.le_of_ble_eq_true rfl) (fun p e s m below meth c ls X w hnm hl => ?_)
  have hx := X.1
  have hb := X.2.1
  have hown := X.2.2.2.1
  have hts := X.2.2.2.2.1
  have hl : lv_has ls 1 [(0, .int a)] := hl
  refine lv_iload_n hx hb dX6_sortOf_0 rfl (lv_at hl 0 rfl) ?_
  refine lv_bipush (v := 8) hx hb dX6_sortOf_1 (by decide) ?_
  refine lv_icmp_lt (tgt := 8) hx hb dX6_sortOf_3 (by decide) (fun hc1 => ?_) (fun hc1 => ?_)
  · refine lv_iload_n hx hb dX6_sortOf_8 rfl (lv_at hl 0 rfl) ?_
    refine lv_iconst (v := 5) hx hb dX6_sortOf_9 (by decide) ?_
    refine lv_icmp_lt (tgt := 15) hx hb dX6_sortOf_10 (by decide) (fun hc2 => ?_) (fun hc2 => ?_)
    · refine lv_iload_n hx hb dX6_sortOf_15 rfl (lv_at hl 0 rfl) ?_
      refine lv_iconst (v := 3) hx hb dX6_sortOf_16 (by decide) ?_
      refine lv_icmp_lt (tgt := 24) hx hb dX6_sortOf_17 (by decide) (fun hc3 => ?_) (fun hc3 => ?_)
      · refine lv_iconst (v := 0) hx hb dX6_sortOf_24 (by decide) ?_
        exact rI X w rfl dX6_sortOf_25 (by decide) (by decide) (pu_i (by simp_all [rSort, ← Int32.not_lt]))
      · refine lv_iconst (v := 1) hx hb dX6_sortOf_20 (by decide) ?_
        refine lv_goto (tgt := 25) hx hb dX6_sortOf_21 (by decide) ?_
        exact rI X w rfl dX6_sortOf_25 (by decide) (by decide) (pu_i (by simp_all [rSort, ← Int32.not_lt]))
    · refine lv_iconst (v := 2) hx hb dX6_sortOf_13 (by decide) ?_
      exact rI X w rfl dX6_sortOf_14 (by decide) (by decide) (pu_i (by simp_all [rSort, ← Int32.not_lt]))
  · refine lv_iconst (v := 3) hx hb dX6_sortOf_6 (by decide) ?_
    exact rI X w rfl dX6_sortOf_7 (by decide) (by decide) (pu_i (by simp_all [rSort, ← Int32.not_lt]))

abbrev rm_e_X6_lengthOf : Room := { frames := 1, cells := 0, slots := 0, locals := 21 }
set_option maxHeartbeats 4000000 in
set_option maxRecDepth 100000 in
theorem e_X6_lengthOf {s0 : State} {l : Launch} {D : va_G} {cy : Nat → ClassId} (G : Gl s0 l D cy) (S : HS) (s9 c9 : Int32) : Ctr s0 l D cy yX6_lengthOf cX6_lengthOf 2 (some .int) rm_e_X6_lengthOf S [.int s9, .int c9] (PU S (some (.int (lenF s9 c9)))) := by
  refine pro "CavershamShift$Report" G rfl rfl (Nat.le_of_ble_eq_true rfl) (fun p e s m below meth c ls X w hnm hl => ?_)
  have hx := X.1
  have hb := X.2.1
  have hown := X.2.2.2.1
  have hts := X.2.2.2.2.1
  have hl : lv_has ls 2 [(0, .int s9), (1, .int c9)] := hl
  refine lv_iload_n hx hb dX6_lengthOf_0 rfl (lv_at hl 0 rfl) ?_
  by_cases hw_1 : (s9 : Int32).toInt = 1
  · refine lv_tableIn (off := 36) (tgt := 37) hx hb dX6_lengthOf_1 (by omega) (by omega) (by rw [hw_1]; rfl) (by decide) ?_
    refine lv_iload_n hx hb dX6_lengthOf_37 rfl (lv_at hl 1 rfl) ?_
    refine lv_iconst (v := 4) hx hb dX6_lengthOf_38 (by decide) ?_
    refine lv_idiv hx hb dX6_lengthOf_39 (by decide) ?_
    exact rI X w rfl dX6_lengthOf_40 (by decide) (by decide) (pu_i (by unfold lenF; rw [toI_eq (n := 1) (by decide) hw_1, if_neg (by decide), if_neg (by decide), if_pos (by decide)]))
  by_cases hw_2 : (s9 : Int32).toInt = 2
  · refine lv_tableIn (off := 34) (tgt := 35) hx hb dX6_lengthOf_1 (by omega) (by omega) (by rw [hw_2]; rfl) (by decide) ?_
    refine lv_iload_n hx hb dX6_lengthOf_35 rfl (lv_at hl 1 rfl) ?_
    exact rI X w rfl dX6_lengthOf_36 (by decide) (by decide) (pu_i (by unfold lenF; rw [toI_eq (n := 2) (by decide) hw_2, if_neg (by decide), if_pos (by decide)]))
  by_cases hw_3 : (s9 : Int32).toInt = 3
  · refine lv_tableIn (off := 27) (tgt := 28) hx hb dX6_lengthOf_1 (by omega) (by omega) (by rw [hw_3]; rfl) (by decide) ?_
    refine lv_bipush (v := 20) hx hb dX6_lengthOf_28 (by decide) ?_
    refine lv_iload_n hx hb dX6_lengthOf_30 rfl (lv_at hl 1 rfl) ?_
    refine va_mmin hx hb (X.2.2.1.trans hl.1.symm) hown (hts _ wM_X6_68) (hts _ wSt_J9_min_7cf53) (hts _ wI_J9) (hts _ wY_J9_min_7cf53) (by decide) (Nat.le_of_ble_eq_true rfl) (Nat.le_of_ble_eq_true rfl) (Nat.le_of_ble_eq_true rfl) dX6_lengthOf_31 ?_
    exact rI X w rfl dX6_lengthOf_34 (by decide) (by decide) (pu_i (by unfold lenF; rw [toI_eq (n := 3) (by decide) hw_3, if_pos (by decide)]; rfl))
  refine lv_tableOut (tgt := 41) hx hb dX6_lengthOf_1 (by omega) (by decide) ?_
  refine lv_iconst (v := 0) hx hb dX6_lengthOf_41 (by decide) ?_
  exact rI X w rfl dX6_lengthOf_42 (by decide) (by decide) (pu_i (by unfold lenF; rw [if_neg (fun z => hw_3 (by rw [z]; decide)), if_neg (fun z => hw_2 (by rw [z]; decide)), if_neg (fun z => hw_1 (by rw [z]; decide))]))

abbrev rm_e_X6_init : Room := { frames := 2, cells := 0, slots := 0, locals := 42 }
set_option maxHeartbeats 4000000 in
set_option maxRecDepth 100000 in
theorem e_X6_init {s0 : State} {l : Launch} {D : va_G} {cy : Nat → ClassId} (G : Gl s0 l D cy) (S : HS) (i j ql f : Nat) (a b : Int32) (hV : vV S 6 i) (hV9 : vV S 9 j) (hq : ql ≤ 18) (hf : f < 65536) (hf5 : mI S 150 j = nI f) : Ctr s0 l D cy yX6_init cX6_init 5 none rm_e_X6_init S [.ref (gG S 6 i), .ref (gG S 9 j), .int a, .int b, .int (nI ql)] (fun v S' => none = v ∧ S' = rep6 S i a b (nI ql) (rSort (mI S 149 j)) (rCaught (mI S 148 j) (nI ql)) (rLen (mI S 149 j) (mI S 148 j) (nI ql)) (rHeard (mI S 150 j) (nI ql)) (rGuess (mI S 150 j) (nI ql))) := by
  refine pro "CavershamShift$Report" G rfl rfl (Nat.le_of_ble_eq_true rfl) (fun p e s m below meth c ls X w hnm hl => ?_)
  have hx := X.1
  have hb := X.2.1
  have hown := X.2.2.2.1
  have hts := X.2.2.2.2.1
  have hin2 : meth.name = "<init>" := hnm
  have hl : lv_has ls 5 [(0, .ref (gG S 6 i)), (1, .ref (gG S 9 j)), (2, .int a), (3, .int b), (4, .int (nI ql))] := hl
  refine lv_aload_n hx hb dX6_init_0 rfl (lv_at hl 0 rfl) ?_
  refine W.objInit hx hb hown (hts _ wM_X6_3) (hts _ wIn_O_init) (hts _ wY_O_init) rfl (X.2.2.1.symm ▸ hl.1) rfl dX6_init_1 (Nat.le_of_ble_eq_true rfl) (Nat.le_of_ble_eq_true rfl) ?_
  refine W.eq (g2 := F0 m 4 ls []) rfl ?_
  refine lv_aload_n hx hb dX6_init_4 rfl (lv_at hl 0 rfl) ?_
  refine lv_iconst (v := (-1)) hx hb dX6_init_5 (by decide) ?_
  refine p_6_9 (S := S) (x := (-1)) X w hV wF_X6_9 dX6_init_6 (fun H locs w => ?_)
  refine lv_aload_n hx hb dX6_init_9 rfl (lv_at hl 0 rfl) ?_
  refine lv_iconst (v := (-1)) hx hb dX6_init_10 (by decide) ?_
  refine p_6_10 (S := (sI S 105 i (-1))) (x := (-1)) X w hV wF_X6_15 dX6_init_11 (fun H locs w => ?_)
  refine lv_aload_n hx hb dX6_init_14 rfl (lv_at hl 0 rfl) ?_
  refine lv_iconst (v := 0) hx hb dX6_init_15 (by decide) ?_
  refine p_6_11 (S := (sI (sI S 105 i (-1)) 106 i (-1))) (x := 0) X w hV wF_X6_18 dX6_init_16 (fun H locs w => ?_)
  refine lv_aload_n hx hb dX6_init_19 rfl (lv_at hl 0 rfl) ?_
  refine lv_iload_n hx hb dX6_init_20 rfl (lv_at hl 2 rfl) ?_
  refine p_6_5 (S := (sI (sI (sI S 105 i (-1)) 106 i (-1)) 107 i 0)) (x := a) X w hin2 hV wF_X6_21 dX6_init_21 (fun H locs w => ?_)
  refine lv_aload_n hx hb dX6_init_24 rfl (lv_at hl 0 rfl) ?_
  refine lv_iload_n hx hb dX6_init_25 rfl (lv_at hl 3 rfl) ?_
  refine p_6_6 (S := (sI (sI (sI (sI S 105 i (-1)) 106 i (-1)) 107 i 0) 101 i a)) (x := b) X w hin2 hV wF_X6_24 dX6_init_26 (fun H locs w => ?_)
  refine lv_aload_n hx hb dX6_init_29 rfl (lv_at hl 0 rfl) ?_
  refine lv_iload hx hb dX6_init_30 (lv_at hl 4 rfl) ?_
  refine p_6_7 (S := (sI (sI (sI (sI (sI S 105 i (-1)) 106 i (-1)) 107 i 0) 101 i a) 102 i b)) (x := (nI ql)) X w hin2 hV wF_X6_27 dX6_init_32 (fun H locs w => ?_)
  refine lv_aload_n hx hb dX6_init_35 rfl (lv_at hl 0 rfl) ?_
  refine lv_aload_n hx hb dX6_init_36 rfl (lv_at hl 1 rfl) ?_
  refine g_9_5 (S := (sI (sI (sI (sI (sI (sI S 105 i (-1)) 106 i (-1)) 107 i 0) 101 i a) 102 i b) 103 i (nI ql))) (x := (mI S 149 j)) X w hV9 wF_X6_30 (rfl) dX6_init_37 ?_
  refine cS (S := (sI (sI (sI (sI (sI (sI S 105 i (-1)) 106 i (-1)) 107 i 0) 101 i a) 102 i b) 103 i (nI ql))) (nA := 1) (As := [.int (mI S 149 j)]) (rest := [.ref (gG S 6 i)]) X w hl (e_X6_sortOf G (sI (sI (sI (sI (sI (sI S 105 i (-1)) 106 i (-1)) 107 i 0) 101 i a) 102 i b) 103 i (nI ql)) (mI S 149 j)) wY_X6_sortOf wM_X6_35 wSt_X6_sortOf wI_X6 (by decide +kernel) rfl rfl dX6_init_40 ⟨by decide, by decide⟩ (Nat.le_of_ble_eq_true rfl) (⟨Nat.le_of_ble_eq_true rfl, Nat.le_of_ble_eq_true rfl⟩) (fun v1 S1 H locs hp w => ?_)
  obtain ⟨rfl, rfl⟩ := hp
  refine p_6_0 (S := (sI (sI (sI (sI (sI (sI S 105 i (-1)) 106 i (-1)) 107 i 0) 101 i a) 102 i b) 103 i (nI ql))) (x := (rSort (mI S 149 j))) X w hin2 hV wF_X6_39 dX6_init_43 (fun H locs w => ?_)
  refine lv_aload_n hx hb dX6_init_46 rfl (lv_at hl 0 rfl) ?_
  refine lv_aload_n hx hb dX6_init_47 rfl (lv_at hl 1 rfl) ?_
  refine g_9_4 (S := (sI (sI (sI (sI (sI (sI (sI S 105 i (-1)) 106 i (-1)) 107 i 0) 101 i a) 102 i b) 103 i (nI ql)) 96 i (rSort (mI S 149 j)))) (x := (mI S 148 j)) X w hV9 wF_X6_42 (rfl) dX6_init_48 ?_
  refine lv_iload hx hb dX6_init_51 (lv_at hl 4 rfl) ?_
  refine lv_imul hx hb dX6_init_53 ?_
  refine lv_bipush (v := 18) hx hb dX6_init_54 (by decide) ?_
  refine lv_idiv hx hb dX6_init_56 (by decide) ?_
  refine p_6_2 (S := (sI (sI (sI (sI (sI (sI (sI S 105 i (-1)) 106 i (-1)) 107 i 0) 101 i a) 102 i b) 103 i (nI ql)) 96 i (rSort (mI S 149 j)))) (x := (((mI S 148 j) * (nI ql)) / 18)) X w hin2 hV wF_X6_45 dX6_init_57 (fun H locs w => ?_)
  refine lv_aload_n hx hb dX6_init_60 rfl (lv_at hl 0 rfl) ?_
  refine lv_aload_n hx hb dX6_init_61 rfl (lv_at hl 0 rfl) ?_
  refine g_6_0 (S := (sI (sI (sI (sI (sI (sI (sI (sI S 105 i (-1)) 106 i (-1)) 107 i 0) 101 i a) 102 i b) 103 i (nI ql)) 96 i (rSort (mI S 149 j))) 98 i (((mI S 148 j) * (nI ql)) / 18))) (x := (rSort (mI S 149 j))) X w hV wF_X6_39 (by simp [mI, sI, up2]) dX6_init_62 ?_
  refine lv_aload_n hx hb dX6_init_65 rfl (lv_at hl 0 rfl) ?_
  refine g_6_2 (S := (sI (sI (sI (sI (sI (sI (sI (sI S 105 i (-1)) 106 i (-1)) 107 i 0) 101 i a) 102 i b) 103 i (nI ql)) 96 i (rSort (mI S 149 j))) 98 i (((mI S 148 j) * (nI ql)) / 18))) (x := (rCaught (mI S 148 j) (nI ql))) X w hV wF_X6_45 (up2_s _ _ _ _) dX6_init_66 ?_
  refine cS (S := (sI (sI (sI (sI (sI (sI (sI (sI S 105 i (-1)) 106 i (-1)) 107 i 0) 101 i a) 102 i b) 103 i (nI ql)) 96 i (rSort (mI S 149 j))) 98 i (((mI S 148 j) * (nI ql)) / 18))) (nA := 2) (As := [.int (rSort (mI S 149 j)), .int (rCaught (mI S 148 j) (nI ql))]) (rest := [.ref (gG S 6 i)]) X w hl (e_X6_lengthOf G (sI (sI (sI (sI (sI (sI (sI (sI S 105 i (-1)) 106 i (-1)) 107 i 0) 101 i a) 102 i b) 103 i (nI ql)) 96 i (rSort (mI S 149 j))) 98 i (((mI S 148 j) * (nI ql)) / 18)) (rSort (mI S 149 j)) (rCaught (mI S 148 j) (nI ql))) wY_X6_lengthOf wM_X6_48 wSt_X6_lengthOf wI_X6 (by decide +kernel) rfl rfl dX6_init_69 ⟨by decide, by decide⟩ (Nat.le_of_ble_eq_true rfl) (⟨Nat.le_of_ble_eq_true rfl, Nat.le_of_ble_eq_true rfl⟩) (fun v2 S1 H locs hp w => ?_)
  obtain ⟨rfl, rfl⟩ := hp
  refine p_6_1 (S := (sI (sI (sI (sI (sI (sI (sI (sI S 105 i (-1)) 106 i (-1)) 107 i 0) 101 i a) 102 i b) 103 i (nI ql)) 96 i (rSort (mI S 149 j))) 98 i (((mI S 148 j) * (nI ql)) / 18))) (x := (lenF (rSort (mI S 149 j)) (rCaught (mI S 148 j) (nI ql)))) X w hin2 hV wF_X6_52 dX6_init_72 (fun H locs w => ?_)
  refine lv_aload_n hx hb dX6_init_75 rfl (lv_at hl 0 rfl) ?_
  refine lv_aload_n hx hb dX6_init_76 rfl (lv_at hl 1 rfl) ?_
  refine g_9_6 (S := (sI (sI (sI (sI (sI (sI (sI (sI (sI S 105 i (-1)) 106 i (-1)) 107 i 0) 101 i a) 102 i b) 103 i (nI ql)) 96 i (rSort (mI S 149 j))) 98 i (((mI S 148 j) * (nI ql)) / 18)) 97 i (lenF (rSort (mI S 149 j)) (rCaught (mI S 148 j) (nI ql))))) (x := (mI S 150 j)) X w hV9 wF_X6_55 (rfl) dX6_init_77 ?_
  refine lv_iconst (v := 1) hx hb dX6_init_80 (by decide) ?_
  refine lv_iload hx hb dX6_init_81 (lv_at hl 4 rfl) ?_
  refine lv_ishl hx hb dX6_init_83 ?_
  refine lv_iconst (v := 1) hx hb dX6_init_84 (by decide) ?_
  refine lv_isub hx hb dX6_init_85 ?_
  refine lv_iand hx hb dX6_init_86 ?_
  refine lv_topi (fun z3 ez3 => ?_)
  obtain rfl : z3 = (rHeard (mI S 150 j) (nI ql)) := ez3.trans (by rw [hf5]; exact heard_eq hf hq)
  refine p_6_3 (S := (sI (sI (sI (sI (sI (sI (sI (sI (sI S 105 i (-1)) 106 i (-1)) 107 i 0) 101 i a) 102 i b) 103 i (nI ql)) 96 i (rSort (mI S 149 j))) 98 i (((mI S 148 j) * (nI ql)) / 18)) 97 i (lenF (rSort (mI S 149 j)) (rCaught (mI S 148 j) (nI ql))))) (x := (rHeard (mI S 150 j) (nI ql))) X w hin2 hV wF_X6_58 dX6_init_87 (fun H locs w => ?_)
  refine lv_aload_n hx hb dX6_init_90 rfl (lv_at hl 0 rfl) ?_
  refine lv_iload hx hb dX6_init_91 (lv_at hl 4 rfl) ?_
  refine lv_bipush (v := 14) hx hb dX6_init_93 (by decide) ?_
  refine lv_icmp_gt (tgt := 117) hx hb dX6_init_95 (by decide) (fun hg1 => ?_) (fun hg1 => ?_)
  · refine lv_iconst (v := (-1)) hx hb dX6_init_117 (by decide) ?_
    refine p_6_4 (S := (sI (sI (sI (sI (sI (sI (sI (sI (sI (sI S 105 i (-1)) 106 i (-1)) 107 i 0) 101 i a) 102 i b) 103 i (nI ql)) 96 i (rSort (mI S 149 j))) 98 i (((mI S 148 j) * (nI ql)) / 18)) 97 i (lenF (rSort (mI S 149 j)) (rCaught (mI S 148 j) (nI ql)))) 99 i (rHeard (mI S 150 j) (nI ql)))) (x := (-1)) X w hin2 hV wF_X6_65 dX6_init_118 (fun H locs w => ?_)
    exact rV X w rfl dX6_init_121 (by decide) (by decide) (⟨rfl, by first | (rw [show rGuess (mI S 150 j) (nI ql) = -1 from if_neg (fun z => absurd z.1 (Int32.not_le.mpr hg1))]; first | done | rfl) | (rw [show rGuess (mI S 150 j) (nI ql) = -1 from if_neg (fun z => absurd ((b2i_f hg2).symm.trans z.2) (by decide))]; first | done | rfl) | (rw [show rGuess (mI S 150 j) (nI ql) = nI ql + 1 from if_pos ⟨Int32.not_lt.mp hg1, b2i_t hg2⟩]; first | done | rfl)⟩)
  · refine lv_aload_n hx hb dX6_init_98 rfl (lv_at hl 1 rfl) ?_
    refine g_9_6 (S := (sI (sI (sI (sI (sI (sI (sI (sI (sI (sI S 105 i (-1)) 106 i (-1)) 107 i 0) 101 i a) 102 i b) 103 i (nI ql)) 96 i (rSort (mI S 149 j))) 98 i (((mI S 148 j) * (nI ql)) / 18)) 97 i (lenF (rSort (mI S 149 j)) (rCaught (mI S 148 j) (nI ql)))) 99 i (rHeard (mI S 150 j) (nI ql)))) (x := (mI S 150 j)) X w hV9 wF_X6_55 (rfl) dX6_init_99 ?_
    refine lv_iload hx hb dX6_init_102 (lv_at hl 4 rfl) ?_
    refine cSN (S := (sI (sI (sI (sI (sI (sI (sI (sI (sI (sI S 105 i (-1)) 106 i (-1)) 107 i 0) 101 i a) 102 i b) 103 i (nI ql)) 96 i (rSort (mI S 149 j))) 98 i (((mI S 148 j) * (nI ql)) / 18)) 97 i (lenF (rSort (mI S 149 j)) (rCaught (mI S 148 j) (nI ql)))) 99 i (rHeard (mI S 150 j) (nI ql)))) (nA := 2) (As := [.int (mI S 150 j), .int (nI ql)]) (rest := [.ref (gG S 6 i)]) X w hl (m_X10_isIn G (sI (sI (sI (sI (sI (sI (sI (sI (sI (sI S 105 i (-1)) 106 i (-1)) 107 i 0) 101 i a) 102 i b) 103 i (nI ql)) 96 i (rSort (mI S 149 j))) 98 i (((mI S 148 j) * (nI ql)) / 18)) 97 i (lenF (rSort (mI S 149 j)) (rCaught (mI S 148 j) (nI ql)))) 99 i (rHeard (mI S 150 j) (nI ql))) (mI S 150 j) (nI ql)) wY_X10_isIn wMN_X6_61 wSt_X10_isIn wI_X10 (by decide +kernel) rfl rfl dX6_init_104 ⟨by decide, by decide⟩ (Nat.le_of_ble_eq_true rfl) (⟨Nat.le_of_ble_eq_true rfl, Nat.le_of_ble_eq_true rfl⟩) (fun v4 S1 H locs hp w => ?_)
    obtain ⟨rfl, rfl⟩ := hp
    refine lv_if_eq (tgt := 117) hx hb dX6_init_107 (by decide) (fun hg2 => ?_) (fun hg2 => ?_)
    · refine lv_iconst (v := (-1)) hx hb dX6_init_117 (by decide) ?_
      refine p_6_4 (S := (sI (sI (sI (sI (sI (sI (sI (sI (sI (sI S 105 i (-1)) 106 i (-1)) 107 i 0) 101 i a) 102 i b) 103 i (nI ql)) 96 i (rSort (mI S 149 j))) 98 i (((mI S 148 j) * (nI ql)) / 18)) 97 i (lenF (rSort (mI S 149 j)) (rCaught (mI S 148 j) (nI ql)))) 99 i (rHeard (mI S 150 j) (nI ql)))) (x := (-1)) X w hin2 hV wF_X6_65 dX6_init_118 (fun H locs w => ?_)
      exact rV X w rfl dX6_init_121 (by decide) (by decide) (⟨rfl, by first | (rw [show rGuess (mI S 150 j) (nI ql) = -1 from if_neg (fun z => absurd z.1 (Int32.not_le.mpr hg1))]; first | done | rfl) | (rw [show rGuess (mI S 150 j) (nI ql) = -1 from if_neg (fun z => absurd ((b2i_f hg2).symm.trans z.2) (by decide))]; first | done | rfl) | (rw [show rGuess (mI S 150 j) (nI ql) = nI ql + 1 from if_pos ⟨Int32.not_lt.mp hg1, b2i_t hg2⟩]; first | done | rfl)⟩)
    · refine lv_iload hx hb dX6_init_110 (lv_at hl 4 rfl) ?_
      refine lv_iconst (v := 1) hx hb dX6_init_112 (by decide) ?_
      refine lv_iadd hx hb dX6_init_113 ?_
      refine lv_goto (tgt := 118) hx hb dX6_init_114 (by decide) ?_
      refine p_6_4 (S := (sI (sI (sI (sI (sI (sI (sI (sI (sI (sI S 105 i (-1)) 106 i (-1)) 107 i 0) 101 i a) 102 i b) 103 i (nI ql)) 96 i (rSort (mI S 149 j))) 98 i (((mI S 148 j) * (nI ql)) / 18)) 97 i (lenF (rSort (mI S 149 j)) (rCaught (mI S 148 j) (nI ql)))) 99 i (rHeard (mI S 150 j) (nI ql)))) (x := ((nI ql) + 1)) X w hin2 hV wF_X6_65 dX6_init_118 (fun H locs w => ?_)
      exact rV X w rfl dX6_init_121 (by decide) (by decide) (⟨rfl, by first | (rw [show rGuess (mI S 150 j) (nI ql) = -1 from if_neg (fun z => absurd z.1 (Int32.not_le.mpr hg1))]; first | done | rfl) | (rw [show rGuess (mI S 150 j) (nI ql) = -1 from if_neg (fun z => absurd ((b2i_f hg2).symm.trans z.2) (by decide))]; first | done | rfl) | (rw [show rGuess (mI S 150 j) (nI ql) = nI ql + 1 from if_pos ⟨Int32.not_lt.mp hg1, b2i_t hg2⟩]; first | done | rfl)⟩)

abbrev rm_e_X4_file : Room := { frames := 1, cells := 0, slots := 0, locals := 21 }
set_option maxHeartbeats 4000000 in
set_option maxRecDepth 100000 in
theorem e_X4_file {s0 : State} {l : Launch} {D : va_G} {cy : Nat → ClassId} (G : Gl s0 l D cy) (S : HS) (i k : Nat) (so : Int32) (hV4 : vV S 4 0) (hV9 : vV S 9 i) (hV6 : vV S 6 i) (hV8 : vV S 8 k) (he : mR S 145 i = some (gG S 8 k)) (hso : mI S 96 i = so) : Ctr s0 l D cy yX4_file cX4_file 4 none rm_e_X4_file S [.ref (gG S 4 0), .ref (gG S 9 i), .ref (gG S 6 i)] (fun v S' => none = v ∧ S' = sR (sI S 104 i (fiS so (mI S 70 0) (mI S 132 k))) 152 i (some (gG S 6 i))) := by
  refine pro "CavershamShift$Newsroom" G rfl rfl (Nat.le_of_ble_eq_true rfl) (fun p e s m below meth c ls X w hnm hl => ?_)
  have hx := X.1
  have hb := X.2.1
  have hown := X.2.2.2.1
  have hts := X.2.2.2.2.1
  have hl : lv_has ls 4 [(0, .ref (gG S 4 0)), (1, .ref (gG S 9 i)), (2, .ref (gG S 6 i))] := hl
  refine lv_aload_n hx hb dX4_file_0 rfl (lv_at hl 2 rfl) ?_
  refine g_6_0 (S := S) (x := so) X w hV6 wF_X4_51 (hso) dX4_file_1 ?_
  refine lv_iconst (v := 2) hx hb dX4_file_4 (by decide) ?_
  refine lv_icmp_eq (tgt := 16) hx hb dX4_file_5 (by decide) (fun hk5 => ?_) (fun hk5 => ?_)
  · refine lv_iconst (v := 1) hx hb dX4_file_16 (by decide) ?_
    refine lv_goto (tgt := 21) hx hb dX4_file_17 (by decide) ?_
    refine lv_istore_n (lv' := [(3, .int 1), (0, .ref (gG S 4 0)), (1, .ref (gG S 9 i)), (2, .ref (gG S 6 i))]) hx hb dX4_file_21 rfl hl (by decide) rfl (fun ls hl => ?_)
    refine lv_aload_n hx hb dX4_file_22 rfl (lv_at hl 3 rfl) ?_
    refine g_6_0 (S := S) (x := so) X w hV6 wF_X4_51 (hso) dX4_file_23 ?_
    refine lv_if_ne (tgt := 37) hx hb dX4_file_26 (by decide) (fun hk26 => ?_) (fun hk26 => ?_)
    · refine lv_iload_n hx hb dX4_file_37 rfl (lv_at hl 0 rfl) ?_
      refine lv_if_eq (tgt := 66) hx hb dX4_file_38 (by decide) (fun hc1 => ?_) (fun hc1 => ?_)
      · exact absurd hc1 (by decide)
      · refine lv_aload_n hx hb dX4_file_41 rfl (lv_at hl 1 rfl) ?_
        refine g_4_6 (S := S) (x := (mI S 70 0)) X w hV4 wF_X4_59 (rfl) dX4_file_42 ?_
        refine lv_aload_n hx hb dX4_file_45 rfl (lv_at hl 2 rfl) ?_
        refine g_9_1 (S := S) (x := (some (gG S 8 k))) X w hV9 wF_X4_44 (he) dX4_file_46 ?_
        refine g_8_4 (S := S) (x := (mI S 132 k)) X w hV8 wF_X4_62 (rfl) dX4_file_49 ?_
        refine cSN (S := S) (nA := 2) (As := [.int (mI S 70 0), .int (mI S 132 k)]) (rest := []) X w hl (m_X10_isIn G S (mI S 70 0) (mI S 132 k)) wY_X10_isIn wMN_X4_67 wSt_X10_isIn wI_X10 (by decide +kernel) rfl rfl dX4_file_52 ⟨by decide, by decide⟩ (Nat.le_of_ble_eq_true rfl) (⟨Nat.le_of_ble_eq_true rfl, Nat.le_of_ble_eq_true rfl⟩) (fun v2 S1 H locs hp w => ?_)
        obtain ⟨rfl, rfl⟩ := hp
        refine lv_if_eq (tgt := 66) hx hb dX4_file_55 (by decide) (fun hk55 => ?_) (fun hk55 => ?_)
        · refine lv_aload_n hx hb dX4_file_66 rfl (lv_at hl 3 rfl) ?_
          refine lv_iconst (v := 0) hx hb dX4_file_67 (by decide) ?_
          refine p_6_8 (S := S) (x := 0) X w hV6 wF_X4_56 dX4_file_68 (fun H locs w => ?_)
          refine lv_aload_n hx hb dX4_file_71 rfl (lv_at hl 2 rfl) ?_
          refine lv_aload_n hx hb dX4_file_72 rfl (lv_at hl 3 rfl) ?_
          refine p_9_8 (S := (sI S 104 i 0)) (x := (some (gG S 6 i))) X w hV9 wF_X4_71 dX4_file_73 (fun H locs w => ?_)
          exact rV X w rfl dX4_file_76 (by decide) (by decide) (⟨rfl, by first | (rw [show fiS so (mI S 70 0) (mI S 132 k) = 4 from if_pos hk26]; first | done | rfl) | (rw [show fiS so (mI S 70 0) (mI S 132 k) = 3 from (if_neg hk26).trans (if_pos ⟨by first | exact Or.inl hk5 | exact Or.inr hk13, b2i_t hk55⟩)]; first | done | rfl) | (rw [show fiS so (mI S 70 0) (mI S 132 k) = 0 from (if_neg hk26).trans (if_neg (fun z => by first | exact absurd ((b2i_f hk55).symm.trans z.2) (by decide) | exact z.1.elim hk5 hk13))]; first | done | rfl)⟩)
        · refine lv_aload_n hx hb dX4_file_58 rfl (lv_at hl 3 rfl) ?_
          refine lv_iconst (v := 3) hx hb dX4_file_59 (by decide) ?_
          refine p_6_8 (S := S) (x := 3) X w hV6 wF_X4_56 dX4_file_60 (fun H locs w => ?_)
          refine lv_goto (tgt := 71) hx hb dX4_file_63 (by decide) ?_
          refine lv_aload_n hx hb dX4_file_71 rfl (lv_at hl 2 rfl) ?_
          refine lv_aload_n hx hb dX4_file_72 rfl (lv_at hl 3 rfl) ?_
          refine p_9_8 (S := (sI S 104 i 3)) (x := (some (gG S 6 i))) X w hV9 wF_X4_71 dX4_file_73 (fun H locs w => ?_)
          exact rV X w rfl dX4_file_76 (by decide) (by decide) (⟨rfl, by first | (rw [show fiS so (mI S 70 0) (mI S 132 k) = 4 from if_pos hk26]; first | done | rfl) | (rw [show fiS so (mI S 70 0) (mI S 132 k) = 3 from (if_neg hk26).trans (if_pos ⟨by first | exact Or.inl hk5 | exact Or.inr hk13, b2i_t hk55⟩)]; first | done | rfl) | (rw [show fiS so (mI S 70 0) (mI S 132 k) = 0 from (if_neg hk26).trans (if_neg (fun z => by first | exact absurd ((b2i_f hk55).symm.trans z.2) (by decide) | exact z.1.elim hk5 hk13))]; first | done | rfl)⟩)
    · refine lv_aload_n hx hb dX4_file_29 rfl (lv_at hl 3 rfl) ?_
      refine lv_iconst (v := 4) hx hb dX4_file_30 (by decide) ?_
      refine p_6_8 (S := S) (x := 4) X w hV6 wF_X4_56 dX4_file_31 (fun H locs w => ?_)
      refine lv_goto (tgt := 71) hx hb dX4_file_34 (by decide) ?_
      refine lv_aload_n hx hb dX4_file_71 rfl (lv_at hl 2 rfl) ?_
      refine lv_aload_n hx hb dX4_file_72 rfl (lv_at hl 3 rfl) ?_
      refine p_9_8 (S := (sI S 104 i 4)) (x := (some (gG S 6 i))) X w hV9 wF_X4_71 dX4_file_73 (fun H locs w => ?_)
      exact rV X w rfl dX4_file_76 (by decide) (by decide) (⟨rfl, by first | (rw [show fiS so (mI S 70 0) (mI S 132 k) = 4 from if_pos hk26]; first | done | rfl) | (rw [show fiS so (mI S 70 0) (mI S 132 k) = 3 from (if_neg hk26).trans (if_pos ⟨by first | exact Or.inl hk5 | exact Or.inr hk13, b2i_t hk55⟩)]; first | done | rfl) | (rw [show fiS so (mI S 70 0) (mI S 132 k) = 0 from (if_neg hk26).trans (if_neg (fun z => by first | exact absurd ((b2i_f hk55).symm.trans z.2) (by decide) | exact z.1.elim hk5 hk13))]; first | done | rfl)⟩)
  · refine lv_aload_n hx hb dX4_file_8 rfl (lv_at hl 2 rfl) ?_
    refine g_6_0 (S := S) (x := so) X w hV6 wF_X4_51 (hso) dX4_file_9 ?_
    refine lv_iconst (v := 1) hx hb dX4_file_12 (by decide) ?_
    refine lv_icmp_ne (tgt := 20) hx hb dX4_file_13 (by decide) (fun hk13 => ?_) (fun hk13 => ?_)
    · refine lv_iconst (v := 0) hx hb dX4_file_20 (by decide) ?_
      refine lv_istore_n (lv' := [(3, .int 0), (0, .ref (gG S 4 0)), (1, .ref (gG S 9 i)), (2, .ref (gG S 6 i))]) hx hb dX4_file_21 rfl hl (by decide) rfl (fun ls hl => ?_)
      refine lv_aload_n hx hb dX4_file_22 rfl (lv_at hl 3 rfl) ?_
      refine g_6_0 (S := S) (x := so) X w hV6 wF_X4_51 (hso) dX4_file_23 ?_
      refine lv_if_ne (tgt := 37) hx hb dX4_file_26 (by decide) (fun hk26 => ?_) (fun hk26 => ?_)
      · refine lv_iload_n hx hb dX4_file_37 rfl (lv_at hl 0 rfl) ?_
        refine lv_if_eq (tgt := 66) hx hb dX4_file_38 (by decide) (fun hc3 => ?_) (fun hc3 => ?_)
        · refine lv_aload_n hx hb dX4_file_66 rfl (lv_at hl 3 rfl) ?_
          refine lv_iconst (v := 0) hx hb dX4_file_67 (by decide) ?_
          refine p_6_8 (S := S) (x := 0) X w hV6 wF_X4_56 dX4_file_68 (fun H locs w => ?_)
          refine lv_aload_n hx hb dX4_file_71 rfl (lv_at hl 2 rfl) ?_
          refine lv_aload_n hx hb dX4_file_72 rfl (lv_at hl 3 rfl) ?_
          refine p_9_8 (S := (sI S 104 i 0)) (x := (some (gG S 6 i))) X w hV9 wF_X4_71 dX4_file_73 (fun H locs w => ?_)
          exact rV X w rfl dX4_file_76 (by decide) (by decide) (⟨rfl, by first | (rw [show fiS so (mI S 70 0) (mI S 132 k) = 4 from if_pos hk26]; first | done | rfl) | (rw [show fiS so (mI S 70 0) (mI S 132 k) = 3 from (if_neg hk26).trans (if_pos ⟨by first | exact Or.inl hk5 | exact Or.inr hk13, b2i_t hk55⟩)]; first | done | rfl) | (rw [show fiS so (mI S 70 0) (mI S 132 k) = 0 from (if_neg hk26).trans (if_neg (fun z => by first | exact absurd ((b2i_f hk55).symm.trans z.2) (by decide) | exact z.1.elim hk5 hk13))]; first | done | rfl)⟩)
        · exact absurd hc3 (by decide)
      · refine lv_aload_n hx hb dX4_file_29 rfl (lv_at hl 3 rfl) ?_
        refine lv_iconst (v := 4) hx hb dX4_file_30 (by decide) ?_
        refine p_6_8 (S := S) (x := 4) X w hV6 wF_X4_56 dX4_file_31 (fun H locs w => ?_)
        refine lv_goto (tgt := 71) hx hb dX4_file_34 (by decide) ?_
        refine lv_aload_n hx hb dX4_file_71 rfl (lv_at hl 2 rfl) ?_
        refine lv_aload_n hx hb dX4_file_72 rfl (lv_at hl 3 rfl) ?_
        refine p_9_8 (S := (sI S 104 i 4)) (x := (some (gG S 6 i))) X w hV9 wF_X4_71 dX4_file_73 (fun H locs w => ?_)
        exact rV X w rfl dX4_file_76 (by decide) (by decide) (⟨rfl, by first | (rw [show fiS so (mI S 70 0) (mI S 132 k) = 4 from if_pos hk26]; first | done | rfl) | (rw [show fiS so (mI S 70 0) (mI S 132 k) = 3 from (if_neg hk26).trans (if_pos ⟨by first | exact Or.inl hk5 | exact Or.inr hk13, b2i_t hk55⟩)]; first | done | rfl) | (rw [show fiS so (mI S 70 0) (mI S 132 k) = 0 from (if_neg hk26).trans (if_neg (fun z => by first | exact absurd ((b2i_f hk55).symm.trans z.2) (by decide) | exact z.1.elim hk5 hk13))]; first | done | rfl)⟩)
    · refine lv_iconst (v := 1) hx hb dX4_file_16 (by decide) ?_
      refine lv_goto (tgt := 21) hx hb dX4_file_17 (by decide) ?_
      refine lv_istore_n (lv' := [(3, .int 1), (0, .ref (gG S 4 0)), (1, .ref (gG S 9 i)), (2, .ref (gG S 6 i))]) hx hb dX4_file_21 rfl hl (by decide) rfl (fun ls hl => ?_)
      refine lv_aload_n hx hb dX4_file_22 rfl (lv_at hl 3 rfl) ?_
      refine g_6_0 (S := S) (x := so) X w hV6 wF_X4_51 (hso) dX4_file_23 ?_
      refine lv_if_ne (tgt := 37) hx hb dX4_file_26 (by decide) (fun hk26 => ?_) (fun hk26 => ?_)
      · refine lv_iload_n hx hb dX4_file_37 rfl (lv_at hl 0 rfl) ?_
        refine lv_if_eq (tgt := 66) hx hb dX4_file_38 (by decide) (fun hc4 => ?_) (fun hc4 => ?_)
        · exact absurd hc4 (by decide)
        · refine lv_aload_n hx hb dX4_file_41 rfl (lv_at hl 1 rfl) ?_
          refine g_4_6 (S := S) (x := (mI S 70 0)) X w hV4 wF_X4_59 (rfl) dX4_file_42 ?_
          refine lv_aload_n hx hb dX4_file_45 rfl (lv_at hl 2 rfl) ?_
          refine g_9_1 (S := S) (x := (some (gG S 8 k))) X w hV9 wF_X4_44 (he) dX4_file_46 ?_
          refine g_8_4 (S := S) (x := (mI S 132 k)) X w hV8 wF_X4_62 (rfl) dX4_file_49 ?_
          refine cSN (S := S) (nA := 2) (As := [.int (mI S 70 0), .int (mI S 132 k)]) (rest := []) X w hl (m_X10_isIn G S (mI S 70 0) (mI S 132 k)) wY_X10_isIn wMN_X4_67 wSt_X10_isIn wI_X10 (by decide +kernel) rfl rfl dX4_file_52 ⟨by decide, by decide⟩ (Nat.le_of_ble_eq_true rfl) (⟨Nat.le_of_ble_eq_true rfl, Nat.le_of_ble_eq_true rfl⟩) (fun v5 S1 H locs hp w => ?_)
          obtain ⟨rfl, rfl⟩ := hp
          refine lv_if_eq (tgt := 66) hx hb dX4_file_55 (by decide) (fun hk55 => ?_) (fun hk55 => ?_)
          · refine lv_aload_n hx hb dX4_file_66 rfl (lv_at hl 3 rfl) ?_
            refine lv_iconst (v := 0) hx hb dX4_file_67 (by decide) ?_
            refine p_6_8 (S := S) (x := 0) X w hV6 wF_X4_56 dX4_file_68 (fun H locs w => ?_)
            refine lv_aload_n hx hb dX4_file_71 rfl (lv_at hl 2 rfl) ?_
            refine lv_aload_n hx hb dX4_file_72 rfl (lv_at hl 3 rfl) ?_
            refine p_9_8 (S := (sI S 104 i 0)) (x := (some (gG S 6 i))) X w hV9 wF_X4_71 dX4_file_73 (fun H locs w => ?_)
            exact rV X w rfl dX4_file_76 (by decide) (by decide) (⟨rfl, by first | (rw [show fiS so (mI S 70 0) (mI S 132 k) = 4 from if_pos hk26]; first | done | rfl) | (rw [show fiS so (mI S 70 0) (mI S 132 k) = 3 from (if_neg hk26).trans (if_pos ⟨by first | exact Or.inl hk5 | exact Or.inr hk13, b2i_t hk55⟩)]; first | done | rfl) | (rw [show fiS so (mI S 70 0) (mI S 132 k) = 0 from (if_neg hk26).trans (if_neg (fun z => by first | exact absurd ((b2i_f hk55).symm.trans z.2) (by decide) | exact z.1.elim hk5 hk13))]; first | done | rfl)⟩)
          · refine lv_aload_n hx hb dX4_file_58 rfl (lv_at hl 3 rfl) ?_
            refine lv_iconst (v := 3) hx hb dX4_file_59 (by decide) ?_
            refine p_6_8 (S := S) (x := 3) X w hV6 wF_X4_56 dX4_file_60 (fun H locs w => ?_)
            refine lv_goto (tgt := 71) hx hb dX4_file_63 (by decide) ?_
            refine lv_aload_n hx hb dX4_file_71 rfl (lv_at hl 2 rfl) ?_
            refine lv_aload_n hx hb dX4_file_72 rfl (lv_at hl 3 rfl) ?_
            refine p_9_8 (S := (sI S 104 i 3)) (x := (some (gG S 6 i))) X w hV9 wF_X4_71 dX4_file_73 (fun H locs w => ?_)
            exact rV X w rfl dX4_file_76 (by decide) (by decide) (⟨rfl, by first | (rw [show fiS so (mI S 70 0) (mI S 132 k) = 4 from if_pos hk26]; first | done | rfl) | (rw [show fiS so (mI S 70 0) (mI S 132 k) = 3 from (if_neg hk26).trans (if_pos ⟨by first | exact Or.inl hk5 | exact Or.inr hk13, b2i_t hk55⟩)]; first | done | rfl) | (rw [show fiS so (mI S 70 0) (mI S 132 k) = 0 from (if_neg hk26).trans (if_neg (fun z => by first | exact absurd ((b2i_f hk55).symm.trans z.2) (by decide) | exact z.1.elim hk5 hk13))]; first | done | rfl)⟩)
      · refine lv_aload_n hx hb dX4_file_29 rfl (lv_at hl 3 rfl) ?_
        refine lv_iconst (v := 4) hx hb dX4_file_30 (by decide) ?_
        refine p_6_8 (S := S) (x := 4) X w hV6 wF_X4_56 dX4_file_31 (fun H locs w => ?_)
        refine lv_goto (tgt := 71) hx hb dX4_file_34 (by decide) ?_
        refine lv_aload_n hx hb dX4_file_71 rfl (lv_at hl 2 rfl) ?_
        refine lv_aload_n hx hb dX4_file_72 rfl (lv_at hl 3 rfl) ?_
        refine p_9_8 (S := (sI S 104 i 4)) (x := (some (gG S 6 i))) X w hV9 wF_X4_71 dX4_file_73 (fun H locs w => ?_)
        exact rV X w rfl dX4_file_76 (by decide) (by decide) (⟨rfl, by first | (rw [show fiS so (mI S 70 0) (mI S 132 k) = 4 from if_pos hk26]; first | done | rfl) | (rw [show fiS so (mI S 70 0) (mI S 132 k) = 3 from (if_neg hk26).trans (if_pos ⟨by first | exact Or.inl hk5 | exact Or.inr hk13, b2i_t hk55⟩)]; first | done | rfl) | (rw [show fiS so (mI S 70 0) (mI S 132 k) = 0 from (if_neg hk26).trans (if_neg (fun z => by first | exact absurd ((b2i_f hk55).symm.trans z.2) (by decide) | exact z.1.elim hk5 hk13))]; first | done | rfl)⟩)

theorem rLen_b {wt : Int32} {w q : Nat} (hw : w ≤ 300) (hq : q ≤ 18) : ∃ x : Nat, x ≤ 300 ∧ rLen wt (nI w) (nI q) = nI x := by
  have hwq : w * q ≤ 300 * 18 := Nat.mul_le_mul hw hq
  have c : rCaught (nI w) (nI q) = nI (w * q / 18) := by
    unfold rCaught
    rw [pk_mul]; exact pk_div (d := 18) (by omega) (by decide) (by decide)
  have hc : w * q / 18 ≤ 300 := by omega
  unfold rLen
  rw [c]
  split
  · unfold sMin
    by_cases z : nI (w * q / 18) < 20
    · rw [if_pos z]; exact ⟨_, hc, rfl⟩
    · rw [if_neg z]; exact ⟨20, by decide, rfl⟩
  · split
    · exact ⟨_, hc, rfl⟩
    · split
      · exact ⟨w * q / 18 / 4, by omega, pk_div (d := 4) (by omega) (by decide) (by decide)⟩
      · exact ⟨0, by decide, rfl⟩

abbrev rm_a_X10_endHour : Room := { frames := 11, cells := 80, slots := 2480, locals := 288 }
set_option maxHeartbeats 4000000 in
set_option maxRecDepth 100000 in
theorem a_X10_endHour {s0 : State} {l : Launch} {D : va_G} {cy : Nat → ClassId} (G : Gl s0 l D cy) (S : HS) (ea ns nj nm nt nr nc : Nat) (h : CI ea S ns nj nm nt nr nc) (A : HS) (hA : RK S A ns nj nm nt nr nc) (hea : ea = eaOf s0) (g : Nat) (hg : mI S 164 0 = nI g) (hg7 : g < 720) (hrh : RH S nt) : Ctr s0 l D cy yX10_endHour cX10_endHour 5 none rm_a_X10_endHour S [.ref (gG S 10 0)] (fun v S' => none = v ∧ ∃ nc', CI ea S' ns nj nm nt nr nc' ∧ Kq (hidV true) hiP (hidR true) S S' ∧ RK S' (hoA A ns nj nm nt nr g) ns nj nm nt nr nc' ∧ mI S' 164 0 = nI (g + 1) ∧ RH S' nt) := by
  refine pro "CavershamShift" G rfl rfl (Nat.le_of_ble_eq_true rfl) (fun p e s m below meth c ls X w hnm hl => ?_)
  have hx := X.1
  have hb := X.2.1
  have hown := X.2.2.2.1
  have hts := X.2.2.2.2.1
  have hl : lv_has ls 5 [(0, .ref (gG S 10 0))] := hl
  have h0 := h
  have hK : Kq (hidV true) hiP (hidR true) S S := Kq.rf
  refine lv_iconst (v := 0) hx hb dX10_endHour_0 (by decide) ?_
  refine lv_istore_n (lv' := [(1, .int 0), (0, .ref (gG S 10 0))]) hx hb dX10_endHour_1 rfl hl (by decide) rfl (fun ls hl => ?_)
  have L2 : ∀ (N : Nat) (k2 : Nat) (T2 : HS) (H : Heap) (locs : List Loc) (ls : Array Slot), nt - k2 < N → (k2 ≤ nt) → (RK T2 (recL A ns nj g k2) ns nj nm nt nr nc) → (CI ea T2 ns nj nm nt nr nc) → (Kq (hidV true) hiP (hidR true) S T2) → (∀ j, j < nt → (mR T2 152 j = none → ¬ vV T2 6 j) ∧ (mR T2 152 j ≠ none → mI S 146 j < mI S 164 0 ∨ (mI S 146 j = mI S 164 0 ∧ j < k2))) → (mI T2 164 0 = mI S 164 0) → Wd s0 D cy T2 s.heap H locs → lv_has ls 5 [(1, .int (nI k2)), (0, .ref (gG S 10 0))] → W p l e rm_a_X10_endHour s m ([.ref (gG S 10 0)] : List Value).toArray below meth c H locs (k2) (13 * k2) (MQ below (GQ s0 D cy (fun v S' => none = v ∧ ∃ nc', CI ea S' ns nj nm nt nr nc' ∧ Kq (hidV true) hiP (hidR true) S S' ∧ RK S' (hoA A ns nj nm nt nr g) ns nj nm nt nr nc' ∧ mI S' 164 0 = nI (g + 1) ∧ RH S' nt)) ([.ref (gG S 10 0)] : List Value).toArray s rm_a_X10_endHour.cells rm_a_X10_endHour.slots (A0 s0)) (F0 m 2 ls []) := by
    intro N
    induction N with
    | zero => intros; omega
    | succ N ih2 =>
      intro k2 T2 H locs ls hmu hk_k2 hA h hK_T2 hRH e164 w hl
      have hK := hK_T2
      refine lv_iload_n hx hb dX10_endHour_2 rfl (lv_at hl 0 rfl) ?_
      refine lv_aload_n hx hb dX10_endHour_3 rfl (lv_at hl 1 rfl) ?_
      refine rE0 ((rfl).trans ((hK_T2.G (t := 10) (i := 0) rfl)).symm) ?_
      refine g_10_2 (S := T2) (x := (some (gG T2 4 0))) X w h.v10 wF_X10_28 (h.f162) dX10_endHour_4 ?_
      refine g_4_0 (S := T2) (x := (some (gG T2 17 3))) X w h.v4 wF_X10_162 (h.f64) dX10_endHour_7 ?_
      refine cV (S := T2) (nA := 0) (As := []) (rest := [.int (nI k2)]) X w hl h.l_ta.1 (m_size G T2 ea 3 nt h.l_ta) wY_Jx4a65c_size_8abf5 wM_X10_66 wIn_Jx4a65c_size_8abf5 wSe_Jx4a65c_Jx4a65c_size_8abf5 wI_Jx4a65c (by decide) rfl (by decide +kernel) rfl rfl dX10_endHour_10 ⟨by decide, by decide⟩ (Nat.le_of_ble_eq_true rfl) (⟨(show k2 + 0 ≤ 80 by have := h.b_ta; omega), (show 13 * k2 + 0 ≤ 2480 by have := h.b_ta; omega)⟩) (fun v1 S1 H locs hp w => ?_)
      obtain ⟨rfl, rfl⟩ := hp
      refine lv_icmp_ge (tgt := 118) hx hb dX10_endHour_13 (by decide) (fun hc_k2 => ?_) (fun hc_k2 => ?_)
      · have hge_k2 : nt ≤ k2 := by
          have hb1 := h.b_ta
          exact (nI_leI (a := nt) (b := k2) (by omega) (by omega)).mp hc_k2
        have hRe : ∀ j, j < nt → (mR T2 152 j = none → ¬ vV T2 6 j) ∧ (mR T2 152 j ≠ none → mI S 146 j < mI S 164 0 ∨ mI S 146 j = mI S 164 0) := fun j hj => ⟨(hRH j hj).1, fun z => ((hRH j hj).2 z).imp id (fun y => y.1)⟩
        have hk9 : k2 = nt := by omega
        rw [hk9] at hA
        refine W.widen (k := 40) (n := 520) (show k2 ≤ 40 by have := h.b_ta; omega) (show 13 * k2 ≤ 520 by have := h.b_ta; omega) ?_
        refine lv_aload_n hx hb dX10_endHour_118 rfl (lv_at hl 1 rfl) ?_
        refine rE0 ((rfl).trans ((hK_T2.G (t := 10) (i := 0) rfl)).symm) ?_
        refine g_10_1 (S := T2) (x := (some (gG T2 7 0))) X w h.v10 wF_X10_21 (h.f161) dX10_endHour_119 ?_
        refine lv_aload_n hx hb dX10_endHour_122 rfl (lv_at hl 1 rfl) ?_
        refine rE0 ((rfl).trans ((hK_T2.G (t := 10) (i := 0) rfl)).symm) ?_
        refine cV (S := T2) (nA := 0) (As := []) (rest := [.ref (gG T2 7 0)]) X w hl h.v10 (m_X10_hourOfDay G T2 ea ns nj nm nt nr nc h ) wY_X10_hourOfDay wM_X10_411 wIn_X10_hourOfDay wSe_X10_X10_hourOfDay wI_X10 (by decide) rfl (by decide +kernel) rfl rfl dX10_endHour_123 ⟨by decide, by decide⟩ (Nat.le_of_ble_eq_true rfl) (⟨(show 40 + 0 ≤ 80 by have := h.b_ta; omega), (show 520 + 0 ≤ 2480 by have := h.b_ta; omega)⟩) (fun v2 S1 H locs hp w => ?_)
        obtain ⟨rfl, rfl⟩ := hp
        refine lv_topi (fun z3 ez3 => ?_)
        obtain rfl : z3 = (nI (g % 24)) := ez3.trans (hod (e164.trans hg) (by omega))
        refine cV (S := T2) (nA := 1) (As := [.int (nI (g % 24))]) (rest := []) X w hl h.v7 (a_X7_tire G T2 ea ns nj nm nt nr nc h (recL A ns nj g nt) hA (g % 24) (Nat.mod_lt _ (by decide))) wY_X7_tire wM_X10_428 wIn_X7_tire wSe_X7_X7_tire wI_X7 (by decide) rfl (by decide +kernel) rfl rfl dX10_endHour_126 ⟨by decide, by decide⟩ (Nat.le_of_ble_eq_true rfl) (⟨(show 40 + 0 ≤ 80 by have := h.b_ta; omega), (show 520 + 0 ≤ 2480 by have := h.b_ta; omega)⟩) (fun v6 U4 H locs hp w => ?_)
        obtain ⟨rfl, h, hkU4, hA⟩ := hp
        have hK_U4 : Kq (hidV true) hiP (hidR true) S U4 := hK.tr (m12 hkU4)
        have hK := hK_U4
        have e164 : mI U4 164 0 = mI S 164 0 := (hkU4.I (f := 164) (i := 0) rfl).trans e164
        have hRe : ∀ j, j < nt → (mR U4 152 j = none → ¬ vV U4 6 j) ∧ (mR U4 152 j ≠ none → mI S 146 j < mI S 164 0 ∨ mI S 146 j = mI S 164 0) := fun j hj => by rw [show mR U4 152 j = mR T2 152 j from hkU4.R rfl, show vV U4 6 j = vV T2 6 j from hkU4.V rfl]; exact hRe j hj
        refine lv_aload_n hx hb dX10_endHour_129 rfl (lv_at hl 1 rfl) ?_
        refine rE0 ((rfl).trans ((hK_U4.G (t := 10) (i := 0) rfl)).symm) ?_
        refine g_10_2 (S := U4) (x := (some (gG U4 4 0))) X w h.v10 wF_X10_28 (h.f162) dX10_endHour_130 ?_
        refine lv_aload_n hx hb dX10_endHour_133 rfl (lv_at hl 1 rfl) ?_
        refine rE0 ((rfl).trans ((hK_U4.G (t := 10) (i := 0) rfl)).symm) ?_
        refine g_10_4 (S := U4) (x := (nI g)) X w h.v10 wF_X10_41 (e164.trans hg) dX10_endHour_134 ?_
        refine cV (S := U4) (nA := 1) (As := [.int (nI g)]) (rest := []) X w hl h.v4 (a_X4_dropStale G U4 ea ns nj nm nt nr nc h (tiL (recL A ns nj g nt) (g % 24) nm) hA g (by omega)) wY_X4_dropStale wM_X10_431 wIn_X4_dropStale wSe_X4_X4_dropStale wI_X4 (by decide) rfl (by decide +kernel) rfl rfl dX10_endHour_137 ⟨by decide, by decide⟩ (Nat.le_of_ble_eq_true rfl) (⟨(show 40 + 0 ≤ 80 by have := h.b_ta; omega), (show 520 + 0 ≤ 2480 by have := h.b_ta; omega)⟩) (fun v9 U7 H locs hp w => ?_)
        obtain ⟨rfl, h, hkU7, hA⟩ := hp
        have hK_U7 : Kq (hidV true) hiP (hidR true) S U7 := hK.tr (m12 hkU7)
        have hK := hK_U7
        have e164 : mI U7 164 0 = mI S 164 0 := (hkU7.I (f := 164) (i := 0) rfl).trans e164
        have hRe : ∀ j, j < nt → (mR U7 152 j = none → ¬ vV U7 6 j) ∧ (mR U7 152 j ≠ none → mI S 146 j < mI S 164 0 ∨ mI S 146 j = mI S 164 0) := fun j hj => by rw [show mR U7 152 j = mR U4 152 j from hkU7.R rfl, show vV U7 6 j = vV U4 6 j from hkU7.V rfl]; exact hRe j hj
        refine lv_aload_n hx hb dX10_endHour_140 rfl (lv_at hl 1 rfl) ?_
        refine rE0 ((rfl).trans ((hK_U7.G (t := 10) (i := 0) rfl)).symm) ?_
        refine g_10_2 (S := U7) (x := (some (gG U7 4 0))) X w h.v10 wF_X10_28 (h.f162) dX10_endHour_141 ?_
        refine lv_aload_n hx hb dX10_endHour_144 rfl (lv_at hl 1 rfl) ?_
        refine rE0 ((rfl).trans ((hK_U7.G (t := 10) (i := 0) rfl)).symm) ?_
        refine g_10_4 (S := U7) (x := (nI g)) X w h.v10 wF_X10_41 (e164.trans hg) dX10_endHour_145 ?_
        refine cV (S := U7) (nA := 1) (As := [.int (nI g)]) (rest := []) X w hl h.v4 (a_X4_runWire G U7 ea ns nj nm nt nr nc h (stL (tiL (recL A ns nj g nt) (g % 24) nm) g nt) hA (hea) g (by omega)) wY_X4_runWire wM_X10_434 wIn_X4_runWire wSe_X4_X4_runWire wI_X4 (by decide) rfl (by decide +kernel) rfl rfl dX10_endHour_148 ⟨by decide, by decide⟩ (Nat.le_of_ble_eq_true rfl) (⟨Nat.le_of_ble_eq_true rfl, Nat.le_of_ble_eq_true rfl⟩) (fun v13 U10 H locs hp w => ?_)
        obtain ⟨rfl, nc11, h, hkU10, hA⟩ := hp
        have hK_U10 : Kq (hidV true) hiP (hidR true) S U10 := hK.tr (m12 hkU10)
        have hK := hK_U10
        have e164 : mI U10 164 0 = mI S 164 0 := (hkU10.I (f := 164) (i := 0) rfl).trans e164
        have hRe : ∀ j, j < nt → (mR U10 152 j = none → ¬ vV U10 6 j) ∧ (mR U10 152 j ≠ none → mI S 146 j < mI S 164 0 ∨ mI S 146 j = mI S 164 0) := fun j hj => by rw [show mR U10 152 j = mR U7 152 j from hkU10.R rfl, show vV U10 6 j = vV U7 6 j from hkU10.V rfl]; exact hRe j hj
        refine lv_aload_n hx hb dX10_endHour_151 rfl (lv_at hl 1 rfl) ?_
        refine lv_dup hx hb dX10_endHour_152 rfl ?_
        refine rE0 ((rfl).trans ((hK_U10.G (t := 10) (i := 0) rfl)).symm) ?_
        refine g_10_4 (S := U10) (x := (nI g)) X w h.v10 wF_X10_41 (e164.trans hg) dX10_endHour_153 ?_
        refine lv_iconst (v := 1) hx hb dX10_endHour_156 (by decide) ?_
        refine lv_iadd hx hb dX10_endHour_157 ?_
        refine lv_topi (fun z14 ez14 => ?_)
        obtain rfl : z14 = nI (g + 1) := ez14.trans (nI_1 _)
        refine rE1 ((rfl).trans ((hK_U10.G (t := 10) (i := 0) rfl)).symm) ?_
        refine p_10_4 (S := U10) (x := (nI (g + 1))) X w h.v10 wF_X10_41 dX10_endHour_158 (fun H locs w => ?_)
        have h : CI ea (sI U10 164 0 (nI (g + 1))) ns nj nm nt nr nc11 := h.s164 (by omega)
        have hK : Kq (hidV true) hiP (hidR true) S (sI U10 164 0 (nI (g + 1))) := hK.sI rfl
        have hA : RK (sI U10 164 0 (nI (g + 1))) (sI (hoB A ns nj nm nt nr g) 257 0 (nI (g + 1))) ns nj nm nt nr nc11 := hA.hr
        refine lv_aload_n hx hb dX10_endHour_161 rfl (lv_at hl 1 rfl) ?_
        refine rE0 ((rfl).trans ((hK_U10.G (t := 10) (i := 0) rfl)).symm) ?_
        refine cV (S := (sI U10 164 0 (nI (g + 1)))) (nA := 0) (As := []) (rest := []) X w hl h.v10 (m_X10_hourOfDay G (sI U10 164 0 (nI (g + 1))) ea ns nj nm nt nr nc11 h ) wY_X10_hourOfDay wM_X10_411 wIn_X10_hourOfDay wSe_X10_X10_hourOfDay wI_X10 (by decide) rfl (by decide +kernel) rfl rfl dX10_endHour_162 ⟨by decide, by decide⟩ (Nat.le_of_ble_eq_true rfl) (⟨(show 80 + 0 ≤ 80 by have := h.b_ta; omega), (show 2480 + 0 ≤ 2480 by have := h.b_ta; omega)⟩) (fun v15 S1 H locs hp w => ?_)
        obtain ⟨rfl, rfl⟩ := hp
        refine lv_topi (fun z16 ez16 => ?_)
        obtain rfl : z16 = (nI ((g + 1) % 24)) := ez16.trans (hod rfl (by omega))
        refine lv_if_ne (tgt := 178) hx hb dX10_endHour_165 (by decide) (fun hzz => ?_) (fun hzz => ?_)
        · exact rV X w rfl dX10_endHour_178 (Nat.le_of_ble_eq_true rfl) (Nat.le_of_ble_eq_true rfl) (⟨rfl, _, h, hK, by first | (rw [hoA_f hzz]; exact hA) | (rw [hoA_t hzz]; exact hA), rfl, rh_fin hRe (fun _ => rfl) (fun _ => rfl) h0.x_th hg hg7 (fun j => hK.I rfl) rfl⟩)
        · refine lv_aload_n hx hb dX10_endHour_168 rfl (lv_at hl 1 rfl) ?_
          refine rE0 ((rfl).trans ((hK_U10.G (t := 10) (i := 0) rfl)).symm) ?_
          refine g_10_2 (S := (sI U10 164 0 (nI (g + 1)))) (x := (some (gG (sI U10 164 0 (nI (g + 1))) 4 0))) X w h.v10 wF_X10_28 (h.f162) dX10_endHour_169 ?_
          refine lv_sipush (v := 600) hx hb dX10_endHour_172 (by decide) ?_
          refine p_4_5 (S := (sI U10 164 0 (nI (g + 1)))) (x := 600) X w h.v4 wF_X10_437 dX10_endHour_175 (fun H locs w => ?_)
          have h : CI ea (sI (sI U10 164 0 (nI (g + 1))) 69 0 600) ns nj nm nt nr nc11 := h.s69 (by decide)
          have hK : Kq (hidV true) hiP (hidR true) S (sI (sI U10 164 0 (nI (g + 1))) 69 0 600) := hK.sI rfl
          have hA : RK (sI (sI U10 164 0 (nI (g + 1))) 69 0 600) (sI (sI (hoB A ns nj nm nt nr g) 257 0 (nI (g + 1))) 258 0 600) ns nj nm nt nr nc11 := hA.dy
          exact rV X w rfl dX10_endHour_178 (Nat.le_of_ble_eq_true rfl) (Nat.le_of_ble_eq_true rfl) (⟨rfl, _, h, hK, by first | (rw [hoA_f hzz]; exact hA) | (rw [hoA_t hzz]; exact hA), rfl, rh_fin hRe (fun _ => rfl) (fun _ => rfl) h0.x_th hg hg7 (fun j => hK.I rfl) rfl⟩)
      · have hlt_k2 : k2 < nt := by
          have hb1 := h.b_ta
          exact Nat.lt_of_not_le (fun z => hc_k2 ((nI_leI (a := nt) (b := k2) (by omega) (by omega)).mpr z))
        refine lv_aload_n hx hb dX10_endHour_16 rfl (lv_at hl 1 rfl) ?_
        refine rE0 ((rfl).trans ((hK_T2.G (t := 10) (i := 0) rfl)).symm) ?_
        refine g_10_2 (S := T2) (x := (some (gG T2 4 0))) X w h.v10 wF_X10_28 (h.f162) dX10_endHour_17 ?_
        refine g_4_0 (S := T2) (x := (some (gG T2 17 3))) X w h.v4 wF_X10_162 (h.f64) dX10_endHour_20 ?_
        refine lv_iload_n hx hb dX10_endHour_23 rfl (lv_at hl 0 rfl) ?_
        refine cV (S := T2) (nA := 1) (As := [.int (nI k2)]) (rest := []) X w hl h.l_ta.1 (m_get G T2 ea 3 k2 nt (some (gG T2 9 k2)) h.l_ta hlt_k2 (h.e_ta k2 hlt_k2).1) wY_Jx4a65c_get_915e3 wM_X10_417 wIn_Jx4a65c_get_915e3 wSe_Jx4a65c_Jx4a65c_get_915e3 wI_Jx4a65c (by decide) rfl (by decide +kernel) rfl rfl dX10_endHour_24 ⟨by decide, by decide⟩ (Nat.le_of_ble_eq_true rfl) (⟨(show k2 + 0 ≤ 80 by have := h.b_ta; omega), (show 13 * k2 + 0 ≤ 2480 by have := h.b_ta; omega)⟩) (fun v17 S1 H locs hp w => ?_)
        obtain ⟨rfl, rfl⟩ := hp
        refine ckC (S := T2) (t := 9) X w (h.e_ta k2 hlt_k2).2 (by decide) rfl wC_X10_177 dX10_endHour_27 ?_
        refine lv_astore_n (lv' := [(2, .ref (gG T2 9 k2)), (1, .int (nI k2)), (0, .ref (gG S 10 0))]) hx hb dX10_endHour_30 rfl hl (by decide) rfl (fun ls hl => ?_)
        refine lv_aload_n hx hb dX10_endHour_31 rfl (lv_at hl 0 rfl) ?_
        refine g_9_2 (S := T2) (x := (mI (recL A ns nj g k2) 241 k2)) X w (h.e_ta k2 hlt_k2).2 wF_X10_333 ((hA.rc.2.2.2.1 k2 hlt_k2).2.1) dX10_endHour_32 ?_
        refine lv_aload_n hx hb dX10_endHour_35 rfl (lv_at hl 2 rfl) ?_
        refine rE0 ((rfl).trans ((hK_T2.G (t := 10) (i := 0) rfl)).symm) ?_
        refine g_10_4 (S := T2) (x := (nI g)) X w h.v10 wF_X10_41 (e164.trans hg) dX10_endHour_36 ?_
        refine lv_icmp_ne (tgt := 60) hx hb dX10_endHour_39 (by decide) (fun hth => ?_) (fun hth => ?_)
        · refine lv_iconst (v := (-1)) hx hb dX10_endHour_60 (by decide) ?_
          refine lv_istore_n (lv' := [(3, .int (-1)), (2, .ref (gG T2 9 k2)), (1, .int (nI k2)), (0, .ref (gG S 10 0))]) hx hb dX10_endHour_61 rfl hl (by decide) rfl (fun ls hl => ?_)
          refine lv_iload_n hx hb dX10_endHour_62 rfl (lv_at hl 0 rfl) ?_
          refine lv_iconst (v := (-1)) hx hb dX10_endHour_63 (by decide) ?_
          refine lv_icmp_eq (tgt := 112) hx hb dX10_endHour_64 (by decide) (fun hrc => ?_) (fun hrc => ?_)
          · refine lv_iinc (v := nI (k2 + 1)) (lv' := [(1, .int (nI (k2 + 1))), (3, .int (-1)), (2, .ref (gG T2 9 k2)), (0, .ref (gG S 10 0))]) hx hb dX10_endHour_112 hl (k := 2) rfl (nI_1 _) (by decide) rfl (fun ls hl => ?_)
            refine lv_goto (tgt := 2) hx hb dX10_endHour_115 (by decide) ?_
            refine W.widen (k := k2 + 1) (n := 13 * (k2 + 1)) (by first | exact Nat.le_succ k2 | exact Nat.le_refl (k2 + 1)) (by first | exact (show 13 * k2 ≤ 13 * (k2 + 1) by omega) | exact (show 13 * k2 + 13 ≤ 13 * (k2 + 1) by omega)) ?_
            have hA : RK T2 (recL A ns nj g (k2 + 1)) ns nj nm nt nr nc := by first | (rw [recL_f hth]; exact hA) | (rw [recL_0 hth (esv.symm.trans hrc)]; exact hA) | (rw [recL_1 hth hbb ebb]; exact hA)
            exact ih2 (k2 + 1) T2 _ _ _ (by omega) (hlt_k2) (hA) (h) (hK) (by first | exact hRH9 | exact fun j hj => ⟨(hRH j hj).1, fun z => ((hRH j hj).2 z).imp id (fun y => ⟨y.1, by omega⟩)⟩) (e164) w (lv_sub hl [0, 3] rfl)
          · exact absurd hrc (by decide)
        · have hth9 : mI S 146 k2 = mI S 164 0 := ((hK_T2.I (f := 146) (i := k2) rfl).symm.trans (((hA.rc.2.2.2.1 k2 hlt_k2).2.1).trans hth)).trans hg.symm
          refine lv_aload_n hx hb dX10_endHour_42 rfl (lv_at hl 2 rfl) ?_
          refine rE0 ((rfl).trans ((hK_T2.G (t := 10) (i := 0) rfl)).symm) ?_
          refine g_10_1 (S := T2) (x := (some (gG T2 7 0))) X w h.v10 wF_X10_21 (h.f161) dX10_endHour_43 ?_
          refine lv_aload_n hx hb dX10_endHour_46 rfl (lv_at hl 0 rfl) ?_
          refine g_9_1 (S := T2) (x := (some (gG T2 8 (tS (recL A ns nj g k2) k2)))) X w (h.e_ta k2 hlt_k2).2 wF_X10_326 ((hA.rc.tSx h.b_st hlt_k2).2.2) dX10_endHour_47 ?_
          refine lv_aload_n hx hb dX10_endHour_50 rfl (lv_at hl 2 rfl) ?_
          refine rE0 ((rfl).trans ((hK_T2.G (t := 10) (i := 0) rfl)).symm) ?_
          refine cV (S := T2) (nA := 0) (As := []) (rest := [.ref (gG T2 8 (tS (recL A ns nj g k2) k2)), .ref (gG T2 7 0)]) X w hl h.v10 (m_X10_hourOfDay G T2 ea ns nj nm nt nr nc h ) wY_X10_hourOfDay wM_X10_411 wIn_X10_hourOfDay wSe_X10_X10_hourOfDay wI_X10 (by decide) rfl (by decide +kernel) rfl rfl dX10_endHour_51 ⟨by decide, by decide⟩ (Nat.le_of_ble_eq_true rfl) (⟨(show k2 + 0 ≤ 80 by have := h.b_ta; omega), (show 13 * k2 + 0 ≤ 2480 by have := h.b_ta; omega)⟩) (fun v18 S1 H locs hp w => ?_)
          obtain ⟨rfl, rfl⟩ := hp
          refine lv_topi (fun z19 ez19 => ?_)
          obtain rfl : z19 = (nI (g % 24)) := ez19.trans (hod (e164.trans hg) (by omega))
          refine cV (S := T2) (nA := 2) (As := [.ref (gG T2 8 (tS (recL A ns nj g k2) k2)), .int (nI (g % 24))]) (rest := []) X w hl h.v7 (a_X7_setThatHears G T2 ea ns nj nm nt nr nc h (recL A ns nj g k2) hA k2 (g % 24) hlt_k2 (Nat.mod_lt _ (by decide))) wY_X7_setThatHears wM_X10_374 wIn_X7_setThatHears wSe_X7_X7_setThatHears wI_X7 (by decide) rfl (by decide +kernel) rfl rfl dX10_endHour_54 ⟨by decide, by decide⟩ (Nat.le_of_ble_eq_true rfl) (⟨(show k2 + 0 ≤ 80 by have := h.b_ta; omega), (show 13 * k2 + 0 ≤ 2480 by have := h.b_ta; omega)⟩) (fun v20 S1 H locs hp w => ?_)
          obtain ⟨rfl, rfl⟩ := hp
          refine lv_topi (fun sv esv => ?_)
          have esv : sv = rRec (recL A ns nj g k2) ns nj k2 (g % 24) 3 := esv
          refine lv_goto (tgt := 61) hx hb dX10_endHour_57 (by decide) ?_
          refine lv_istore_n (lv' := [(3, .int sv), (2, .ref (gG T2 9 k2)), (1, .int (nI k2)), (0, .ref (gG S 10 0))]) hx hb dX10_endHour_61 rfl hl (by decide) rfl (fun ls hl => ?_)
          refine lv_iload_n hx hb dX10_endHour_62 rfl (lv_at hl 0 rfl) ?_
          refine lv_iconst (v := (-1)) hx hb dX10_endHour_63 (by decide) ?_
          refine lv_icmp_eq (tgt := 112) hx hb dX10_endHour_64 (by decide) (fun hrc => ?_) (fun hrc => ?_)
          · refine lv_iinc (v := nI (k2 + 1)) (lv' := [(1, .int (nI (k2 + 1))), (3, .int sv), (2, .ref (gG T2 9 k2)), (0, .ref (gG S 10 0))]) hx hb dX10_endHour_112 hl (k := 2) rfl (nI_1 _) (by decide) rfl (fun ls hl => ?_)
            refine lv_goto (tgt := 2) hx hb dX10_endHour_115 (by decide) ?_
            refine W.widen (k := k2 + 1) (n := 13 * (k2 + 1)) (by first | exact Nat.le_succ k2 | exact Nat.le_refl (k2 + 1)) (by first | exact (show 13 * k2 ≤ 13 * (k2 + 1) by omega) | exact (show 13 * k2 + 13 ≤ 13 * (k2 + 1) by omega)) ?_
            have hA : RK T2 (recL A ns nj g (k2 + 1)) ns nj nm nt nr nc := by first | (rw [recL_f hth]; exact hA) | (rw [recL_0 hth (esv.symm.trans hrc)]; exact hA) | (rw [recL_1 hth hbb ebb]; exact hA)
            exact ih2 (k2 + 1) T2 _ _ _ (by omega) (hlt_k2) (hA) (h) (hK) (by first | exact hRH9 | exact fun j hj => ⟨(hRH j hj).1, fun z => ((hRH j hj).2 z).imp id (fun y => ⟨y.1, by omega⟩)⟩) (e164) w (lv_sub hl [0, 3] rfl)
          · obtain ⟨bb, hbb, ebb, hsb9⟩ := (rRec_in (S := (recL A ns nj g k2)) (ns := ns) (nj := nj) (j := k2) (a := g % 24) 3).resolve_left (fun z => hrc (esv.trans z))
            obtain rfl : sv = nI bb := esv.trans ebb
            have h36 := rSlot_h hsb9
            have hts9 := hA.rc.tSx h.b_st hlt_k2
            have hb8 := h.b_st
            have hbm9 := h.b_mo
            obtain ⟨sm, mm, hsm, hmm, e36, e37⟩ := (hA.ok.slot (x := g % 24) (k := bb) (Nat.mod_lt _ (by decide)) hbb).resolve_left (fun z => nI_neg1 (by have := hts9.1; omega) (h36.symm.trans z.1))
            have emm : sitN (recL A ns nj g k2) (g % 24) bb = mm := by unfold sitN; rw [e37, nI_clamp (by omega)]
            have eqa : rQA (recL A ns nj g k2) ns nj (g % 24) bb = rQual (recL A ns nj g k2) ns nj (sitN (recL A ns nj g k2) (g % 24) bb) (tS (recL A ns nj g k2) k2) (nI (g % 24)) := (slot_t hA.ok h.b_st h.b_mo hts9.1 (Nat.mod_lt _ (by decide)) hbb h36).trans (if_pos h36)
            obtain ⟨qq, hqq, eqq⟩ := rQual_b (A := (recL A ns nj g k2)) (ns := ns) (nj := nj) (m := sitN (recL A ns nj g k2) (g % 24) bb) (i := tS (recL A ns nj g k2) k2) (a := nI (g % 24))
            have hq1 : 1 ≤ qq := by
              rcases Nat.eq_zero_or_pos qq with z | z
              · exfalso
                apply hsb9
                rw [show rSlotQ (recL A ns nj g k2) ns nj k2 (g % 24) bb = rQual (recL A ns nj g k2) ns nj (sitN (recL A ns nj g k2) (g % 24) bb) (tS (recL A ns nj g k2) k2) (nI (g % 24)) from if_pos h36, eqq, z]; rfl
              · exact z
            refine lv_aload_n hx hb dX10_endHour_67 rfl (lv_at hl 3 rfl) ?_
            refine rE0 ((rfl).trans ((hK_T2.G (t := 10) (i := 0) rfl)).symm) ?_
            refine g_10_1 (S := T2) (x := (some (gG T2 7 0))) X w h.v10 wF_X10_21 (h.f161) dX10_endHour_68 ?_
            refine lv_aload_n hx hb dX10_endHour_71 rfl (lv_at hl 3 rfl) ?_
            refine rE0 ((rfl).trans ((hK_T2.G (t := 10) (i := 0) rfl)).symm) ?_
            refine cV (S := T2) (nA := 0) (As := []) (rest := [.ref (gG T2 7 0)]) X w hl h.v10 (m_X10_hourOfDay G T2 ea ns nj nm nt nr nc h ) wY_X10_hourOfDay wM_X10_411 wIn_X10_hourOfDay wSe_X10_X10_hourOfDay wI_X10 (by decide) rfl (by decide +kernel) rfl rfl dX10_endHour_72 ⟨by decide, by decide⟩ (Nat.le_of_ble_eq_true rfl) (⟨(show k2 + 0 ≤ 80 by have := h.b_ta; omega), (show 13 * k2 + 0 ≤ 2480 by have := h.b_ta; omega)⟩) (fun v21 S1 H locs hp w => ?_)
            obtain ⟨rfl, rfl⟩ := hp
            refine lv_topi (fun z22 ez22 => ?_)
            obtain rfl : z22 = (nI (g % 24)) := ez22.trans (hod (e164.trans hg) (by omega))
            refine lv_iload_n hx hb dX10_endHour_75 rfl (lv_at hl 0 rfl) ?_
            refine cV (S := T2) (nA := 2) (As := [.int (nI (g % 24)), .int (nI bb)]) (rest := []) X w hl h.v7 (a_X7_qualityAt G T2 ea ns nj nm nt nr nc h (recL A ns nj g k2) hA (g % 24) bb (Nat.mod_lt _ (by decide)) hbb) wY_X7_qualityAt wM_X10_377 wIn_X7_qualityAt wSe_X7_X7_qualityAt wI_X7 (by decide) rfl (by decide +kernel) rfl rfl dX10_endHour_76 ⟨by decide, by decide⟩ (Nat.le_of_ble_eq_true rfl) (⟨(show k2 + 0 ≤ 80 by have := h.b_ta; omega), (show 13 * k2 + 0 ≤ 2480 by have := h.b_ta; omega)⟩) (fun v23 S1 H locs hp w => ?_)
            obtain ⟨rfl, rfl⟩ := hp
            refine lv_topi (fun z24 ez24 => ?_)
            obtain rfl : z24 = (nI qq) := ez24.trans (eqa.trans eqq)
            refine lv_istore (lv' := [(4, .int (nI qq)), (3, .int (nI bb)), (2, .ref (gG T2 9 k2)), (1, .int (nI k2)), (0, .ref (gG S 10 0))]) hx hb dX10_endHour_79 hl (by decide) rfl (fun ls hl => ?_)
            have hno : mR T2 152 k2 = none ∧ ¬ vV T2 6 k2 := by
              cases ec : mR T2 152 k2 with
              | none => exact ⟨rfl, (hRH k2 hlt_k2).1 ec⟩
              | some y =>
                rcases (hRH k2 hlt_k2).2 (by rw [ec]; exact Option.some_ne_none _) with z | z
                · rw [hth9] at z; exact absurd z Int32.lt_irrefl
                · omega
            obtain ⟨f9, hf9, ef8⟩ := (hA.ok.2.2.1 k2 hlt_k2).2.2.2.1
            have ef9 : mI T2 150 k2 = nI f9 := ((hA.rc.2.2.2.1 k2 hlt_k2).2.2.2.2.2).trans ef8
            have h9 := h
            have hAT := hA
            refine lv_aload_n hx hb dX10_endHour_81 rfl (lv_at hl 4 rfl) ?_
            refine rE0 ((rfl).trans ((hK_T2.G (t := 10) (i := 0) rfl)).symm) ?_
            refine g_10_2 (S := T2) (x := (some (gG T2 4 0))) X w h.v10 wF_X10_28 (h.f162) dX10_endHour_82 ?_
            refine lv_aload_n hx hb dX10_endHour_85 rfl (lv_at hl 2 rfl) ?_
            refine nwO (S := T2) (t := 6) (n := 13) X w k2 (hno.2) (Or.inl (by decide)) (by decide) rfl in_6 tyX6 tyX6_ok (by decide +kernel) wC_X10_202 wNew_X6 wI_X6 dX10_endHour_86 rfl ((show k2 + 1 ≤ 80 by have := h.b_ta; omega)) ((show 13 * k2 + 13 ≤ 2480 by have := h.b_ta; omega)) (fun q1 S2 H hS2 w => ?_)
            subst hS2
            have h : CI ea (sNew T2 6 k2 q1) ns nj nm nt nr nc := h.new6 hlt_k2 hno.1
            have hK : Kq (hidV true) hiP (hidR true) S (sNew T2 6 k2 q1) := hK.new rfl (by decide) (fun f z => hiP6 z) (fun f z => hidR6 z)
            have hA : RK (sNew T2 6 k2 q1) (recL A ns nj g k2) ns nj nm nt nr nc := hA.new6 hno.1
            have e164 : mI (sNew T2 6 k2 q1) 164 0 = mI S 164 0 := e164
            refine lv_dup hx hb dX10_endHour_89 rfl ?_
            refine lv_aload_n hx hb dX10_endHour_90 rfl (lv_at hl 2 rfl) ?_
            refine lv_iload_n hx hb dX10_endHour_91 rfl (lv_at hl 1 rfl) ?_
            refine lv_aload_n hx hb dX10_endHour_92 rfl (lv_at hl 4 rfl) ?_
            refine rE0 ((rfl).trans ((hK_T2.G (t := 10) (i := 0) rfl)).symm) ?_
            refine g_10_1 (S := (sNew T2 6 k2 q1)) (x := (some (gG (sNew T2 6 k2 q1) 7 0))) X w h.v10 wF_X10_21 (h.f161) dX10_endHour_93 ?_
            refine lv_aload_n hx hb dX10_endHour_96 rfl (lv_at hl 4 rfl) ?_
            refine rE0 ((rfl).trans ((hK_T2.G (t := 10) (i := 0) rfl)).symm) ?_
            refine cV (S := (sNew T2 6 k2 q1)) (nA := 0) (As := []) (rest := [.ref (gG (sNew T2 6 k2 q1) 7 0), .int (nI bb), .ref (gG T2 9 k2), .ref (gG (sNew T2 6 k2 q1) 6 k2), .ref (gG (sNew T2 6 k2 q1) 6 k2), .ref (gG T2 9 k2), .ref (gG T2 4 0)]) X w hl h.v10 (m_X10_hourOfDay G (sNew T2 6 k2 q1) ea ns nj nm nt nr nc h ) wY_X10_hourOfDay wM_X10_411 wIn_X10_hourOfDay wSe_X10_X10_hourOfDay wI_X10 (by decide) rfl (by decide +kernel) rfl rfl dX10_endHour_97 ⟨by decide, by decide⟩ (Nat.le_of_ble_eq_true rfl) (⟨(show k2 + 1 + 0 ≤ 80 by have := h.b_ta; omega), (show 13 * k2 + 13 + 0 ≤ 2480 by have := h.b_ta; omega)⟩) (fun v26 S1 H locs hp w => ?_)
            obtain ⟨rfl, rfl⟩ := hp
            refine lv_topi (fun z27 ez27 => ?_)
            obtain rfl : z27 = (nI (g % 24)) := ez27.trans (hod (e164.trans hg) (by omega))
            refine lv_iload_n hx hb dX10_endHour_100 rfl (lv_at hl 1 rfl) ?_
            refine cV (S := (sNew T2 6 k2 q1)) (nA := 2) (As := [.int (nI (g % 24)), .int (nI bb)]) (rest := [.int (nI bb), .ref (gG T2 9 k2), .ref (gG (sNew T2 6 k2 q1) 6 k2), .ref (gG (sNew T2 6 k2 q1) 6 k2), .ref (gG T2 9 k2), .ref (gG T2 4 0)]) X w hl h.v7 (a_X7_monitorIn G (sNew T2 6 k2 q1) ea ns nj nm nt nr nc h (recL A ns nj g k2) hA (g % 24) bb (Nat.mod_lt _ (by decide)) hbb) wY_X7_monitorIn wM_X10_259 wIn_X7_monitorIn wSe_X7_X7_monitorIn wI_X7 (by decide) rfl (by decide +kernel) rfl rfl dX10_endHour_101 ⟨by decide, by decide⟩ (Nat.le_of_ble_eq_true rfl) (⟨(show k2 + 1 + 0 ≤ 80 by have := h.b_ta; omega), (show 13 * k2 + 13 + 0 ≤ 2480 by have := h.b_ta; omega)⟩) (fun v28 S1 H locs hp w => ?_)
            obtain ⟨rfl, rfl⟩ := hp
            refine lv_topi (fun z29 ez29 => ?_)
            obtain rfl : z29 = (nI mm) := ez29.trans (e37)
            refine lv_iload hx hb dX10_endHour_104 (lv_at hl 0 rfl) ?_
            refine cI (S := (sNew T2 6 k2 q1)) (nA := 4) (As := [.ref (gG T2 9 k2), .int (nI bb), .int (nI mm), .int (nI qq)]) (rest := [.ref (gG (sNew T2 6 k2 q1) 6 k2), .ref (gG T2 9 k2), .ref (gG T2 4 0)]) X w hl (e_X6_init G (sNew T2 6 k2 q1) k2 k2 qq f9 (nI bb) (nI mm) (Or.inr ⟨rfl, rfl⟩) (Or.inl (h9.e_ta k2 hlt_k2).2) hqq hf9 ef9) wY_X6_init wM_X10_421 wIn_X6_init wI_X6 rfl (by decide +kernel) rfl rfl dX10_endHour_106 ⟨by decide, by decide⟩ (Nat.le_of_ble_eq_true rfl) (⟨(show k2 + 1 + 0 ≤ 80 by have := h.b_ta; omega), (show 13 * k2 + 13 + 0 ≤ 2480 by have := h.b_ta; omega)⟩) (fun v30 S1 H locs hp w => ?_)
            obtain ⟨rfl, rfl⟩ := hp
            refine cV (S := (rep6 (sNew T2 6 k2 q1) k2 (nI bb) (nI mm) (nI qq) (rSort (mI T2 149 k2)) (rCaught (mI T2 148 k2) (nI qq)) (rLen (mI T2 149 k2) (mI T2 148 k2) (nI qq)) (rHeard (mI T2 150 k2) (nI qq)) (rGuess (mI T2 150 k2) (nI qq)))) (nA := 2) (As := [.ref (gG T2 9 k2), .ref (gG (sNew T2 6 k2 q1) 6 k2)]) (rest := []) X w hl h.v4 (e_X4_file G (rep6 (sNew T2 6 k2 q1) k2 (nI bb) (nI mm) (nI qq) (rSort (mI T2 149 k2)) (rCaught (mI T2 148 k2) (nI qq)) (rLen (mI T2 149 k2) (mI T2 148 k2) (nI qq)) (rHeard (mI T2 150 k2) (nI qq)) (rGuess (mI T2 150 k2) (nI qq))) k2 (tS (recL A ns nj g k2) k2) (rSort (mI T2 149 k2)) (Or.inl h9.v4) (Or.inl (h9.e_ta k2 hlt_k2).2) (Or.inr ⟨rfl, rfl⟩) (Or.inl (h9.e_st _ (hAT.rc.tSx h9.b_st hlt_k2).1).2) (hAT.rc.tSx h9.b_st hlt_k2).2.2 (by simp [mI, sI, sNew, rep6, up2])) wY_X4_file wM_X10_424 wIn_X4_file wSe_X4_X4_file wI_X4 (by decide) rfl (by decide +kernel) rfl rfl dX10_endHour_109 ⟨by decide, by decide⟩ (Nat.le_of_ble_eq_true rfl) (⟨(show k2 + 1 + 0 ≤ 80 by have := h.b_ta; omega), (show 13 * k2 + 13 + 0 ≤ 2480 by have := h.b_ta; omega)⟩) (fun v31 S1 H locs hp w => ?_)
            obtain ⟨rfl, rfl⟩ := hp
            have ex9 : (fiS (rSort (mI T2 149 k2)) (mI T2 70 0) (mI T2 132 (tS (recL A ns nj g k2) k2))) = recS (recL A ns nj g k2) k2 := recS_eq (congrArg rSort (hAT.rc.2.2.2.1 k2 hlt_k2).2.2.2.2.1) hAT.rc.2.2.2.2.1 (hAT.rc.1 _ (hAT.rc.tSx h9.b_st hlt_k2).1).2.2.2.1
            have hxL : ∃ xL : Nat, xL ≤ 300 ∧ rLen (mI T2 149 k2) (mI T2 148 k2) (nI qq) = nI xL := by
              obtain ⟨w8, hw8, ew8⟩ := h9.x_tw k2 hlt_k2
              rw [ew8]; exact rLen_b hw8 hqq
            obtain ⟨xL9, hxL9, exL9⟩ := hxL
            have h : CI ea (sR (sI (rep6 (sNew T2 6 k2 q1) k2 (nI bb) (nI mm) (nI qq) (rSort (mI T2 149 k2)) (rCaught (mI T2 148 k2) (nI qq)) (rLen (mI T2 149 k2) (mI T2 148 k2) (nI qq)) (rHeard (mI T2 150 k2) (nI qq)) (rGuess (mI T2 150 k2) (nI qq))) 104 k2 (fiS (rSort (mI T2 149 k2)) (mI T2 70 0) (mI T2 132 (tS (recL A ns nj g k2) k2)))) 152 k2 (some (gG (sNew T2 6 k2 q1) 6 k2))) ns nj nm nt nr nc := by
              rw [exL9]
              exact h9.rep hlt_k2 hno.1 hxL9 fiS_1
            have hA : RK (sR (sI (rep6 (sNew T2 6 k2 q1) k2 (nI bb) (nI mm) (nI qq) (rSort (mI T2 149 k2)) (rCaught (mI T2 148 k2) (nI qq)) (rLen (mI T2 149 k2) (mI T2 148 k2) (nI qq)) (rHeard (mI T2 150 k2) (nI qq)) (rGuess (mI T2 150 k2) (nI qq))) 104 k2 (fiS (rSort (mI T2 149 k2)) (mI T2 70 0) (mI T2 132 (tS (recL A ns nj g k2) k2)))) 152 k2 (some (gG (sNew T2 6 k2 q1) 6 k2))) (recB (recL A ns nj g k2) ns nj (g % 24) k2 bb) ns nj nm nt nr nc := by
              rw [recB_X, eqq, emm, ← ex9]
              exact hAT.rec h9.b_re h9.b_mo hlt_k2 hno.1 hmm hq1 hqq (congrArg rSort (hAT.rc.2.2.2.1 k2 hlt_k2).2.2.2.2.1) (by rw [(hAT.rc.2.2.2.1 k2 hlt_k2).2.2.2.2.1, (hAT.rc.2.2.2.1 k2 hlt_k2).2.2.2.1]) (by rw [(hAT.rc.2.2.2.1 k2 hlt_k2).2.2.2.1]) (by rw [(hAT.rc.2.2.2.1 k2 hlt_k2).2.2.2.2.2]) (by rw [(hAT.rc.2.2.2.1 k2 hlt_k2).2.2.2.2.2]) (fun z => by have := fiS_0 z; rw [(hAT.rc.2.2.2.1 k2 hlt_k2).2.2.2.2.1] at this; exact this) fiS_1 fiS_m
            have hK : Kq (hidV true) hiP (hidR true) S (sR (sI (rep6 (sNew T2 6 k2 q1) k2 (nI bb) (nI mm) (nI qq) (rSort (mI T2 149 k2)) (rCaught (mI T2 148 k2) (nI qq)) (rLen (mI T2 149 k2) (mI T2 148 k2) (nI qq)) (rHeard (mI T2 150 k2) (nI qq)) (rGuess (mI T2 150 k2) (nI qq))) 104 k2 (fiS (rSort (mI T2 149 k2)) (mI T2 70 0) (mI T2 132 (tS (recL A ns nj g k2) k2)))) 152 k2 (some (gG (sNew T2 6 k2 q1) 6 k2))) := ((((((((((((((hK_T2.new (t := 6) (i := k2) (q := q1) rfl (by decide) (fun f z => hiP6 z) (fun f z => hidR6 z)).sI rfl).sI rfl).sI rfl).sI rfl).sI rfl).sI rfl).sI rfl).sI rfl).sI rfl).sI rfl).sI rfl).sI rfl).sR rfl)
            have e164 : mI (sR (sI (rep6 (sNew T2 6 k2 q1) k2 (nI bb) (nI mm) (nI qq) (rSort (mI T2 149 k2)) (rCaught (mI T2 148 k2) (nI qq)) (rLen (mI T2 149 k2) (mI T2 148 k2) (nI qq)) (rHeard (mI T2 150 k2) (nI qq)) (rGuess (mI T2 150 k2) (nI qq))) 104 k2 (fiS (rSort (mI T2 149 k2)) (mI T2 70 0) (mI T2 132 (tS (recL A ns nj g k2) k2)))) 152 k2 (some (gG (sNew T2 6 k2 q1) 6 k2))) 164 0 = mI S 164 0 := e164
            have hRH9 : ∀ j, j < nt → (mR (sR (sI (rep6 (sNew T2 6 k2 q1) k2 (nI bb) (nI mm) (nI qq) (rSort (mI T2 149 k2)) (rCaught (mI T2 148 k2) (nI qq)) (rLen (mI T2 149 k2) (mI T2 148 k2) (nI qq)) (rHeard (mI T2 150 k2) (nI qq)) (rGuess (mI T2 150 k2) (nI qq))) 104 k2 (fiS (rSort (mI T2 149 k2)) (mI T2 70 0) (mI T2 132 (tS (recL A ns nj g k2) k2)))) 152 k2 (some (gG (sNew T2 6 k2 q1) 6 k2))) 152 j = none → ¬ vV (sR (sI (rep6 (sNew T2 6 k2 q1) k2 (nI bb) (nI mm) (nI qq) (rSort (mI T2 149 k2)) (rCaught (mI T2 148 k2) (nI qq)) (rLen (mI T2 149 k2) (mI T2 148 k2) (nI qq)) (rHeard (mI T2 150 k2) (nI qq)) (rGuess (mI T2 150 k2) (nI qq))) 104 k2 (fiS (rSort (mI T2 149 k2)) (mI T2 70 0) (mI T2 132 (tS (recL A ns nj g k2) k2)))) 152 k2 (some (gG (sNew T2 6 k2 q1) 6 k2))) 6 j) ∧ (mR (sR (sI (rep6 (sNew T2 6 k2 q1) k2 (nI bb) (nI mm) (nI qq) (rSort (mI T2 149 k2)) (rCaught (mI T2 148 k2) (nI qq)) (rLen (mI T2 149 k2) (mI T2 148 k2) (nI qq)) (rHeard (mI T2 150 k2) (nI qq)) (rGuess (mI T2 150 k2) (nI qq))) 104 k2 (fiS (rSort (mI T2 149 k2)) (mI T2 70 0) (mI T2 132 (tS (recL A ns nj g k2) k2)))) 152 k2 (some (gG (sNew T2 6 k2 q1) 6 k2))) 152 j ≠ none → mI S 146 j < mI S 164 0 ∨ (mI S 146 j = mI S 164 0 ∧ j < k2 + 1)) := rh_step hRH hlt_k2 hth9
            refine lv_iinc (v := nI (k2 + 1)) (lv' := [(1, .int (nI (k2 + 1))), (4, .int (nI qq)), (3, .int (nI bb)), (2, .ref (gG T2 9 k2)), (0, .ref (gG S 10 0))]) hx hb dX10_endHour_112 hl (k := 3) rfl (nI_1 _) (by decide) rfl (fun ls hl => ?_)
            refine lv_goto (tgt := 2) hx hb dX10_endHour_115 (by decide) ?_
            refine W.widen (k := k2 + 1) (n := 13 * (k2 + 1)) (by first | exact Nat.le_succ k2 | exact Nat.le_refl (k2 + 1)) (by first | exact (show 13 * k2 ≤ 13 * (k2 + 1) by omega) | exact (show 13 * k2 + 13 ≤ 13 * (k2 + 1) by omega)) ?_
            have hA : RK (sR (sI (rep6 (sNew T2 6 k2 q1) k2 (nI bb) (nI mm) (nI qq) (rSort (mI T2 149 k2)) (rCaught (mI T2 148 k2) (nI qq)) (rLen (mI T2 149 k2) (mI T2 148 k2) (nI qq)) (rHeard (mI T2 150 k2) (nI qq)) (rGuess (mI T2 150 k2) (nI qq))) 104 k2 (fiS (rSort (mI T2 149 k2)) (mI T2 70 0) (mI T2 132 (tS (recL A ns nj g k2) k2)))) 152 k2 (some (gG (sNew T2 6 k2 q1) 6 k2))) (recL A ns nj g (k2 + 1)) ns nj nm nt nr nc := by first | (rw [recL_f hth]; exact hA) | (rw [recL_0 hth (esv.symm.trans hrc)]; exact hA) | (rw [recL_1 hth hbb ebb]; exact hA)
            exact ih2 (k2 + 1) (sR (sI (rep6 (sNew T2 6 k2 q1) k2 (nI bb) (nI mm) (nI qq) (rSort (mI T2 149 k2)) (rCaught (mI T2 148 k2) (nI qq)) (rLen (mI T2 149 k2) (mI T2 148 k2) (nI qq)) (rHeard (mI T2 150 k2) (nI qq)) (rGuess (mI T2 150 k2) (nI qq))) 104 k2 (fiS (rSort (mI T2 149 k2)) (mI T2 70 0) (mI T2 132 (tS (recL A ns nj g k2) k2)))) 152 k2 (some (gG (sNew T2 6 k2 q1) 6 k2))) _ _ _ (by omega) (hlt_k2) (hA) (h) (hK) (by first | exact hRH9 | exact fun j hj => ⟨(hRH j hj).1, fun z => ((hRH j hj).2 z).imp id (fun y => ⟨y.1, by omega⟩)⟩) (e164) w (lv_sub hl [0, 4] rfl)
  refine W.widen (k := 0) (n := 13 * 0) (Nat.zero_le _) (Nat.zero_le _) ?_
  exact L2 _ 0 S _ _ _ (Nat.lt_succ_self _) (Nat.zero_le _) (hA) (h) (hK) (fun j hj => ⟨(hrh j hj).1, fun z => Or.inl ((hrh j hj).2 z)⟩) (rfl) w (lv_sub hl [0, 1] rfl)

