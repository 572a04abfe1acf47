theorem nn_h {n m a : Nat} (h : a < n * m) : 0 < m := Nat.pos_of_ne_zero (fun z => by rw [z, Nat.mul_zero] at h; exact absurd h (Nat.not_lt_zero _))
theorem nn_d {n m a : Nat} (h : a < n * m) : a / m < n := Nat.div_lt_of_lt_mul (by rw [Nat.mul_comm]; exact h)

theorem dX16_meet_0 : decode cX16_meet 0 = .ok (.iload_n 0, 1) := by decide +kernel
theorem dX16_meet_1 : decode cX16_meet 1 = .ok (.iload_n 2, 1) := by decide +kernel
theorem dX16_meet_2 : decode cX16_meet 2 = .ok (.iload_n 3, 1) := by decide +kernel
theorem dX16_meet_3 : decode cX16_meet 3 = .ok (.imul, 1) := by decide +kernel
theorem dX16_meet_4 : decode cX16_meet 4 = .ok (.if_icmp .ge 32, 3) := by decide +kernel
theorem dX16_meet_7 : decode cX16_meet 7 = .ok (.iload_n 1, 1) := by decide +kernel
theorem dX16_meet_8 : decode cX16_meet 8 = .ok (.iload_n 2, 1) := by decide +kernel
theorem dX16_meet_9 : decode cX16_meet 9 = .ok (.iload_n 3, 1) := by decide +kernel
theorem dX16_meet_10 : decode cX16_meet 10 = .ok (.imul, 1) := by decide +kernel
theorem dX16_meet_11 : decode cX16_meet 11 = .ok (.if_icmp .ge 25, 3) := by decide +kernel
theorem dX16_meet_14 : decode cX16_meet 14 = .ok (.iload_n 0, 1) := by decide +kernel
theorem dX16_meet_15 : decode cX16_meet 15 = .ok (.iload_n 3, 1) := by decide +kernel
theorem dX16_meet_16 : decode cX16_meet 16 = .ok (.idiv, 1) := by decide +kernel
theorem dX16_meet_17 : decode cX16_meet 17 = .ok (.iload_n 1, 1) := by decide +kernel
theorem dX16_meet_18 : decode cX16_meet 18 = .ok (.iload_n 3, 1) := by decide +kernel
theorem dX16_meet_19 : decode cX16_meet 19 = .ok (.idiv, 1) := by decide +kernel
theorem dX16_meet_20 : decode cX16_meet 20 = .ok (.if_icmp .eq 12, 3) := by decide +kernel
theorem dX16_meet_23 : decode cX16_meet 23 = .ok (.iload_n 0, 1) := by decide +kernel
theorem dX16_meet_24 : decode cX16_meet 24 = .ok (.iload_n 3, 1) := by decide +kernel
theorem dX16_meet_25 : decode cX16_meet 25 = .ok (.irem, 1) := by decide +kernel
theorem dX16_meet_26 : decode cX16_meet 26 = .ok (.iload_n 1, 1) := by decide +kernel
theorem dX16_meet_27 : decode cX16_meet 27 = .ok (.iload_n 3, 1) := by decide +kernel
theorem dX16_meet_28 : decode cX16_meet 28 = .ok (.irem, 1) := by decide +kernel
theorem dX16_meet_29 : decode cX16_meet 29 = .ok (.if_icmp .ne 7, 3) := by decide +kernel
theorem dX16_meet_32 : decode cX16_meet 32 = .ok (.iconst 1, 1) := by decide +kernel
theorem dX16_meet_33 : decode cX16_meet 33 = .ok (.goto 4, 3) := by decide +kernel
theorem dX16_meet_36 : decode cX16_meet 36 = .ok (.iconst 0, 1) := by decide +kernel
theorem dX16_meet_37 : decode cX16_meet 37 = .ok (.ireturn, 1) := by decide +kernel
abbrev rm_m_X16_meet : Room := { frames := 0, cells := 0, slots := 0, locals := 0 }
set_option maxHeartbeats 4000000 in
set_option maxRecDepth 100000 in
theorem m_X16_meet {s0 : State} {l : Launch} {D : va_G} {cy : Nat → ClassId} (G : Gl s0 l D cy) (S : HS) (a b n0 m0 : Nat) (ha : a ≤ n0 * m0) (hb9 : b ≤ n0 * m0) (hn : n0 ≤ 8) (hm : m0 ≤ 5) : Ctr s0 l D cy yX16_meet cX16_meet 4 (some .boolean) rm_m_X16_meet S [.int (nI a), .int (nI b), .int (nI n0), .int (nI m0)] (PXz S) := by
  refine pro "CavershamShiftModel" G rfl rfl (Nat.le_of_ble_eq_true rfl) (fun p e s m below meth c ls X w hnm hl => ?_)
  have hx := X.1
  have hb := X.2.1
  have hown := X.2.2.2.1
  have hts := X.2.2.2.2.1
  have hl : lv_has ls 4 [(0, .int (nI a)), (1, .int (nI b)), (2, .int (nI n0)), (3, .int (nI m0))] := hl
  have hnm : n0 * m0 ≤ 40 := Nat.mul_le_mul hn hm
  refine lv_iload_n hx hb dX16_meet_0 rfl (lv_at hl 0 rfl) ?_
  refine lv_iload_n hx hb dX16_meet_1 rfl (lv_at hl 2 rfl) ?_
  refine lv_iload_n hx hb dX16_meet_2 rfl (lv_at hl 3 rfl) ?_
  refine lv_imul hx hb dX16_meet_3 ?_
  refine lv_topi (fun z1 ez1 => ?_)
  obtain rfl : z1 = nI (n0 * m0) := ez1.trans (pk_mul n0 m0)
  refine lv_icmp_ge (tgt := 36) hx hb dX16_meet_4 (by decide) (fun hg1 => ?_) (fun hg1 => ?_)
  · refine lv_iconst (v := 0) hx hb dX16_meet_36 (by decide) ?_
    exact rZ X w rfl dX16_meet_37 (by decide) (by decide) (by decide) (px_z01 (by first | exact Or.inl rfl | exact Or.inr rfl))
  · have ha2 : a < n0 * m0 := Nat.lt_of_not_le (fun z => hg1 ((nI_leI (a := n0 * m0) (b := a) (by omega) (by omega)).mpr z))
    have hm0 : 0 < m0 := nn_h ha2
    refine lv_iload_n hx hb dX16_meet_7 rfl (lv_at hl 1 rfl) ?_
    refine lv_iload_n hx hb dX16_meet_8 rfl (lv_at hl 2 rfl) ?_
    refine lv_iload_n hx hb dX16_meet_9 rfl (lv_at hl 3 rfl) ?_
    refine lv_imul hx hb dX16_meet_10 ?_
    refine lv_topi (fun z2 ez2 => ?_)
    obtain rfl : z2 = nI (n0 * m0) := ez2.trans (pk_mul n0 m0)
    refine lv_icmp_ge (tgt := 36) hx hb dX16_meet_11 (by decide) (fun hg2 => ?_) (fun hg2 => ?_)
    · refine lv_iconst (v := 0) hx hb dX16_meet_36 (by decide) ?_
      exact rZ X w rfl dX16_meet_37 (by decide) (by decide) (by decide) (px_z01 (by first | exact Or.inl rfl | exact Or.inr rfl))
    · refine lv_iload_n hx hb dX16_meet_14 rfl (lv_at hl 0 rfl) ?_
      refine lv_iload_n hx hb dX16_meet_15 rfl (lv_at hl 3 rfl) ?_
      refine lv_idiv hx hb dX16_meet_16 (nI_ne0 hm0 (by omega)) ?_
      refine lv_iload_n hx hb dX16_meet_17 rfl (lv_at hl 1 rfl) ?_
      refine lv_iload_n hx hb dX16_meet_18 rfl (lv_at hl 3 rfl) ?_
      refine lv_idiv hx hb dX16_meet_19 (nI_ne0 hm0 (by omega)) ?_
      refine lv_icmp_eq (tgt := 32) hx hb dX16_meet_20 (by decide) (fun hc3 => ?_) (fun hc3 => ?_)
      · refine lv_iconst (v := 1) hx hb dX16_meet_32 (by decide) ?_
        refine lv_goto (tgt := 37) hx hb dX16_meet_33 (by decide) ?_
        exact rZ X w rfl dX16_meet_37 (by decide) (by decide) (by decide) (px_z01 (by first | exact Or.inl rfl | exact Or.inr rfl))
      · refine lv_iload_n hx hb dX16_meet_23 rfl (lv_at hl 0 rfl) ?_
        refine lv_iload_n hx hb dX16_meet_24 rfl (lv_at hl 3 rfl) ?_
        refine lv_irem hx hb dX16_meet_25 (nI_ne0 hm0 (by omega)) ?_
        refine lv_iload_n hx hb dX16_meet_26 rfl (lv_at hl 1 rfl) ?_
        refine lv_iload_n hx hb dX16_meet_27 rfl (lv_at hl 3 rfl) ?_
        refine lv_irem hx hb dX16_meet_28 (nI_ne0 hm0 (by omega)) ?_
        refine lv_icmp_ne (tgt := 36) hx hb dX16_meet_29 (by decide) (fun hc4 => ?_) (fun hc4 => ?_)
        · refine lv_iconst (v := 0) hx hb dX16_meet_36 (by decide) ?_
          exact rZ X w rfl dX16_meet_37 (by decide) (by decide) (by decide) (px_z01 (by first | exact Or.inl rfl | exact Or.inr rfl))
        · refine lv_iconst (v := 1) hx hb dX16_meet_32 (by decide) ?_
          refine lv_goto (tgt := 37) hx hb dX16_meet_33 (by decide) ?_
          exact rZ X w rfl dX16_meet_37 (by decide) (by decide) (by decide) (px_z01 (by first | exact Or.inl rfl | exact Or.inr rfl))

theorem dX16_put_0 : decode cX16_put 0 = .ok (.aload_n 0, 1) := by decide +kernel
theorem dX16_put_1 : decode cX16_put 1 = .ok (.iload_n 1, 1) := by decide +kernel
theorem dX16_put_2 : decode cX16_put 2 = .ok (.iload_n 2, 1) := by decide +kernel
theorem dX16_put_3 : decode cX16_put 3 = .ok (.iload_n 3, 1) := by decide +kernel
theorem dX16_put_4 : decode cX16_put 4 = .ok (.iload 4, 2) := by decide +kernel
theorem dX16_put_6 : decode cX16_put 6 = .ok (.imul, 1) := by decide +kernel
theorem dX16_put_7 : decode cX16_put 7 = .ok (.if_icmp .ne 7, 3) := by decide +kernel
theorem dX16_put_10 : decode cX16_put 10 = .ok (.iconst (-1), 1) := by decide +kernel
theorem dX16_put_11 : decode cX16_put 11 = .ok (.goto 7, 3) := by decide +kernel
theorem dX16_put_14 : decode cX16_put 14 = .ok (.iload_n 2, 1) := by decide +kernel
theorem dX16_put_15 : decode cX16_put 15 = .ok (.iload 4, 2) := by decide +kernel
theorem dX16_put_17 : decode cX16_put 17 = .ok (.idiv, 1) := by decide +kernel
theorem dX16_put_18 : decode cX16_put 18 = .ok (.iastore, 1) := by decide +kernel
theorem dX16_put_19 : decode cX16_put 19 = .ok (.aload_n 0, 1) := by decide +kernel
theorem dX16_put_20 : decode cX16_put 20 = .ok (.iload_n 1, 1) := by decide +kernel
theorem dX16_put_21 : decode cX16_put 21 = .ok (.iconst 1, 1) := by decide +kernel
theorem dX16_put_22 : decode cX16_put 22 = .ok (.iadd, 1) := by decide +kernel
theorem dX16_put_23 : decode cX16_put 23 = .ok (.iload_n 2, 1) := by decide +kernel
theorem dX16_put_24 : decode cX16_put 24 = .ok (.iload_n 3, 1) := by decide +kernel
theorem dX16_put_25 : decode cX16_put 25 = .ok (.iload 4, 2) := by decide +kernel
theorem dX16_put_27 : decode cX16_put 27 = .ok (.imul, 1) := by decide +kernel
theorem dX16_put_28 : decode cX16_put 28 = .ok (.if_icmp .ne 7, 3) := by decide +kernel
theorem dX16_put_31 : decode cX16_put 31 = .ok (.iconst (-1), 1) := by decide +kernel
theorem dX16_put_32 : decode cX16_put 32 = .ok (.goto 7, 3) := by decide +kernel
theorem dX16_put_35 : decode cX16_put 35 = .ok (.iload_n 2, 1) := by decide +kernel
theorem dX16_put_36 : decode cX16_put 36 = .ok (.iload 4, 2) := by decide +kernel
theorem dX16_put_38 : decode cX16_put 38 = .ok (.irem, 1) := by decide +kernel
theorem dX16_put_39 : decode cX16_put 39 = .ok (.iastore, 1) := by decide +kernel
theorem dX16_put_40 : decode cX16_put 40 = .ok (.return_, 1) := by decide +kernel
abbrev rm_m_X16_put : Room := { frames := 0, cells := 0, slots := 0, locals := 0 }
set_option maxHeartbeats 4000000 in
set_option maxRecDepth 100000 in
theorem m_X16_put {s0 : State} {l : Launch} {D : va_G} {cy : Nat → ClassId} (G : Gl s0 l D cy) (S : HS) (q x n0 m0 : Nat) (hq : q + 1 < 7) (hx9 : x ≤ n0 * m0) (hn : n0 ≤ 8) (hm : m0 ≤ 5) (hV : vV S 39 1) (hN : mN S 39 1 = 7) : Ctr s0 l D cy yX16_put cX16_put 5 none rm_m_X16_put S [.ref (gG S 39 1), .int (nI q), .int (nI x), .int (nI n0), .int (nI m0)] (fun v S' => none = v ∧ ∃ f g, S' = sA (sA S 39 1 f) 39 1 g) := by
  refine pro "CavershamShiftModel" G rfl rfl (Nat.le_of_ble_eq_true rfl) (fun p e s m below meth c ls X w hnm hl => ?_)
  have hx := X.1
  have hb := X.2.1
  have hown := X.2.2.2.1
  have hts := X.2.2.2.2.1
  have hl : lv_has ls 5 [(0, .ref (gG S 39 1)), (1, .int (nI q)), (2, .int (nI x)), (3, .int (nI n0)), (4, .int (nI m0))] := hl
  have hnm : n0 * m0 ≤ 40 := Nat.mul_le_mul hn hm
  refine lv_aload_n hx hb dX16_put_0 rfl (lv_at hl 0 rfl) ?_
  refine lv_iload_n hx hb dX16_put_1 rfl (lv_at hl 1 rfl) ?_
  refine lv_iload_n hx hb dX16_put_2 rfl (lv_at hl 2 rfl) ?_
  refine lv_iload_n hx hb dX16_put_3 rfl (lv_at hl 3 rfl) ?_
  refine lv_iload hx hb dX16_put_4 (lv_at hl 4 rfl) ?_
  refine lv_imul hx hb dX16_put_6 ?_
  refine lv_topi (fun z1 ez1 => ?_)
  obtain rfl : z1 = nI (n0 * m0) := ez1.trans (pk_mul n0 m0)
  have J18 : ∀ (z18_2 : Int32) (H : Heap) (locs : List Loc) (ls : Array Slot), Wd s0 D cy S s.heap H locs → lv_has ls 5 [(0, .ref (gG S 39 1)), (1, .int (nI q)), (2, .int (nI x)), (3, .int (nI n0)), (4, .int (nI m0))] → W p l e rm_m_X16_put s m ([.ref (gG S 39 1), .int (nI q), .int (nI x), .int (nI n0), .int (nI m0)] : List Value).toArray below meth c H locs 0 0 (MQ below (GQ s0 D cy (fun v S' => none = v ∧ ∃ f g, S' = sA (sA S 39 1 f) 39 1 g)) ([.ref (gG S 39 1), .int (nI q), .int (nI x), .int (nI n0), .int (nI m0)] : List Value).toArray s rm_m_X16_put.cells rm_m_X16_put.slots (A0 s0)) (F0 m 18 ls [.int z18_2, .int (nI q), .ref (gG S 39 1)]) := by
    intro z18_2 H locs ls  w hl
    refine aStI (S := S) (t := 39) X w hV (by decide) rfl rfl ((show vp_in (nI q) (mN S 39 1) by rw [hN]; exact nI_vp (Nat.lt_of_succ_lt hq) (by decide))) dX16_put_18 (fun H locs w => ?_)
    refine lv_aload_n hx hb dX16_put_19 rfl (lv_at hl 0 rfl) ?_
    refine lv_iload_n hx hb dX16_put_20 rfl (lv_at hl 1 rfl) ?_
    refine lv_iconst (v := 1) hx hb dX16_put_21 (by decide) ?_
    refine lv_iadd hx hb dX16_put_22 ?_
    refine lv_topi (fun z2 ez2 => ?_)
    obtain rfl : z2 = nI (q + 1) := ez2.trans (nI_1 _)
    refine lv_iload_n hx hb dX16_put_23 rfl (lv_at hl 2 rfl) ?_
    refine lv_iload_n hx hb dX16_put_24 rfl (lv_at hl 3 rfl) ?_
    refine lv_iload hx hb dX16_put_25 (lv_at hl 4 rfl) ?_
    refine lv_imul hx hb dX16_put_27 ?_
    refine lv_topi (fun z3 ez3 => ?_)
    obtain rfl : z3 = nI (n0 * m0) := ez3.trans (pk_mul n0 m0)
    refine lv_icmp_ne (tgt := 35) hx hb dX16_put_28 (by decide) (fun hc28 => ?_) (fun hc28 => ?_)
    · have hx2 : x < n0 * m0 := by have e : ¬ x = n0 * m0 := fun z => hc28 (by rw [z]); omega
      have hm0 : 0 < m0 := nn_h hx2
      refine lv_iload_n hx hb dX16_put_35 rfl (lv_at hl 2 rfl) ?_
      refine lv_iload hx hb dX16_put_36 (lv_at hl 4 rfl) ?_
      refine lv_irem hx hb dX16_put_38 (nI_ne0 hm0 (by omega)) ?_
      refine aStI (S := (sA S 39 1 (upd (mA S 39 1) (nI q).toNatClampNeg z18_2))) (t := 39) X w hV (by decide) rfl rfl ((show vp_in (nI (q + 1)) (mN S 39 1) by rw [hN]; exact nI_vp hq (by decide))) dX16_put_39 (fun H locs w => ?_)
      exact rV X w rfl dX16_put_40 (by decide) (by decide) (⟨rfl, _, _, rfl⟩)
    · refine lv_iconst (v := (-1)) hx hb dX16_put_31 (by decide) ?_
      refine lv_goto (tgt := 39) hx hb dX16_put_32 (by decide) ?_
      refine aStI (S := (sA S 39 1 (upd (mA S 39 1) (nI q).toNatClampNeg z18_2))) (t := 39) X w hV (by decide) rfl rfl ((show vp_in (nI (q + 1)) (mN S 39 1) by rw [hN]; exact nI_vp hq (by decide))) dX16_put_39 (fun H locs w => ?_)
      exact rV X w rfl dX16_put_40 (by decide) (by decide) (⟨rfl, _, _, rfl⟩)
  refine lv_icmp_ne (tgt := 14) hx hb dX16_put_7 (by decide) (fun hc7 => ?_) (fun hc7 => ?_)
  · have hx2 : x < n0 * m0 := by have e : ¬ x = n0 * m0 := fun z => hc7 (by rw [z]); omega
    have hm0 : 0 < m0 := nn_h hx2
    refine lv_iload_n hx hb dX16_put_14 rfl (lv_at hl 2 rfl) ?_
    refine lv_iload hx hb dX16_put_15 (lv_at hl 4 rfl) ?_
    refine lv_idiv hx hb dX16_put_17 (nI_ne0 hm0 (by omega)) ?_
    exact J18 ((nI x) / (nI m0)) _ _ _  w (lv_sub hl [0, 1, 2, 3, 4] rfl)
  · refine lv_iconst (v := (-1)) hx hb dX16_put_10 (by decide) ?_
    refine lv_goto (tgt := 18) hx hb dX16_put_11 (by decide) ?_
    exact J18 (-1) _ _ _  w (lv_sub hl [0, 1, 2, 3, 4] rfl)

def dr39 (S : HS) : HS := sDrop S (fun t i => t = 39 ∧ i = 2)
theorem R39_d39 {S : HS} : R39 (dr39 S) = R39 S := by
  unfold R39
  have e1 : (fun t' i' => if t' < 39 then vV (dr39 S) t' i' else True) = (fun t' i' => if t' < 39 then vV S t' i' else True) := by
    funext t' i'
    by_cases z : t' < 39
    · rw [if_pos z, if_pos z]
      exact propext ⟨fun y => y.1, fun y => ⟨y, fun e => by omega⟩⟩
    · rw [if_neg z, if_neg z]
  rw [e1]; rfl
theorem RI.d39 {ea : Nat} {S : HS} {ns nj nm nt nr nq : Nat} (h : RI ea S ns nj nm nt nr nq) : RI ea (dr39 S) ns nj nm nt nr nq := by
  rw [← RI_39, R39_d39, RI_39]; exact h
theorem Wd.d39 {s0 : State} {D : va_G} {cy : Nat → ClassId} {S : HS} {H0 H : Heap} {locs : List Loc} (w : Wd s0 D cy S H0 H locs) : Wd s0 D cy (dr39 S) H0 H locs := by
  obtain ⟨⟨⟨ws, hP, hD, hm⟩, inj⟩, hS⟩ := w
  exact ⟨⟨⟨ws, hP, hD, fun t i h => hm t i h.1⟩, fun t i t' i' h h' => inj t i t' i' h.1 h'.1⟩, hS⟩
abbrev LB : List (Nat × Nat) := [(39, 1), (39, 2)]
theorem Kq.d39 {S T : HS} (k : Kq (hvT LB) hNo hNo S T) : Kq (hvT LB) hNo hNo S (dr39 T) := ⟨fun t i h => by
  obtain ⟨k1, k2, k3, k4, k5⟩ := k.1 t i h
  refine ⟨?_, k2, k3, k4, k5⟩
  rw [← k1]
  exact propext ⟨fun y => y.1, fun y => ⟨y, fun e => by rw [e.1, e.2] at h; exact absurd h (by decide)⟩⟩, k.2⟩
theorem dX16_bestNow_0 : decode cX16_bestNow 0 = .ok (.aload_n 0, 1) := by decide +kernel
theorem dX16_bestNow_1 : decode cX16_bestNow 1 = .ok (.getfield 16, 3) := by decide +kernel
theorem dX16_bestNow_4 : decode cX16_bestNow 4 = .ok (.invokeinterface 73 1, 5) := by decide +kernel
theorem dX16_bestNow_9 : decode cX16_bestNow 9 = .ok (.istore_n 2, 1) := by decide +kernel
theorem dX16_bestNow_10 : decode cX16_bestNow 10 = .ok (.aload_n 0, 1) := by decide +kernel
theorem dX16_bestNow_11 : decode cX16_bestNow 11 = .ok (.getfield 23, 3) := by decide +kernel
theorem dX16_bestNow_14 : decode cX16_bestNow 14 = .ok (.invokeinterface 73 1, 5) := by decide +kernel
theorem dX16_bestNow_19 : decode cX16_bestNow 19 = .ok (.istore_n 3, 1) := by decide +kernel
theorem dX16_bestNow_20 : decode cX16_bestNow 20 = .ok (.iload_n 2, 1) := by decide +kernel
theorem dX16_bestNow_21 : decode cX16_bestNow 21 = .ok (.iload_n 3, 1) := by decide +kernel
theorem dX16_bestNow_22 : decode cX16_bestNow 22 = .ok (.imul, 1) := by decide +kernel
theorem dX16_bestNow_23 : decode cX16_bestNow 23 = .ok (.iconst 1, 1) := by decide +kernel
theorem dX16_bestNow_24 : decode cX16_bestNow 24 = .ok (.iadd, 1) := by decide +kernel
theorem dX16_bestNow_25 : decode cX16_bestNow 25 = .ok (.newarray .int, 2) := by decide +kernel
theorem dX16_bestNow_27 : decode cX16_bestNow 27 = .ok (.astore 4, 2) := by decide +kernel
theorem dX16_bestNow_29 : decode cX16_bestNow 29 = .ok (.iconst 0, 1) := by decide +kernel
theorem dX16_bestNow_30 : decode cX16_bestNow 30 = .ok (.istore 5, 2) := by decide +kernel
theorem dX16_bestNow_32 : decode cX16_bestNow 32 = .ok (.iload 5, 2) := by decide +kernel
theorem dX16_bestNow_34 : decode cX16_bestNow 34 = .ok (.iload_n 2, 1) := by decide +kernel
theorem dX16_bestNow_35 : decode cX16_bestNow 35 = .ok (.iload_n 3, 1) := by decide +kernel
theorem dX16_bestNow_36 : decode cX16_bestNow 36 = .ok (.imul, 1) := by decide +kernel
theorem dX16_bestNow_37 : decode cX16_bestNow 37 = .ok (.if_icmp .ge 27, 3) := by decide +kernel
theorem dX16_bestNow_40 : decode cX16_bestNow 40 = .ok (.aload 4, 2) := by decide +kernel
theorem dX16_bestNow_42 : decode cX16_bestNow 42 = .ok (.iload 5, 2) := by decide +kernel
theorem dX16_bestNow_44 : decode cX16_bestNow 44 = .ok (.aload_n 0, 1) := by decide +kernel
theorem dX16_bestNow_45 : decode cX16_bestNow 45 = .ok (.iload 5, 2) := by decide +kernel
theorem dX16_bestNow_47 : decode cX16_bestNow 47 = .ok (.iload_n 3, 1) := by decide +kernel
theorem dX16_bestNow_48 : decode cX16_bestNow 48 = .ok (.irem, 1) := by decide +kernel
theorem dX16_bestNow_49 : decode cX16_bestNow 49 = .ok (.iload 5, 2) := by decide +kernel
theorem dX16_bestNow_51 : decode cX16_bestNow 51 = .ok (.iload_n 3, 1) := by decide +kernel
theorem dX16_bestNow_52 : decode cX16_bestNow 52 = .ok (.idiv, 1) := by decide +kernel
theorem dX16_bestNow_53 : decode cX16_bestNow 53 = .ok (.iload_n 1, 1) := by decide +kernel
theorem dX16_bestNow_54 : decode cX16_bestNow 54 = .ok (.invokevirtual 115, 3) := by decide +kernel
theorem dX16_bestNow_57 : decode cX16_bestNow 57 = .ok (.iastore, 1) := by decide +kernel
theorem dX16_bestNow_58 : decode cX16_bestNow 58 = .ok (.iinc 5 1, 3) := by decide +kernel
theorem dX16_bestNow_61 : decode cX16_bestNow 61 = .ok (.goto (-29), 3) := by decide +kernel
theorem dX16_bestNow_64 : decode cX16_bestNow 64 = .ok (.bipush 7, 2) := by decide +kernel
theorem dX16_bestNow_66 : decode cX16_bestNow 66 = .ok (.newarray .int, 2) := by decide +kernel
theorem dX16_bestNow_68 : decode cX16_bestNow 68 = .ok (.dup, 1) := by decide +kernel
theorem dX16_bestNow_69 : decode cX16_bestNow 69 = .ok (.iconst 0, 1) := by decide +kernel
theorem dX16_bestNow_70 : decode cX16_bestNow 70 = .ok (.iconst 0, 1) := by decide +kernel
theorem dX16_bestNow_71 : decode cX16_bestNow 71 = .ok (.iastore, 1) := by decide +kernel
theorem dX16_bestNow_72 : decode cX16_bestNow 72 = .ok (.dup, 1) := by decide +kernel
theorem dX16_bestNow_73 : decode cX16_bestNow 73 = .ok (.iconst 1, 1) := by decide +kernel
theorem dX16_bestNow_74 : decode cX16_bestNow 74 = .ok (.iconst (-1), 1) := by decide +kernel
theorem dX16_bestNow_75 : decode cX16_bestNow 75 = .ok (.iastore, 1) := by decide +kernel
theorem dX16_bestNow_76 : decode cX16_bestNow 76 = .ok (.dup, 1) := by decide +kernel
theorem dX16_bestNow_77 : decode cX16_bestNow 77 = .ok (.iconst 2, 1) := by decide +kernel
theorem dX16_bestNow_78 : decode cX16_bestNow 78 = .ok (.iconst (-1), 1) := by decide +kernel
theorem dX16_bestNow_79 : decode cX16_bestNow 79 = .ok (.iastore, 1) := by decide +kernel
theorem dX16_bestNow_80 : decode cX16_bestNow 80 = .ok (.dup, 1) := by decide +kernel
theorem dX16_bestNow_81 : decode cX16_bestNow 81 = .ok (.iconst 3, 1) := by decide +kernel
theorem dX16_bestNow_82 : decode cX16_bestNow 82 = .ok (.iconst (-1), 1) := by decide +kernel
theorem dX16_bestNow_83 : decode cX16_bestNow 83 = .ok (.iastore, 1) := by decide +kernel
theorem dX16_bestNow_84 : decode cX16_bestNow 84 = .ok (.dup, 1) := by decide +kernel
theorem dX16_bestNow_85 : decode cX16_bestNow 85 = .ok (.iconst 4, 1) := by decide +kernel
theorem dX16_bestNow_86 : decode cX16_bestNow 86 = .ok (.iconst (-1), 1) := by decide +kernel
theorem dX16_bestNow_87 : decode cX16_bestNow 87 = .ok (.iastore, 1) := by decide +kernel
theorem dX16_bestNow_88 : decode cX16_bestNow 88 = .ok (.dup, 1) := by decide +kernel
theorem dX16_bestNow_89 : decode cX16_bestNow 89 = .ok (.iconst 5, 1) := by decide +kernel
theorem dX16_bestNow_90 : decode cX16_bestNow 90 = .ok (.iconst (-1), 1) := by decide +kernel
theorem dX16_bestNow_91 : decode cX16_bestNow 91 = .ok (.iastore, 1) := by decide +kernel
theorem dX16_bestNow_92 : decode cX16_bestNow 92 = .ok (.dup, 1) := by decide +kernel
theorem dX16_bestNow_93 : decode cX16_bestNow 93 = .ok (.bipush 6, 2) := by decide +kernel
theorem dX16_bestNow_95 : decode cX16_bestNow 95 = .ok (.iconst (-1), 1) := by decide +kernel
theorem dX16_bestNow_96 : decode cX16_bestNow 96 = .ok (.iastore, 1) := by decide +kernel
theorem dX16_bestNow_97 : decode cX16_bestNow 97 = .ok (.astore 5, 2) := by decide +kernel
theorem dX16_bestNow_99 : decode cX16_bestNow 99 = .ok (.iconst 0, 1) := by decide +kernel
theorem dX16_bestNow_100 : decode cX16_bestNow 100 = .ok (.istore 6, 2) := by decide +kernel
theorem dX16_bestNow_102 : decode cX16_bestNow 102 = .ok (.iload 6, 2) := by decide +kernel
theorem dX16_bestNow_104 : decode cX16_bestNow 104 = .ok (.iload_n 2, 1) := by decide +kernel
theorem dX16_bestNow_105 : decode cX16_bestNow 105 = .ok (.iload_n 3, 1) := by decide +kernel
theorem dX16_bestNow_106 : decode cX16_bestNow 106 = .ok (.imul, 1) := by decide +kernel
theorem dX16_bestNow_107 : decode cX16_bestNow 107 = .ok (.if_icmp .gt 203, 3) := by decide +kernel
theorem dX16_bestNow_110 : decode cX16_bestNow 110 = .ok (.iload 6, 2) := by decide +kernel
theorem dX16_bestNow_112 : decode cX16_bestNow 112 = .ok (.iload_n 2, 1) := by decide +kernel
theorem dX16_bestNow_113 : decode cX16_bestNow 113 = .ok (.iload_n 3, 1) := by decide +kernel
theorem dX16_bestNow_114 : decode cX16_bestNow 114 = .ok (.imul, 1) := by decide +kernel
theorem dX16_bestNow_115 : decode cX16_bestNow 115 = .ok (.if_icmp .ge 14, 3) := by decide +kernel
theorem dX16_bestNow_118 : decode cX16_bestNow 118 = .ok (.aload 4, 2) := by decide +kernel
theorem dX16_bestNow_120 : decode cX16_bestNow 120 = .ok (.iload 6, 2) := by decide +kernel
theorem dX16_bestNow_122 : decode cX16_bestNow 122 = .ok (.iaload, 1) := by decide +kernel
theorem dX16_bestNow_123 : decode cX16_bestNow 123 = .ok (.ifCond .ne 6, 3) := by decide +kernel
theorem dX16_bestNow_126 : decode cX16_bestNow 126 = .ok (.goto 178, 3) := by decide +kernel
theorem dX16_bestNow_129 : decode cX16_bestNow 129 = .ok (.iconst 0, 1) := by decide +kernel
theorem dX16_bestNow_130 : decode cX16_bestNow 130 = .ok (.istore 7, 2) := by decide +kernel
theorem dX16_bestNow_132 : decode cX16_bestNow 132 = .ok (.iload 7, 2) := by decide +kernel
theorem dX16_bestNow_134 : decode cX16_bestNow 134 = .ok (.iload_n 2, 1) := by decide +kernel
theorem dX16_bestNow_135 : decode cX16_bestNow 135 = .ok (.iload_n 3, 1) := by decide +kernel
theorem dX16_bestNow_136 : decode cX16_bestNow 136 = .ok (.imul, 1) := by decide +kernel
theorem dX16_bestNow_137 : decode cX16_bestNow 137 = .ok (.if_icmp .gt 167, 3) := by decide +kernel
theorem dX16_bestNow_140 : decode cX16_bestNow 140 = .ok (.iload 7, 2) := by decide +kernel
theorem dX16_bestNow_142 : decode cX16_bestNow 142 = .ok (.iload_n 2, 1) := by decide +kernel
theorem dX16_bestNow_143 : decode cX16_bestNow 143 = .ok (.iload_n 3, 1) := by decide +kernel
theorem dX16_bestNow_144 : decode cX16_bestNow 144 = .ok (.imul, 1) := by decide +kernel
theorem dX16_bestNow_145 : decode cX16_bestNow 145 = .ok (.if_icmp .ge 11, 3) := by decide +kernel
theorem dX16_bestNow_148 : decode cX16_bestNow 148 = .ok (.aload 4, 2) := by decide +kernel
theorem dX16_bestNow_150 : decode cX16_bestNow 150 = .ok (.iload 7, 2) := by decide +kernel
theorem dX16_bestNow_152 : decode cX16_bestNow 152 = .ok (.iaload, 1) := by decide +kernel
theorem dX16_bestNow_153 : decode cX16_bestNow 153 = .ok (.ifCond .eq 145, 3) := by decide +kernel
theorem dX16_bestNow_156 : decode cX16_bestNow 156 = .ok (.iload 6, 2) := by decide +kernel
theorem dX16_bestNow_158 : decode cX16_bestNow 158 = .ok (.iload 7, 2) := by decide +kernel
theorem dX16_bestNow_160 : decode cX16_bestNow 160 = .ok (.iload_n 2, 1) := by decide +kernel
theorem dX16_bestNow_161 : decode cX16_bestNow 161 = .ok (.iload_n 3, 1) := by decide +kernel
theorem dX16_bestNow_162 : decode cX16_bestNow 162 = .ok (.invokestatic 355, 3) := by decide +kernel
theorem dX16_bestNow_165 : decode cX16_bestNow 165 = .ok (.ifCond .eq 6, 3) := by decide +kernel
theorem dX16_bestNow_168 : decode cX16_bestNow 168 = .ok (.goto 130, 3) := by decide +kernel
theorem dX16_bestNow_171 : decode cX16_bestNow 171 = .ok (.iconst 0, 1) := by decide +kernel
theorem dX16_bestNow_172 : decode cX16_bestNow 172 = .ok (.istore 8, 2) := by decide +kernel
theorem dX16_bestNow_174 : decode cX16_bestNow 174 = .ok (.iload 8, 2) := by decide +kernel
theorem dX16_bestNow_176 : decode cX16_bestNow 176 = .ok (.iload_n 2, 1) := by decide +kernel
theorem dX16_bestNow_177 : decode cX16_bestNow 177 = .ok (.iload_n 3, 1) := by decide +kernel
theorem dX16_bestNow_178 : decode cX16_bestNow 178 = .ok (.imul, 1) := by decide +kernel
theorem dX16_bestNow_179 : decode cX16_bestNow 179 = .ok (.if_icmp .gt 119, 3) := by decide +kernel
theorem dX16_bestNow_182 : decode cX16_bestNow 182 = .ok (.iload 8, 2) := by decide +kernel
theorem dX16_bestNow_184 : decode cX16_bestNow 184 = .ok (.iload_n 2, 1) := by decide +kernel
theorem dX16_bestNow_185 : decode cX16_bestNow 185 = .ok (.iload_n 3, 1) := by decide +kernel
theorem dX16_bestNow_186 : decode cX16_bestNow 186 = .ok (.imul, 1) := by decide +kernel
theorem dX16_bestNow_187 : decode cX16_bestNow 187 = .ok (.if_icmp .ge 11, 3) := by decide +kernel
theorem dX16_bestNow_190 : decode cX16_bestNow 190 = .ok (.aload 4, 2) := by decide +kernel
theorem dX16_bestNow_192 : decode cX16_bestNow 192 = .ok (.iload 8, 2) := by decide +kernel
theorem dX16_bestNow_194 : decode cX16_bestNow 194 = .ok (.iaload, 1) := by decide +kernel
theorem dX16_bestNow_195 : decode cX16_bestNow 195 = .ok (.ifCond .eq 97, 3) := by decide +kernel
theorem dX16_bestNow_198 : decode cX16_bestNow 198 = .ok (.iload 6, 2) := by decide +kernel
theorem dX16_bestNow_200 : decode cX16_bestNow 200 = .ok (.iload 8, 2) := by decide +kernel
theorem dX16_bestNow_202 : decode cX16_bestNow 202 = .ok (.iload_n 2, 1) := by decide +kernel
theorem dX16_bestNow_203 : decode cX16_bestNow 203 = .ok (.iload_n 3, 1) := by decide +kernel
theorem dX16_bestNow_204 : decode cX16_bestNow 204 = .ok (.invokestatic 355, 3) := by decide +kernel
theorem dX16_bestNow_207 : decode cX16_bestNow 207 = .ok (.ifCond .ne 85, 3) := by decide +kernel
theorem dX16_bestNow_210 : decode cX16_bestNow 210 = .ok (.iload 7, 2) := by decide +kernel
theorem dX16_bestNow_212 : decode cX16_bestNow 212 = .ok (.iload 8, 2) := by decide +kernel
theorem dX16_bestNow_214 : decode cX16_bestNow 214 = .ok (.iload_n 2, 1) := by decide +kernel
theorem dX16_bestNow_215 : decode cX16_bestNow 215 = .ok (.iload_n 3, 1) := by decide +kernel
theorem dX16_bestNow_216 : decode cX16_bestNow 216 = .ok (.invokestatic 355, 3) := by decide +kernel
theorem dX16_bestNow_219 : decode cX16_bestNow 219 = .ok (.ifCond .eq 6, 3) := by decide +kernel
theorem dX16_bestNow_222 : decode cX16_bestNow 222 = .ok (.goto 70, 3) := by decide +kernel
theorem dX16_bestNow_225 : decode cX16_bestNow 225 = .ok (.aload 4, 2) := by decide +kernel
theorem dX16_bestNow_227 : decode cX16_bestNow 227 = .ok (.iload 6, 2) := by decide +kernel
theorem dX16_bestNow_229 : decode cX16_bestNow 229 = .ok (.iaload, 1) := by decide +kernel
theorem dX16_bestNow_230 : decode cX16_bestNow 230 = .ok (.aload 4, 2) := by decide +kernel
theorem dX16_bestNow_232 : decode cX16_bestNow 232 = .ok (.iload 7, 2) := by decide +kernel
theorem dX16_bestNow_234 : decode cX16_bestNow 234 = .ok (.iaload, 1) := by decide +kernel
theorem dX16_bestNow_235 : decode cX16_bestNow 235 = .ok (.iadd, 1) := by decide +kernel
theorem dX16_bestNow_236 : decode cX16_bestNow 236 = .ok (.aload 4, 2) := by decide +kernel
theorem dX16_bestNow_238 : decode cX16_bestNow 238 = .ok (.iload 8, 2) := by decide +kernel
theorem dX16_bestNow_240 : decode cX16_bestNow 240 = .ok (.iaload, 1) := by decide +kernel
theorem dX16_bestNow_241 : decode cX16_bestNow 241 = .ok (.iadd, 1) := by decide +kernel
theorem dX16_bestNow_242 : decode cX16_bestNow 242 = .ok (.istore 9, 2) := by decide +kernel
theorem dX16_bestNow_244 : decode cX16_bestNow 244 = .ok (.iload 9, 2) := by decide +kernel
theorem dX16_bestNow_246 : decode cX16_bestNow 246 = .ok (.aload 5, 2) := by decide +kernel
theorem dX16_bestNow_248 : decode cX16_bestNow 248 = .ok (.iconst 0, 1) := by decide +kernel
theorem dX16_bestNow_249 : decode cX16_bestNow 249 = .ok (.iaload, 1) := by decide +kernel
theorem dX16_bestNow_250 : decode cX16_bestNow 250 = .ok (.if_icmp .gt 6, 3) := by decide +kernel
theorem dX16_bestNow_253 : decode cX16_bestNow 253 = .ok (.goto 39, 3) := by decide +kernel
theorem dX16_bestNow_256 : decode cX16_bestNow 256 = .ok (.aload 5, 2) := by decide +kernel
theorem dX16_bestNow_258 : decode cX16_bestNow 258 = .ok (.iconst 0, 1) := by decide +kernel
theorem dX16_bestNow_259 : decode cX16_bestNow 259 = .ok (.iload 9, 2) := by decide +kernel
theorem dX16_bestNow_261 : decode cX16_bestNow 261 = .ok (.iastore, 1) := by decide +kernel
theorem dX16_bestNow_262 : decode cX16_bestNow 262 = .ok (.aload 5, 2) := by decide +kernel
theorem dX16_bestNow_264 : decode cX16_bestNow 264 = .ok (.iconst 1, 1) := by decide +kernel
theorem dX16_bestNow_265 : decode cX16_bestNow 265 = .ok (.iload 6, 2) := by decide +kernel
theorem dX16_bestNow_267 : decode cX16_bestNow 267 = .ok (.iload_n 2, 1) := by decide +kernel
theorem dX16_bestNow_268 : decode cX16_bestNow 268 = .ok (.iload_n 3, 1) := by decide +kernel
theorem dX16_bestNow_269 : decode cX16_bestNow 269 = .ok (.invokestatic 359, 3) := by decide +kernel
theorem dX16_bestNow_272 : decode cX16_bestNow 272 = .ok (.aload 5, 2) := by decide +kernel
theorem dX16_bestNow_274 : decode cX16_bestNow 274 = .ok (.iconst 3, 1) := by decide +kernel
theorem dX16_bestNow_275 : decode cX16_bestNow 275 = .ok (.iload 7, 2) := by decide +kernel
theorem dX16_bestNow_277 : decode cX16_bestNow 277 = .ok (.iload_n 2, 1) := by decide +kernel
theorem dX16_bestNow_278 : decode cX16_bestNow 278 = .ok (.iload_n 3, 1) := by decide +kernel
theorem dX16_bestNow_279 : decode cX16_bestNow 279 = .ok (.invokestatic 359, 3) := by decide +kernel
theorem dX16_bestNow_282 : decode cX16_bestNow 282 = .ok (.aload 5, 2) := by decide +kernel
theorem dX16_bestNow_284 : decode cX16_bestNow 284 = .ok (.iconst 5, 1) := by decide +kernel
theorem dX16_bestNow_285 : decode cX16_bestNow 285 = .ok (.iload 8, 2) := by decide +kernel
theorem dX16_bestNow_287 : decode cX16_bestNow 287 = .ok (.iload_n 2, 1) := by decide +kernel
theorem dX16_bestNow_288 : decode cX16_bestNow 288 = .ok (.iload_n 3, 1) := by decide +kernel
theorem dX16_bestNow_289 : decode cX16_bestNow 289 = .ok (.invokestatic 359, 3) := by decide +kernel
theorem dX16_bestNow_292 : decode cX16_bestNow 292 = .ok (.iinc 8 1, 3) := by decide +kernel
theorem dX16_bestNow_295 : decode cX16_bestNow 295 = .ok (.goto (-121), 3) := by decide +kernel
theorem dX16_bestNow_298 : decode cX16_bestNow 298 = .ok (.iinc 7 1, 3) := by decide +kernel
theorem dX16_bestNow_301 : decode cX16_bestNow 301 = .ok (.goto (-169), 3) := by decide +kernel
theorem dX16_bestNow_304 : decode cX16_bestNow 304 = .ok (.iinc 6 1, 3) := by decide +kernel
theorem dX16_bestNow_307 : decode cX16_bestNow 307 = .ok (.goto (-205), 3) := by decide +kernel
theorem dX16_bestNow_310 : decode cX16_bestNow 310 = .ok (.aload 5, 2) := by decide +kernel
theorem dX16_bestNow_312 : decode cX16_bestNow 312 = .ok (.areturn, 1) := by decide +kernel
abbrev rm_m_X16_bestNow : Room := { frames := 6, cells := 2, slots := 48, locals := 137 }
set_option maxHeartbeats 4000000 in
set_option maxRecDepth 100000 in
theorem m_X16_bestNow {s0 : State} {l : Launch} {D : va_G} {cy : Nat → ClassId} (G : Gl s0 l D cy) (S : HS) (ea ns nj nm nt nr nq : Nat) (h : RI ea S ns nj nm nt nr nq) (at_ : Int32) (hT : ∀ x ∈ LB, ¬ vV S x.1 x.2) : Ctr s0 l D cy yX16_bestNow cX16_bestNow 10 (some (.array .int)) rm_m_X16_bestNow S [.ref (gG S 16 0), .int at_] (fun v S' => some (.ref (gG S' 39 1)) = v ∧ RI ea S' ns nj nm nt nr nq ∧ Kq (hvT LB) hNo hNo S S' ∧ vV S' 39 1 ∧ mN S' 39 1 = 7 ∧ ¬ vV S' 39 2) := by
  refine pro "CavershamShiftModel" G rfl rfl (Nat.le_of_ble_eq_true rfl) (fun p e s m below meth c ls X w hnm hl => ?_)
  have hx := X.1
  have hb := X.2.1
  have hown := X.2.2.2.1
  have hts := X.2.2.2.2.1
  have hl : lv_has ls 10 [(0, .ref (gG S 16 0)), (1, .int at_)] := hl
  have h0 := h
  have hK : Kq (hvT LB) hNo hNo S S := Kq.rf
  have nv39_1 : ¬ vV S 39 1 := hT (39, 1) (by decide)
  have nv39_2 : ¬ vV S 39 2 := hT (39, 2) (by decide)
  have hnm : ns * nm ≤ 40 := Nat.mul_le_mul h.b_st h.b_mo
  obtain ⟨nn, hnn⟩ : ∃ nn, nn = ns * nm := ⟨_, rfl⟩
  rw [← hnn] at hnm
  refine lv_aload_n hx hb dX16_bestNow_0 rfl (lv_at hl 0 rfl) ?_
  refine g_16_6 (S := S) (x := (some (gG S 17 6))) X w h.v wF_X16_16 (h.f_st) dX16_bestNow_1 ?_
  refine cF (S := S) (t := 17) (nA := 0) (As := []) (rest := []) X w hl h.l_st.1 (m_size G S ea 6 ns h.l_st) wY_Jx4a65c_size_8abf5 wM_X16_73 wIn_Jx4a65c_size_8abf5 wSe_Jx4a65c_Jx4a65c_size_8abf5_of_java_util_List_size___I wI_Jx4a65c fw_size (by decide) rfl (by decide +kernel) rfl rfl dX16_bestNow_4 ⟨by decide, by decide⟩ (Nat.le_of_ble_eq_true rfl) (⟨Nat.le_of_ble_eq_true rfl, Nat.le_of_ble_eq_true rfl⟩) (fun v1 S1 H locs hp w => ?_)
  obtain ⟨rfl, rfl⟩ := hp
  refine lv_istore_n (lv' := [(2, .int (nI ns)), (0, .ref (gG S 16 0)), (1, .int at_)]) hx hb dX16_bestNow_9 rfl hl (by decide) rfl (fun ls hl => ?_)
  refine lv_aload_n hx hb dX16_bestNow_10 rfl (lv_at hl 1 rfl) ?_
  refine g_16_8 (S := S) (x := (some (gG S 17 8))) X w h.v wF_X16_23 (h.f_mo) dX16_bestNow_11 ?_
  refine cF (S := S) (t := 17) (nA := 0) (As := []) (rest := []) X w hl h.l_mo.1 (m_size G S ea 8 nm h.l_mo) wY_Jx4a65c_size_8abf5 wM_X16_73 wIn_Jx4a65c_size_8abf5 wSe_Jx4a65c_Jx4a65c_size_8abf5_of_java_util_List_size___I wI_Jx4a65c fw_size (by decide) rfl (by decide +kernel) rfl rfl dX16_bestNow_14 ⟨by decide, by decide⟩ (Nat.le_of_ble_eq_true rfl) (⟨Nat.le_of_ble_eq_true rfl, Nat.le_of_ble_eq_true rfl⟩) (fun v2 S1 H locs hp w => ?_)
  obtain ⟨rfl, rfl⟩ := hp
  refine lv_istore_n (lv' := [(3, .int (nI nm)), (2, .int (nI ns)), (0, .ref (gG S 16 0)), (1, .int at_)]) hx hb dX16_bestNow_19 rfl hl (by decide) rfl (fun ls hl => ?_)
  refine lv_iload_n hx hb dX16_bestNow_20 rfl (lv_at hl 1 rfl) ?_
  refine lv_iload_n hx hb dX16_bestNow_21 rfl (lv_at hl 0 rfl) ?_
  refine lv_imul hx hb dX16_bestNow_22 ?_
  refine lv_topi (fun z3 ez3 => ?_)
  obtain rfl : z3 = nI nn := ez3.trans (by rw [pk_mul, ← hnn])
  refine lv_iconst (v := 1) hx hb dX16_bestNow_23 (by decide) ?_
  refine lv_iadd hx hb dX16_bestNow_24 ?_
  refine lv_topi (fun z4 ez4 => ?_)
  obtain rfl : z4 = nI (nn + 1) := ez4.trans (nI_1 _)
  refine nwI (S := S) (atype := .int) (ty := .int) (n := (nn + 1)) X w 39 2 (nv39_2) (by decide) rfl rfl (Or.inl ⟨rfl, rfl⟩) wA_int (rfl) (by omega) dX16_bestNow_25 (Nat.le_of_ble_eq_true rfl) (show 0 + (nn + 1) ≤ 48 by omega) (fun q39_2 S2 H hS2 w => ?_)
  subst hS2
  have v39_2 : vV (sArr S 39 2 q39_2 (nn + 1)) 39 2 := Or.inr ⟨rfl, rfl⟩
  have n39_2 : mN (sArr S 39 2 q39_2 (nn + 1)) 39 2 = (nn + 1) := rfl
  have e39_2 : gG (sArr S 39 2 q39_2 (nn + 1)) 39 2 = q39_2 := rfl
  have h : RI ea (sArr S 39 2 q39_2 (nn + 1)) ns nj nm nt nr nq := h.arr (by decide)
  have hK : Kq (hvT LB) hNo hNo S (sArr S 39 2 q39_2 (nn + 1)) := hK.arr rfl
  have nv39_1 : ¬ vV (sArr S 39 2 q39_2 (nn + 1)) 39 1 := fun z => z.elim nv39_1 (fun z => absurd z (by decide))
  refine lv_astore (lv' := [(4, .ref (gG (sArr S 39 2 q39_2 (nn + 1)) 39 2)), (3, .int (nI nm)), (2, .int (nI ns)), (0, .ref (gG S 16 0)), (1, .int at_)]) hx hb dX16_bestNow_27 hl (by decide) rfl (fun ls hl => ?_)
  refine lv_iconst (v := 0) hx hb dX16_bestNow_29 (by decide) ?_
  refine lv_istore (lv' := [(5, .int 0), (4, .ref (gG (sArr S 39 2 q39_2 (nn + 1)) 39 2)), (3, .int (nI nm)), (2, .int (nI ns)), (0, .ref (gG S 16 0)), (1, .int at_)]) hx hb dX16_bestNow_30 hl (by decide) rfl (fun ls hl => ?_)
  have L32 : ∀ (N : Nat) (k32 : Nat) (T32 : HS) (H : Heap) (locs : List Loc) (ls : Array Slot), nn - k32 < N → (k32 ≤ nn) → (RI ea T32 ns nj nm nt nr nq) → (Kq (hvT LB) hNo hNo S T32) → (¬ vV T32 39 1) → (vV T32 39 2) → (mN T32 39 2 = (nn + 1)) → (gG T32 39 2 = q39_2) → Wd s0 D cy T32 s.heap H locs → lv_has ls 10 [(5, .int (nI k32)), (4, .ref (gG (sArr S 39 2 q39_2 (nn + 1)) 39 2)), (3, .int (nI nm)), (2, .int (nI ns)), (0, .ref (gG S 16 0)), (1, .int at_)] → W p l e rm_m_X16_bestNow s m ([.ref (gG S 16 0), .int at_] : List Value).toArray below meth c H locs (0 + 1) (0 + (nn + 1)) (MQ below (GQ s0 D cy (fun v S' => some (.ref (gG S' 39 1)) = v ∧ RI ea S' ns nj nm nt nr nq ∧ Kq (hvT LB) hNo hNo S S' ∧ vV S' 39 1 ∧ mN S' 39 1 = 7 ∧ ¬ vV S' 39 2)) ([.ref (gG S 16 0), .int at_] : List Value).toArray s rm_m_X16_bestNow.cells rm_m_X16_bestNow.slots (A0 s0)) (F0 m 32 ls []) := by
    clear nv39_1 v39_2 n39_2 e39_2
    intro N
    induction N with
    | zero => intros; omega
    | succ N ih32 =>
      intro k32 T32 H locs ls hmu hk_k32 h hK_T32 nv39_1 v39_2 n39_2 e39_2 w hl
      have hK := hK_T32
      refine lv_iload hx hb dX16_bestNow_32 (lv_at hl 0 rfl) ?_
      refine lv_iload_n hx hb dX16_bestNow_34 rfl (lv_at hl 3 rfl) ?_
      refine lv_iload_n hx hb dX16_bestNow_35 rfl (lv_at hl 2 rfl) ?_
      refine lv_imul hx hb dX16_bestNow_36 ?_
      refine lv_topi (fun z5 ez5 => ?_)
      obtain rfl : z5 = nI nn := ez5.trans (by rw [pk_mul, ← hnn])
      refine lv_icmp_ge (tgt := 64) hx hb dX16_bestNow_37 (by decide) (fun hc_k32 => ?_) (fun hc_k32 => ?_)
      · have hge_k32 : nn ≤ k32 := by
          skip
          exact (nI_leI (a := nn) (b := k32) (by omega) (by omega)).mp hc_k32
        refine lv_bipush (v := 7) hx hb dX16_bestNow_64 (by decide) ?_
        refine nwI (S := T32) (atype := .int) (ty := .int) (n := 7) X w 39 1 (nv39_1) (by decide) rfl rfl (Or.inl ⟨rfl, rfl⟩) wA_int (rfl) (by decide) dX16_bestNow_66 (Nat.le_of_ble_eq_true rfl) (show 0 + (nn + 1) + 7 ≤ 48 by omega) (fun q39_1 S2 H hS2 w => ?_)
        subst hS2
        have v39_1 : vV (sArr T32 39 1 q39_1 7) 39 1 := Or.inr ⟨rfl, rfl⟩
        have n39_1 : mN (sArr T32 39 1 q39_1 7) 39 1 = 7 := rfl
        have e39_1 : gG (sArr T32 39 1 q39_1 7) 39 1 = q39_1 := rfl
        have v39_2 : vV (sArr T32 39 1 q39_1 7) 39 2 := Or.inl v39_2
        have n39_2 : mN (sArr T32 39 1 q39_1 7) 39 2 = (nn + 1) := n39_2
        have e39_2 : gG (sArr T32 39 1 q39_1 7) 39 2 = q39_2 := e39_2
        have h : RI ea (sArr T32 39 1 q39_1 7) ns nj nm nt nr nq := h.arr (by decide)
        have hK : Kq (hvT LB) hNo hNo S (sArr T32 39 1 q39_1 7) := hK.arr rfl
        refine lv_dup hx hb dX16_bestNow_68 rfl ?_
        refine lv_iconst (v := 0) hx hb dX16_bestNow_69 (by decide) ?_
        refine lv_iconst (v := 0) hx hb dX16_bestNow_70 (by decide) ?_
        refine aStI (S := (sArr T32 39 1 q39_1 7)) (t := 39) X w v39_1 (by decide) rfl rfl (by rw [n39_1]; unfold vp_in; decide) dX16_bestNow_71 (fun H locs w => ?_)
        have h : RI ea (sA (sArr T32 39 1 q39_1 7) 39 1 (upd (mA (sArr T32 39 1 q39_1 7) 39 1) (0 : Int32).toNatClampNeg 0)) ns nj nm nt nr nq := h.stA (by decide)
        have hK : Kq (hvT LB) hNo hNo S (sA (sArr T32 39 1 q39_1 7) 39 1 (upd (mA (sArr T32 39 1 q39_1 7) 39 1) (0 : Int32).toNatClampNeg 0)) := hK.sA rfl
        obtain ⟨U6, h, hK_U6, v39_2', n39_2', e39_2', v39_1', n39_1', e39_1', w⟩ : ∃ U6 : HS, (RI ea U6 ns nj nm nt nr nq) ∧ (Kq (hvT LB) hNo hNo S U6) ∧ (vV U6 39 2) ∧ (mN U6 39 2 = (nn + 1)) ∧ (gG U6 39 2 = q39_2) ∧ (vV U6 39 1) ∧ (mN U6 39 1 = 7) ∧ (gG U6 39 1 = q39_1) ∧ Wd s0 D cy U6 s.heap H locs := ⟨_, h, hK, v39_2, n39_2, e39_2, v39_1, n39_1, e39_1, w⟩
        clear v39_2 n39_2 e39_2 v39_1 n39_1 e39_1
        have v39_2 := v39_2'; clear v39_2'
        have n39_2 := n39_2'; clear n39_2'
        have e39_2 := e39_2'; clear e39_2'
        have v39_1 := v39_1'; clear v39_1'
        have n39_1 := n39_1'; clear n39_1'
        have e39_1 := e39_1'; clear e39_1'
        have hK := hK_U6
        refine lv_dup hx hb dX16_bestNow_72 rfl ?_
        refine lv_iconst (v := 1) hx hb dX16_bestNow_73 (by decide) ?_
        refine lv_iconst (v := (-1)) hx hb dX16_bestNow_74 (by decide) ?_
        refine rE2 ((show gG (sArr T32 39 1 q39_1 7) 39 1 = q39_1 from rfl).trans e39_1.symm) ?_
        refine aStI (S := U6) (t := 39) X w v39_1 (by decide) rfl rfl (by rw [n39_1]; unfold vp_in; decide) dX16_bestNow_75 (fun H locs w => ?_)
        have h : RI ea (sA U6 39 1 (upd (mA U6 39 1) (1 : Int32).toNatClampNeg (-1))) ns nj nm nt nr nq := h.stA (by decide)
        have hK : Kq (hvT LB) hNo hNo S (sA U6 39 1 (upd (mA U6 39 1) (1 : Int32).toNatClampNeg (-1))) := hK.sA rfl
        obtain ⟨U7, h, hK_U7, v39_2', n39_2', e39_2', v39_1', n39_1', e39_1', w⟩ : ∃ U7 : HS, (RI ea U7 ns nj nm nt nr nq) ∧ (Kq (hvT LB) hNo hNo S U7) ∧ (vV U7 39 2) ∧ (mN U7 39 2 = (nn + 1)) ∧ (gG U7 39 2 = q39_2) ∧ (vV U7 39 1) ∧ (mN U7 39 1 = 7) ∧ (gG U7 39 1 = q39_1) ∧ Wd s0 D cy U7 s.heap H locs := ⟨_, h, hK, v39_2, n39_2, e39_2, v39_1, n39_1, e39_1, w⟩
        clear v39_2 n39_2 e39_2 v39_1 n39_1 e39_1
        have v39_2 := v39_2'; clear v39_2'
        have n39_2 := n39_2'; clear n39_2'
        have e39_2 := e39_2'; clear e39_2'
        have v39_1 := v39_1'; clear v39_1'
        have n39_1 := n39_1'; clear n39_1'
        have e39_1 := e39_1'; clear e39_1'
        have hK := hK_U7
        refine lv_dup hx hb dX16_bestNow_76 rfl ?_
        refine lv_iconst (v := 2) hx hb dX16_bestNow_77 (by decide) ?_
        refine lv_iconst (v := (-1)) hx hb dX16_bestNow_78 (by decide) ?_
        refine rE2 ((show gG (sArr T32 39 1 q39_1 7) 39 1 = q39_1 from rfl).trans e39_1.symm) ?_
        refine aStI (S := U7) (t := 39) X w v39_1 (by decide) rfl rfl (by rw [n39_1]; unfold vp_in; decide) dX16_bestNow_79 (fun H locs w => ?_)
        have h : RI ea (sA U7 39 1 (upd (mA U7 39 1) (2 : Int32).toNatClampNeg (-1))) ns nj nm nt nr nq := h.stA (by decide)
        have hK : Kq (hvT LB) hNo hNo S (sA U7 39 1 (upd (mA U7 39 1) (2 : Int32).toNatClampNeg (-1))) := hK.sA rfl
        obtain ⟨U8, h, hK_U8, v39_2', n39_2', e39_2', v39_1', n39_1', e39_1', w⟩ : ∃ U8 : HS, (RI ea U8 ns nj nm nt nr nq) ∧ (Kq (hvT LB) hNo hNo S U8) ∧ (vV U8 39 2) ∧ (mN U8 39 2 = (nn + 1)) ∧ (gG U8 39 2 = q39_2) ∧ (vV U8 39 1) ∧ (mN U8 39 1 = 7) ∧ (gG U8 39 1 = q39_1) ∧ Wd s0 D cy U8 s.heap H locs := ⟨_, h, hK, v39_2, n39_2, e39_2, v39_1, n39_1, e39_1, w⟩
        clear v39_2 n39_2 e39_2 v39_1 n39_1 e39_1
        have v39_2 := v39_2'; clear v39_2'
        have n39_2 := n39_2'; clear n39_2'
        have e39_2 := e39_2'; clear e39_2'
        have v39_1 := v39_1'; clear v39_1'
        have n39_1 := n39_1'; clear n39_1'
        have e39_1 := e39_1'; clear e39_1'
        have hK := hK_U8
        refine lv_dup hx hb dX16_bestNow_80 rfl ?_
        refine lv_iconst (v := 3) hx hb dX16_bestNow_81 (by decide) ?_
        refine lv_iconst (v := (-1)) hx hb dX16_bestNow_82 (by decide) ?_
        refine rE2 ((show gG (sArr T32 39 1 q39_1 7) 39 1 = q39_1 from rfl).trans e39_1.symm) ?_
        refine aStI (S := U8) (t := 39) X w v39_1 (by decide) rfl rfl (by rw [n39_1]; unfold vp_in; decide) dX16_bestNow_83 (fun H locs w => ?_)
        have h : RI ea (sA U8 39 1 (upd (mA U8 39 1) (3 : Int32).toNatClampNeg (-1))) ns nj nm nt nr nq := h.stA (by decide)
        have hK : Kq (hvT LB) hNo hNo S (sA U8 39 1 (upd (mA U8 39 1) (3 : Int32).toNatClampNeg (-1))) := hK.sA rfl
        obtain ⟨U9, h, hK_U9, v39_2', n39_2', e39_2', v39_1', n39_1', e39_1', w⟩ : ∃ U9 : HS, (RI ea U9 ns nj nm nt nr nq) ∧ (Kq (hvT LB) hNo hNo S U9) ∧ (vV U9 39 2) ∧ (mN U9 39 2 = (nn + 1)) ∧ (gG U9 39 2 = q39_2) ∧ (vV U9 39 1) ∧ (mN U9 39 1 = 7) ∧ (gG U9 39 1 = q39_1) ∧ Wd s0 D cy U9 s.heap H locs := ⟨_, h, hK, v39_2, n39_2, e39_2, v39_1, n39_1, e39_1, w⟩
        clear v39_2 n39_2 e39_2 v39_1 n39_1 e39_1
        have v39_2 := v39_2'; clear v39_2'
        have n39_2 := n39_2'; clear n39_2'
        have e39_2 := e39_2'; clear e39_2'
        have v39_1 := v39_1'; clear v39_1'
        have n39_1 := n39_1'; clear n39_1'
        have e39_1 := e39_1'; clear e39_1'
        have hK := hK_U9
        refine lv_dup hx hb dX16_bestNow_84 rfl ?_
        refine lv_iconst (v := 4) hx hb dX16_bestNow_85 (by decide) ?_
        refine lv_iconst (v := (-1)) hx hb dX16_bestNow_86 (by decide) ?_
        refine rE2 ((show gG (sArr T32 39 1 q39_1 7) 39 1 = q39_1 from rfl).trans e39_1.symm) ?_
        refine aStI (S := U9) (t := 39) X w v39_1 (by decide) rfl rfl (by rw [n39_1]; unfold vp_in; decide) dX16_bestNow_87 (fun H locs w => ?_)
        have h : RI ea (sA U9 39 1 (upd (mA U9 39 1) (4 : Int32).toNatClampNeg (-1))) ns nj nm nt nr nq := h.stA (by decide)
        have hK : Kq (hvT LB) hNo hNo S (sA U9 39 1 (upd (mA U9 39 1) (4 : Int32).toNatClampNeg (-1))) := hK.sA rfl
        obtain ⟨U10, h, hK_U10, v39_2', n39_2', e39_2', v39_1', n39_1', e39_1', w⟩ : ∃ U10 : HS, (RI ea U10 ns nj nm nt nr nq) ∧ (Kq (hvT LB) hNo hNo S U10) ∧ (vV U10 39 2) ∧ (mN U10 39 2 = (nn + 1)) ∧ (gG U10 39 2 = q39_2) ∧ (vV U10 39 1) ∧ (mN U10 39 1 = 7) ∧ (gG U10 39 1 = q39_1) ∧ Wd s0 D cy U10 s.heap H locs := ⟨_, h, hK, v39_2, n39_2, e39_2, v39_1, n39_1, e39_1, w⟩
        clear v39_2 n39_2 e39_2 v39_1 n39_1 e39_1
        have v39_2 := v39_2'; clear v39_2'
        have n39_2 := n39_2'; clear n39_2'
        have e39_2 := e39_2'; clear e39_2'
        have v39_1 := v39_1'; clear v39_1'
        have n39_1 := n39_1'; clear n39_1'
        have e39_1 := e39_1'; clear e39_1'
        have hK := hK_U10
        refine lv_dup hx hb dX16_bestNow_88 rfl ?_
        refine lv_iconst (v := 5) hx hb dX16_bestNow_89 (by decide) ?_
        refine lv_iconst (v := (-1)) hx hb dX16_bestNow_90 (by decide) ?_
        refine rE2 ((show gG (sArr T32 39 1 q39_1 7) 39 1 = q39_1 from rfl).trans e39_1.symm) ?_
        refine aStI (S := U10) (t := 39) X w v39_1 (by decide) rfl rfl (by rw [n39_1]; unfold vp_in; decide) dX16_bestNow_91 (fun H locs w => ?_)
        have h : RI ea (sA U10 39 1 (upd (mA U10 39 1) (5 : Int32).toNatClampNeg (-1))) ns nj nm nt nr nq := h.stA (by decide)
        have hK : Kq (hvT LB) hNo hNo S (sA U10 39 1 (upd (mA U10 39 1) (5 : Int32).toNatClampNeg (-1))) := hK.sA rfl
        obtain ⟨U11, h, hK_U11, v39_2', n39_2', e39_2', v39_1', n39_1', e39_1', w⟩ : ∃ U11 : HS, (RI ea U11 ns nj nm nt nr nq) ∧ (Kq (hvT LB) hNo hNo S U11) ∧ (vV U11 39 2) ∧ (mN U11 39 2 = (nn + 1)) ∧ (gG U11 39 2 = q39_2) ∧ (vV U11 39 1) ∧ (mN U11 39 1 = 7) ∧ (gG U11 39 1 = q39_1) ∧ Wd s0 D cy U11 s.heap H locs := ⟨_, h, hK, v39_2, n39_2, e39_2, v39_1, n39_1, e39_1, w⟩
        clear v39_2 n39_2 e39_2 v39_1 n39_1 e39_1
        have v39_2 := v39_2'; clear v39_2'
        have n39_2 := n39_2'; clear n39_2'
        have e39_2 := e39_2'; clear e39_2'
        have v39_1 := v39_1'; clear v39_1'
        have n39_1 := n39_1'; clear n39_1'
        have e39_1 := e39_1'; clear e39_1'
        have hK := hK_U11
        refine lv_dup hx hb dX16_bestNow_92 rfl ?_
        refine lv_bipush (v := 6) hx hb dX16_bestNow_93 (by decide) ?_
        refine lv_iconst (v := (-1)) hx hb dX16_bestNow_95 (by decide) ?_
        refine rE2 ((show gG (sArr T32 39 1 q39_1 7) 39 1 = q39_1 from rfl).trans e39_1.symm) ?_
        refine aStI (S := U11) (t := 39) X w v39_1 (by decide) rfl rfl (by rw [n39_1]; unfold vp_in; decide) dX16_bestNow_96 (fun H locs w => ?_)
        have h : RI ea (sA U11 39 1 (upd (mA U11 39 1) (6 : Int32).toNatClampNeg (-1))) ns nj nm nt nr nq := h.stA (by decide)
        have hK : Kq (hvT LB) hNo hNo S (sA U11 39 1 (upd (mA U11 39 1) (6 : Int32).toNatClampNeg (-1))) := hK.sA rfl
        obtain ⟨U12, h, hK_U12, v39_2', n39_2', e39_2', v39_1', n39_1', e39_1', w⟩ : ∃ U12 : HS, (RI ea U12 ns nj nm nt nr nq) ∧ (Kq (hvT LB) hNo hNo S U12) ∧ (vV U12 39 2) ∧ (mN U12 39 2 = (nn + 1)) ∧ (gG U12 39 2 = q39_2) ∧ (vV U12 39 1) ∧ (mN U12 39 1 = 7) ∧ (gG U12 39 1 = q39_1) ∧ Wd s0 D cy U12 s.heap H locs := ⟨_, h, hK, v39_2, n39_2, e39_2, v39_1, n39_1, e39_1, w⟩
        clear v39_2 n39_2 e39_2 v39_1 n39_1 e39_1
        have v39_2 := v39_2'; clear v39_2'
        have n39_2 := n39_2'; clear n39_2'
        have e39_2 := e39_2'; clear e39_2'
        have v39_1 := v39_1'; clear v39_1'
        have n39_1 := n39_1'; clear n39_1'
        have e39_1 := e39_1'; clear e39_1'
        have hK := hK_U12
        refine lv_astore (lv' := [(5, .ref (gG (sArr T32 39 1 q39_1 7) 39 1)), (4, .ref (gG (sArr S 39 2 q39_2 (nn + 1)) 39 2)), (3, .int (nI nm)), (2, .int (nI ns)), (0, .ref (gG S 16 0)), (1, .int at_)]) hx hb dX16_bestNow_97 hl (by decide) rfl (fun ls hl => ?_)
        refine lv_iconst (v := 0) hx hb dX16_bestNow_99 (by decide) ?_
        refine lv_istore (lv' := [(6, .int 0), (5, .ref (gG (sArr T32 39 1 q39_1 7) 39 1)), (4, .ref (gG (sArr S 39 2 q39_2 (nn + 1)) 39 2)), (3, .int (nI nm)), (2, .int (nI ns)), (0, .ref (gG S 16 0)), (1, .int at_)]) hx hb dX16_bestNow_100 hl (by decide) rfl (fun ls hl => ?_)
        have L102 : ∀ (N : Nat) (k102 : Nat) (T102 : HS) (H : Heap) (locs : List Loc) (ls : Array Slot), nn + 1 - k102 < N → (k102 ≤ nn + 1) → (RI ea T102 ns nj nm nt nr nq) → (Kq (hvT LB) hNo hNo S T102) → (vV T102 39 2) → (mN T102 39 2 = (nn + 1)) → (gG T102 39 2 = q39_2) → (vV T102 39 1) → (mN T102 39 1 = 7) → (gG T102 39 1 = q39_1) → Wd s0 D cy T102 s.heap H locs → lv_has ls 10 [(6, .int (nI k102)), (5, .ref (gG (sArr T32 39 1 q39_1 7) 39 1)), (4, .ref (gG (sArr S 39 2 q39_2 (nn + 1)) 39 2)), (3, .int (nI nm)), (2, .int (nI ns)), (0, .ref (gG S 16 0)), (1, .int at_)] → W p l e rm_m_X16_bestNow s m ([.ref (gG S 16 0), .int at_] : List Value).toArray below meth c H locs (0 + 1 + 1) (0 + (nn + 1) + 7) (MQ below (GQ s0 D cy (fun v S' => some (.ref (gG S' 39 1)) = v ∧ RI ea S' ns nj nm nt nr nq ∧ Kq (hvT LB) hNo hNo S S' ∧ vV S' 39 1 ∧ mN S' 39 1 = 7 ∧ ¬ vV S' 39 2)) ([.ref (gG S 16 0), .int at_] : List Value).toArray s rm_m_X16_bestNow.cells rm_m_X16_bestNow.slots (A0 s0)) (F0 m 102 ls []) := by
          clear v39_2 n39_2 e39_2 v39_1 n39_1 e39_1
          intro N
          induction N with
          | zero => intros; omega
          | succ N ih102 =>
            intro k102 T102 H locs ls hmu hk_k102 h hK_T102 v39_2 n39_2 e39_2 v39_1 n39_1 e39_1 w hl
            have hK := hK_T102
            refine lv_iload hx hb dX16_bestNow_102 (lv_at hl 0 rfl) ?_
            refine lv_iload_n hx hb dX16_bestNow_104 rfl (lv_at hl 4 rfl) ?_
            refine lv_iload_n hx hb dX16_bestNow_105 rfl (lv_at hl 3 rfl) ?_
            refine lv_imul hx hb dX16_bestNow_106 ?_
            refine lv_topi (fun z13 ez13 => ?_)
            obtain rfl : z13 = nI nn := ez13.trans (by rw [pk_mul, ← hnn])
            refine lv_icmp_gt (tgt := 310) hx hb dX16_bestNow_107 (by decide) (fun hc_k102 => ?_) (fun hc_k102 => ?_)
            · have hge_k102 : nn + 1 ≤ k102 := (nI_ltI (a := nn) (b := k102) (by omega) (by omega)).mp hc_k102
              refine lv_aload hx hb dX16_bestNow_310 (lv_at hl 1 rfl) ?_
              have w := w.d39
              have h : RI ea (dr39 T102) ns nj nm nt nr nq := h.d39
              have hK : Kq (hvT LB) hNo hNo S (dr39 T102) := Kq.d39 hK
              refine rE0 ((show gG (sArr T32 39 1 q39_1 7) 39 1 = q39_1 from rfl).trans e39_1.symm) ?_
              exact rA (v := (some (gG (dr39 T102) 39 1))) X w rfl (Or.inr ⟨_, rfl⟩) dX16_bestNow_312 (Nat.le_of_ble_eq_true rfl) (show 0 + (nn + 1) + 7 ≤ 48 by omega) (⟨rfl, h, hK, ⟨v39_1, fun e => by omega⟩, n39_1, fun z => z.2 ⟨rfl, rfl⟩⟩)
            · have hlt_k102 : k102 < nn + 1 := Nat.lt_of_not_le (fun z => hc_k102 ((nI_ltI (a := nn) (b := k102) (by omega) (by omega)).mpr z))
              refine lv_iload hx hb dX16_bestNow_110 (lv_at hl 0 rfl) ?_
              refine lv_iload_n hx hb dX16_bestNow_112 rfl (lv_at hl 4 rfl) ?_
              refine lv_iload_n hx hb dX16_bestNow_113 rfl (lv_at hl 3 rfl) ?_
              refine lv_imul hx hb dX16_bestNow_114 ?_
              refine lv_topi (fun z14 ez14 => ?_)
              obtain rfl : z14 = nI nn := ez14.trans (by rw [pk_mul, ← hnn])
              have J129 : ∀  (H : Heap) (locs : List Loc) (ls : Array Slot), Wd s0 D cy T102 s.heap H locs → lv_has ls 10 [(6, .int (nI k102)), (5, .ref (gG (sArr T32 39 1 q39_1 7) 39 1)), (4, .ref (gG (sArr S 39 2 q39_2 (nn + 1)) 39 2)), (3, .int (nI nm)), (2, .int (nI ns)), (0, .ref (gG S 16 0)), (1, .int at_)] → W p l e rm_m_X16_bestNow s m ([.ref (gG S 16 0), .int at_] : List Value).toArray below meth c H locs (0 + 1 + 1) (0 + (nn + 1) + 7) (MQ below (GQ s0 D cy (fun v S' => some (.ref (gG S' 39 1)) = v ∧ RI ea S' ns nj nm nt nr nq ∧ Kq (hvT LB) hNo hNo S S' ∧ vV S' 39 1 ∧ mN S' 39 1 = 7 ∧ ¬ vV S' 39 2)) ([.ref (gG S 16 0), .int at_] : List Value).toArray s rm_m_X16_bestNow.cells rm_m_X16_bestNow.slots (A0 s0)) (F0 m 129 ls []) := by
                intro  H locs ls  w hl
                refine lv_iconst (v := 0) hx hb dX16_bestNow_129 (by decide) ?_
                refine lv_istore (lv' := [(7, .int 0), (6, .int (nI k102)), (5, .ref (gG (sArr T32 39 1 q39_1 7) 39 1)), (4, .ref (gG (sArr S 39 2 q39_2 (nn + 1)) 39 2)), (3, .int (nI nm)), (2, .int (nI ns)), (0, .ref (gG S 16 0)), (1, .int at_)]) hx hb dX16_bestNow_130 hl (by decide) rfl (fun ls hl => ?_)
                have L132 : ∀ (N : Nat) (k132 : Nat) (T132 : HS) (H : Heap) (locs : List Loc) (ls : Array Slot), nn + 1 - k132 < N → (k132 ≤ nn + 1) → (RI ea T132 ns nj nm nt nr nq) → (Kq (hvT LB) hNo hNo S T132) → (vV T132 39 2) → (mN T132 39 2 = (nn + 1)) → (gG T132 39 2 = q39_2) → (vV T132 39 1) → (mN T132 39 1 = 7) → (gG T132 39 1 = q39_1) → Wd s0 D cy T132 s.heap H locs → lv_has ls 10 [(7, .int (nI k132)), (6, .int (nI k102)), (5, .ref (gG (sArr T32 39 1 q39_1 7) 39 1)), (4, .ref (gG (sArr S 39 2 q39_2 (nn + 1)) 39 2)), (3, .int (nI nm)), (2, .int (nI ns)), (0, .ref (gG S 16 0)), (1, .int at_)] → W p l e rm_m_X16_bestNow s m ([.ref (gG S 16 0), .int at_] : List Value).toArray below meth c H locs (0 + 1 + 1) (0 + (nn + 1) + 7) (MQ below (GQ s0 D cy (fun v S' => some (.ref (gG S' 39 1)) = v ∧ RI ea S' ns nj nm nt nr nq ∧ Kq (hvT LB) hNo hNo S S' ∧ vV S' 39 1 ∧ mN S' 39 1 = 7 ∧ ¬ vV S' 39 2)) ([.ref (gG S 16 0), .int at_] : List Value).toArray s rm_m_X16_bestNow.cells rm_m_X16_bestNow.slots (A0 s0)) (F0 m 132 ls []) := by
                  clear v39_2 n39_2 e39_2 v39_1 n39_1 e39_1
                  intro N
                  induction N with
                  | zero => intros; omega
                  | succ N ih132 =>
                    intro k132 T132 H locs ls hmu hk_k132 h hK_T132 v39_2 n39_2 e39_2 v39_1 n39_1 e39_1 w hl
                    have hK := hK_T132
                    refine lv_iload hx hb dX16_bestNow_132 (lv_at hl 0 rfl) ?_
                    refine lv_iload_n hx hb dX16_bestNow_134 rfl (lv_at hl 5 rfl) ?_
                    refine lv_iload_n hx hb dX16_bestNow_135 rfl (lv_at hl 4 rfl) ?_
                    refine lv_imul hx hb dX16_bestNow_136 ?_
                    refine lv_topi (fun z15 ez15 => ?_)
                    obtain rfl : z15 = nI nn := ez15.trans (by rw [pk_mul, ← hnn])
                    refine lv_icmp_gt (tgt := 304) hx hb dX16_bestNow_137 (by decide) (fun hc_k132 => ?_) (fun hc_k132 => ?_)
                    · have hge_k132 : nn + 1 ≤ k132 := (nI_ltI (a := nn) (b := k132) (by omega) (by omega)).mp hc_k132
                      refine lv_iinc (v := nI (k102 + 1)) (lv' := [(6, .int (nI (k102 + 1))), (7, .int (nI k132)), (5, .ref (gG (sArr T32 39 1 q39_1 7) 39 1)), (4, .ref (gG (sArr S 39 2 q39_2 (nn + 1)) 39 2)), (3, .int (nI nm)), (2, .int (nI ns)), (0, .ref (gG S 16 0)), (1, .int at_)]) hx hb dX16_bestNow_304 hl (k := 1) rfl (nI_1 _) (by decide) rfl (fun ls hl => ?_)
                      refine lv_goto (tgt := 102) hx hb dX16_bestNow_307 (by decide) ?_
                      exact ih102 (k102 + 1) T132 _ _ _ (by omega) (hlt_k102) (h) (hK) (v39_2) (n39_2) (e39_2) (v39_1) (n39_1) (e39_1) w (lv_sub hl [0, 2, 3, 4, 5, 6, 7] rfl)
                    · have hlt_k132 : k132 < nn + 1 := Nat.lt_of_not_le (fun z => hc_k132 ((nI_ltI (a := nn) (b := k132) (by omega) (by omega)).mpr z))
                      refine lv_iload hx hb dX16_bestNow_140 (lv_at hl 0 rfl) ?_
                      refine lv_iload_n hx hb dX16_bestNow_142 rfl (lv_at hl 5 rfl) ?_
                      refine lv_iload_n hx hb dX16_bestNow_143 rfl (lv_at hl 4 rfl) ?_
                      refine lv_imul hx hb dX16_bestNow_144 ?_
                      refine lv_topi (fun z16 ez16 => ?_)
                      obtain rfl : z16 = nI nn := ez16.trans (by rw [pk_mul, ← hnn])
                      have J156 : ∀  (H : Heap) (locs : List Loc) (ls : Array Slot), Wd s0 D cy T132 s.heap H locs → lv_has ls 10 [(7, .int (nI k132)), (6, .int (nI k102)), (5, .ref (gG (sArr T32 39 1 q39_1 7) 39 1)), (4, .ref (gG (sArr S 39 2 q39_2 (nn + 1)) 39 2)), (3, .int (nI nm)), (2, .int (nI ns)), (0, .ref (gG S 16 0)), (1, .int at_)] → W p l e rm_m_X16_bestNow s m ([.ref (gG S 16 0), .int at_] : List Value).toArray below meth c H locs (0 + 1 + 1) (0 + (nn + 1) + 7) (MQ below (GQ s0 D cy (fun v S' => some (.ref (gG S' 39 1)) = v ∧ RI ea S' ns nj nm nt nr nq ∧ Kq (hvT LB) hNo hNo S S' ∧ vV S' 39 1 ∧ mN S' 39 1 = 7 ∧ ¬ vV S' 39 2)) ([.ref (gG S 16 0), .int at_] : List Value).toArray s rm_m_X16_bestNow.cells rm_m_X16_bestNow.slots (A0 s0)) (F0 m 156 ls []) := by
                        intro  H locs ls  w hl
                        refine lv_iload hx hb dX16_bestNow_156 (lv_at hl 1 rfl) ?_
                        refine lv_iload hx hb dX16_bestNow_158 (lv_at hl 0 rfl) ?_
                        refine lv_iload_n hx hb dX16_bestNow_160 rfl (lv_at hl 5 rfl) ?_
                        refine lv_iload_n hx hb dX16_bestNow_161 rfl (lv_at hl 4 rfl) ?_
                        refine cS (S := T132) (nA := 4) (As := [.int (nI k102), .int (nI k132), .int (nI ns), .int (nI nm)]) (rest := []) X w hl (m_X16_meet G T132 k102 k132 ns nm (by omega) (by omega) h.b_st h.b_mo) wY_X16_meet wM_X16_355 wSt_X16_meet wI_X16 (by decide +kernel) rfl rfl dX16_bestNow_162 ⟨by decide, by decide⟩ (Nat.le_of_ble_eq_true rfl) (⟨(show 0 + 1 + 1 + 0 ≤ 2 by omega), (show 0 + (nn + 1) + 7 + 0 ≤ 48 by omega)⟩) (fun v18 S1 H locs hp w => ?_)
                        obtain ⟨⟨x17, rfl⟩, rfl⟩ := hp
                        refine lv_if_eq (tgt := 171) hx hb dX16_bestNow_165 (by decide) (fun hc19 => ?_) (fun hc19 => ?_)
                        · refine lv_iconst (v := 0) hx hb dX16_bestNow_171 (by decide) ?_
                          refine lv_istore (lv' := [(8, .int 0), (7, .int (nI k132)), (6, .int (nI k102)), (5, .ref (gG (sArr T32 39 1 q39_1 7) 39 1)), (4, .ref (gG (sArr S 39 2 q39_2 (nn + 1)) 39 2)), (3, .int (nI nm)), (2, .int (nI ns)), (0, .ref (gG S 16 0)), (1, .int at_)]) hx hb dX16_bestNow_172 hl (by decide) rfl (fun ls hl => ?_)
                          have L174 : ∀ (N : Nat) (k174 : Nat) (T174 : HS) (H : Heap) (locs : List Loc) (ls : Array Slot), nn + 1 - k174 < N → (k174 ≤ nn + 1) → (RI ea T174 ns nj nm nt nr nq) → (Kq (hvT LB) hNo hNo S T174) → (vV T174 39 2) → (mN T174 39 2 = (nn + 1)) → (gG T174 39 2 = q39_2) → (vV T174 39 1) → (mN T174 39 1 = 7) → (gG T174 39 1 = q39_1) → Wd s0 D cy T174 s.heap H locs → lv_has ls 10 [(8, .int (nI k174)), (7, .int (nI k132)), (6, .int (nI k102)), (5, .ref (gG (sArr T32 39 1 q39_1 7) 39 1)), (4, .ref (gG (sArr S 39 2 q39_2 (nn + 1)) 39 2)), (3, .int (nI nm)), (2, .int (nI ns)), (0, .ref (gG S 16 0)), (1, .int at_)] → W p l e rm_m_X16_bestNow s m ([.ref (gG S 16 0), .int at_] : List Value).toArray below meth c H locs (0 + 1 + 1) (0 + (nn + 1) + 7) (MQ below (GQ s0 D cy (fun v S' => some (.ref (gG S' 39 1)) = v ∧ RI ea S' ns nj nm nt nr nq ∧ Kq (hvT LB) hNo hNo S S' ∧ vV S' 39 1 ∧ mN S' 39 1 = 7 ∧ ¬ vV S' 39 2)) ([.ref (gG S 16 0), .int at_] : List Value).toArray s rm_m_X16_bestNow.cells rm_m_X16_bestNow.slots (A0 s0)) (F0 m 174 ls []) := by
                            clear v39_2 n39_2 e39_2 v39_1 n39_1 e39_1
                            intro N
                            induction N with
                            | zero => intros; omega
                            | succ N ih174 =>
                              intro k174 T174 H locs ls hmu hk_k174 h hK_T174 v39_2 n39_2 e39_2 v39_1 n39_1 e39_1 w hl
                              have hK := hK_T174
                              refine lv_iload hx hb dX16_bestNow_174 (lv_at hl 0 rfl) ?_
                              refine lv_iload_n hx hb dX16_bestNow_176 rfl (lv_at hl 6 rfl) ?_
                              refine lv_iload_n hx hb dX16_bestNow_177 rfl (lv_at hl 5 rfl) ?_
                              refine lv_imul hx hb dX16_bestNow_178 ?_
                              refine lv_topi (fun z20 ez20 => ?_)
                              obtain rfl : z20 = nI nn := ez20.trans (by rw [pk_mul, ← hnn])
                              refine lv_icmp_gt (tgt := 298) hx hb dX16_bestNow_179 (by decide) (fun hc_k174 => ?_) (fun hc_k174 => ?_)
                              · have hge_k174 : nn + 1 ≤ k174 := (nI_ltI (a := nn) (b := k174) (by omega) (by omega)).mp hc_k174
                                have hge_k174 : nn + 1 ≤ k174 := (nI_ltI (a := nn) (b := k174) (by omega) (by omega)).mp hc_k174
                                refine lv_iinc (v := nI (k132 + 1)) (lv' := [(7, .int (nI (k132 + 1))), (8, .int (nI k174)), (6, .int (nI k102)), (5, .ref (gG (sArr T32 39 1 q39_1 7) 39 1)), (4, .ref (gG (sArr S 39 2 q39_2 (nn + 1)) 39 2)), (3, .int (nI nm)), (2, .int (nI ns)), (0, .ref (gG S 16 0)), (1, .int at_)]) hx hb dX16_bestNow_298 hl (k := 1) rfl (nI_1 _) (by decide) rfl (fun ls hl => ?_)
                                refine lv_goto (tgt := 132) hx hb dX16_bestNow_301 (by decide) ?_
                                exact ih132 (k132 + 1) T174 _ _ _ (by omega) (hlt_k132) (h) (hK) (v39_2) (n39_2) (e39_2) (v39_1) (n39_1) (e39_1) w (lv_sub hl [0, 2, 3, 4, 5, 6, 7, 8] rfl)
                              · have hlt_k174 : k174 < nn + 1 := Nat.lt_of_not_le (fun z => hc_k174 ((nI_ltI (a := nn) (b := k174) (by omega) (by omega)).mpr z))
                                have hlt_k174 : k174 < nn + 1 := Nat.lt_of_not_le (fun z => hc_k174 ((nI_ltI (a := nn) (b := k174) (by omega) (by omega)).mpr z))
                                refine lv_iload hx hb dX16_bestNow_182 (lv_at hl 0 rfl) ?_
                                refine lv_iload_n hx hb dX16_bestNow_184 rfl (lv_at hl 6 rfl) ?_
                                refine lv_iload_n hx hb dX16_bestNow_185 rfl (lv_at hl 5 rfl) ?_
                                refine lv_imul hx hb dX16_bestNow_186 ?_
                                refine lv_topi (fun z21 ez21 => ?_)
                                obtain rfl : z21 = nI nn := ez21.trans (by rw [pk_mul, ← hnn])
                                have J198 : ∀  (H : Heap) (locs : List Loc) (ls : Array Slot), Wd s0 D cy T174 s.heap H locs → lv_has ls 10 [(8, .int (nI k174)), (7, .int (nI k132)), (6, .int (nI k102)), (5, .ref (gG (sArr T32 39 1 q39_1 7) 39 1)), (4, .ref (gG (sArr S 39 2 q39_2 (nn + 1)) 39 2)), (3, .int (nI nm)), (2, .int (nI ns)), (0, .ref (gG S 16 0)), (1, .int at_)] → W p l e rm_m_X16_bestNow s m ([.ref (gG S 16 0), .int at_] : List Value).toArray below meth c H locs (0 + 1 + 1) (0 + (nn + 1) + 7) (MQ below (GQ s0 D cy (fun v S' => some (.ref (gG S' 39 1)) = v ∧ RI ea S' ns nj nm nt nr nq ∧ Kq (hvT LB) hNo hNo S S' ∧ vV S' 39 1 ∧ mN S' 39 1 = 7 ∧ ¬ vV S' 39 2)) ([.ref (gG S 16 0), .int at_] : List Value).toArray s rm_m_X16_bestNow.cells rm_m_X16_bestNow.slots (A0 s0)) (F0 m 198 ls []) := by
                                  intro  H locs ls  w hl
                                  refine lv_iload hx hb dX16_bestNow_198 (lv_at hl 2 rfl) ?_
                                  refine lv_iload hx hb dX16_bestNow_200 (lv_at hl 0 rfl) ?_
                                  refine lv_iload_n hx hb dX16_bestNow_202 rfl (lv_at hl 6 rfl) ?_
                                  refine lv_iload_n hx hb dX16_bestNow_203 rfl (lv_at hl 5 rfl) ?_
                                  refine cS (S := T174) (nA := 4) (As := [.int (nI k102), .int (nI k174), .int (nI ns), .int (nI nm)]) (rest := []) X w hl (m_X16_meet G T174 k102 k174 ns nm (by omega) (by omega) h.b_st h.b_mo) wY_X16_meet wM_X16_355 wSt_X16_meet wI_X16 (by decide +kernel) rfl rfl dX16_bestNow_204 ⟨by decide, by decide⟩ (Nat.le_of_ble_eq_true rfl) (⟨(show 0 + 1 + 1 + 0 ≤ 2 by omega), (show 0 + (nn + 1) + 7 + 0 ≤ 48 by omega)⟩) (fun v23 S1 H locs hp w => ?_)
                                  obtain ⟨⟨x22, rfl⟩, rfl⟩ := hp
                                  refine lv_if_ne (tgt := 292) hx hb dX16_bestNow_207 (by decide) (fun hc24 => ?_) (fun hc24 => ?_)
                                  · refine lv_iinc (v := nI (k174 + 1)) (lv' := [(8, .int (nI (k174 + 1))), (7, .int (nI k132)), (6, .int (nI k102)), (5, .ref (gG (sArr T32 39 1 q39_1 7) 39 1)), (4, .ref (gG (sArr S 39 2 q39_2 (nn + 1)) 39 2)), (3, .int (nI nm)), (2, .int (nI ns)), (0, .ref (gG S 16 0)), (1, .int at_)]) hx hb dX16_bestNow_292 hl (k := 0) rfl (nI_1 _) (by decide) rfl (fun ls hl => ?_)
                                    refine lv_goto (tgt := 174) hx hb dX16_bestNow_295 (by decide) ?_
                                    exact ih174 (k174 + 1) T174 _ _ _ (by omega) (hlt_k174) (h) (hK) (v39_2) (n39_2) (e39_2) (v39_1) (n39_1) (e39_1) w (lv_sub hl [0, 1, 2, 3, 4, 5, 6, 7, 8] rfl)
                                  · refine lv_iload hx hb dX16_bestNow_210 (lv_at hl 1 rfl) ?_
                                    refine lv_iload hx hb dX16_bestNow_212 (lv_at hl 0 rfl) ?_
                                    refine lv_iload_n hx hb dX16_bestNow_214 rfl (lv_at hl 6 rfl) ?_
                                    refine lv_iload_n hx hb dX16_bestNow_215 rfl (lv_at hl 5 rfl) ?_
                                    refine cS (S := T174) (nA := 4) (As := [.int (nI k132), .int (nI k174), .int (nI ns), .int (nI nm)]) (rest := []) X w hl (m_X16_meet G T174 k132 k174 ns nm (by omega) (by omega) h.b_st h.b_mo) wY_X16_meet wM_X16_355 wSt_X16_meet wI_X16 (by decide +kernel) rfl rfl dX16_bestNow_216 ⟨by decide, by decide⟩ (Nat.le_of_ble_eq_true rfl) (⟨(show 0 + 1 + 1 + 0 ≤ 2 by omega), (show 0 + (nn + 1) + 7 + 0 ≤ 48 by omega)⟩) (fun v26 S1 H locs hp w => ?_)
                                    obtain ⟨⟨x25, rfl⟩, rfl⟩ := hp
                                    refine lv_if_eq (tgt := 225) hx hb dX16_bestNow_219 (by decide) (fun hc27 => ?_) (fun hc27 => ?_)
                                    · refine lv_aload hx hb dX16_bestNow_225 (lv_at hl 4 rfl) ?_
                                      refine lv_iload hx hb dX16_bestNow_227 (lv_at hl 2 rfl) ?_
                                      refine rE1 ((show gG (sArr S 39 2 q39_2 (nn + 1)) 39 2 = q39_2 from rfl).trans e39_2.symm) ?_
                                      refine aLdI (S := T174) (t := 39) (v := mA T174 39 2 (nI k102).toNatClampNeg) X w v39_2 (by decide) rfl rfl (by rw [n39_2]; exact nI_vp hlt_k102 (by omega)) rfl dX16_bestNow_229 ?_
                                      refine lv_topi (fun z28 ez28 => ?_)
                                      refine lv_aload hx hb dX16_bestNow_230 (lv_at hl 4 rfl) ?_
                                      refine lv_iload hx hb dX16_bestNow_232 (lv_at hl 1 rfl) ?_
                                      refine rE1 ((show gG (sArr S 39 2 q39_2 (nn + 1)) 39 2 = q39_2 from rfl).trans e39_2.symm) ?_
                                      refine aLdI (S := T174) (t := 39) (v := mA T174 39 2 (nI k132).toNatClampNeg) X w v39_2 (by decide) rfl rfl (by rw [n39_2]; exact nI_vp hlt_k132 (by omega)) rfl dX16_bestNow_234 ?_
                                      refine lv_topi (fun z29 ez29 => ?_)
                                      refine lv_iadd hx hb dX16_bestNow_235 ?_
                                      refine lv_aload hx hb dX16_bestNow_236 (lv_at hl 4 rfl) ?_
                                      refine lv_iload hx hb dX16_bestNow_238 (lv_at hl 0 rfl) ?_
                                      refine rE1 ((show gG (sArr S 39 2 q39_2 (nn + 1)) 39 2 = q39_2 from rfl).trans e39_2.symm) ?_
                                      refine aLdI (S := T174) (t := 39) (v := mA T174 39 2 (nI k174).toNatClampNeg) X w v39_2 (by decide) rfl rfl (by rw [n39_2]; exact nI_vp hlt_k174 (by omega)) rfl dX16_bestNow_240 ?_
                                      refine lv_topi (fun z30 ez30 => ?_)
                                      refine lv_iadd hx hb dX16_bestNow_241 ?_
                                      refine lv_istore (lv' := [(9, .int ((z28 + z29) + z30)), (8, .int (nI k174)), (7, .int (nI k132)), (6, .int (nI k102)), (5, .ref (gG (sArr T32 39 1 q39_1 7) 39 1)), (4, .ref (gG (sArr S 39 2 q39_2 (nn + 1)) 39 2)), (3, .int (nI nm)), (2, .int (nI ns)), (0, .ref (gG S 16 0)), (1, .int at_)]) hx hb dX16_bestNow_242 hl (by decide) rfl (fun ls hl => ?_)
                                      refine lv_iload hx hb dX16_bestNow_244 (lv_at hl 0 rfl) ?_
                                      refine lv_aload hx hb dX16_bestNow_246 (lv_at hl 4 rfl) ?_
                                      refine lv_iconst (v := 0) hx hb dX16_bestNow_248 (by decide) ?_
                                      refine rE1 ((show gG (sArr T32 39 1 q39_1 7) 39 1 = q39_1 from rfl).trans e39_1.symm) ?_
                                      refine aLdI (S := T174) (t := 39) (v := mA T174 39 1 (0 : Int32).toNatClampNeg) X w v39_1 (by decide) rfl rfl (by rw [n39_1]; unfold vp_in; decide) rfl dX16_bestNow_249 ?_
                                      refine lv_topi (fun z31 ez31 => ?_)
                                      refine lv_icmp_gt (tgt := 256) hx hb dX16_bestNow_250 (by decide) (fun hc32 => ?_) (fun hc32 => ?_)
                                      · refine lv_aload hx hb dX16_bestNow_256 (lv_at hl 4 rfl) ?_
                                        refine lv_iconst (v := 0) hx hb dX16_bestNow_258 (by decide) ?_
                                        refine lv_iload hx hb dX16_bestNow_259 (lv_at hl 0 rfl) ?_
                                        refine rE2 ((show gG (sArr T32 39 1 q39_1 7) 39 1 = q39_1 from rfl).trans e39_1.symm) ?_
                                        refine aStI (S := T174) (t := 39) X w v39_1 (by decide) rfl rfl (by rw [n39_1]; unfold vp_in; decide) dX16_bestNow_261 (fun H locs w => ?_)
                                        have h : RI ea (sA T174 39 1 (upd (mA T174 39 1) (0 : Int32).toNatClampNeg ((z28 + z29) + z30))) ns nj nm nt nr nq := h.stA (by decide)
                                        have hK : Kq (hvT LB) hNo hNo S (sA T174 39 1 (upd (mA T174 39 1) (0 : Int32).toNatClampNeg ((z28 + z29) + z30))) := hK.sA rfl
                                        obtain ⟨U33, h, hK_U33, v39_2', n39_2', e39_2', v39_1', n39_1', e39_1', w⟩ : ∃ U33 : HS, (RI ea U33 ns nj nm nt nr nq) ∧ (Kq (hvT LB) hNo hNo S U33) ∧ (vV U33 39 2) ∧ (mN U33 39 2 = (nn + 1)) ∧ (gG U33 39 2 = q39_2) ∧ (vV U33 39 1) ∧ (mN U33 39 1 = 7) ∧ (gG U33 39 1 = q39_1) ∧ Wd s0 D cy U33 s.heap H locs := ⟨_, h, hK, v39_2, n39_2, e39_2, v39_1, n39_1, e39_1, w⟩
                                        clear v39_2 n39_2 e39_2 v39_1 n39_1 e39_1
                                        have v39_2 := v39_2'; clear v39_2'
                                        have n39_2 := n39_2'; clear n39_2'
                                        have e39_2 := e39_2'; clear e39_2'
                                        have v39_1 := v39_1'; clear v39_1'
                                        have n39_1 := n39_1'; clear n39_1'
                                        have e39_1 := e39_1'; clear e39_1'
                                        have hK := hK_U33
                                        refine lv_aload hx hb dX16_bestNow_262 (lv_at hl 4 rfl) ?_
                                        refine lv_iconst (v := 1) hx hb dX16_bestNow_264 (by decide) ?_
                                        refine lv_iload hx hb dX16_bestNow_265 (lv_at hl 3 rfl) ?_
                                        refine lv_iload_n hx hb dX16_bestNow_267 rfl (lv_at hl 7 rfl) ?_
                                        refine lv_iload_n hx hb dX16_bestNow_268 rfl (lv_at hl 6 rfl) ?_
                                        refine rE4 ((show gG (sArr T32 39 1 q39_1 7) 39 1 = q39_1 from rfl).trans e39_1.symm) ?_
                                        refine cS (S := U33) (nA := 5) (As := [.ref (gG U33 39 1), .int 1, .int (nI k102), .int (nI ns), .int (nI nm)]) (rest := []) X w hl (m_X16_put G U33 1 k102 ns nm (by decide) (by omega) h.b_st h.b_mo v39_1 n39_1) wY_X16_put wM_X16_359 wSt_X16_put wI_X16 (by decide +kernel) rfl rfl dX16_bestNow_269 ⟨by decide, by decide⟩ (Nat.le_of_ble_eq_true rfl) (⟨(show 0 + 1 + 1 + 0 ≤ 2 by omega), (show 0 + (nn + 1) + 7 + 0 ≤ 48 by omega)⟩) (fun v35 S1 H locs hp w => ?_)
                                        obtain ⟨rfl, f9, g9, rfl⟩ := hp
                                        have h : RI ea (sA (sA U33 39 1 f9) 39 1 g9) ns nj nm nt nr nq := (h.stA (by decide)).stA (by decide)
                                        have hK : Kq (hvT LB) hNo hNo S (sA (sA U33 39 1 f9) 39 1 g9) := (hK.sA rfl).sA rfl
                                        obtain ⟨U34, h, hK_U34, v39_2', n39_2', e39_2', v39_1', n39_1', e39_1', w⟩ : ∃ U34 : HS, (RI ea U34 ns nj nm nt nr nq) ∧ (Kq (hvT LB) hNo hNo S U34) ∧ (vV U34 39 2) ∧ (mN U34 39 2 = (nn + 1)) ∧ (gG U34 39 2 = q39_2) ∧ (vV U34 39 1) ∧ (mN U34 39 1 = 7) ∧ (gG U34 39 1 = q39_1) ∧ Wd s0 D cy U34 s.heap H locs := ⟨_, h, hK, v39_2, n39_2, e39_2, v39_1, n39_1, e39_1, w⟩
                                        clear v39_2 n39_2 e39_2 v39_1 n39_1 e39_1
                                        have v39_2 := v39_2'; clear v39_2'
                                        have n39_2 := n39_2'; clear n39_2'
                                        have e39_2 := e39_2'; clear e39_2'
                                        have v39_1 := v39_1'; clear v39_1'
                                        have n39_1 := n39_1'; clear n39_1'
                                        have e39_1 := e39_1'; clear e39_1'
                                        have hK := hK_U34
                                        refine lv_aload hx hb dX16_bestNow_272 (lv_at hl 4 rfl) ?_
                                        refine lv_iconst (v := 3) hx hb dX16_bestNow_274 (by decide) ?_
                                        refine lv_iload hx hb dX16_bestNow_275 (lv_at hl 2 rfl) ?_
                                        refine lv_iload_n hx hb dX16_bestNow_277 rfl (lv_at hl 7 rfl) ?_
                                        refine lv_iload_n hx hb dX16_bestNow_278 rfl (lv_at hl 6 rfl) ?_
                                        refine rE4 ((show gG (sArr T32 39 1 q39_1 7) 39 1 = q39_1 from rfl).trans e39_1.symm) ?_
                                        refine cS (S := U34) (nA := 5) (As := [.ref (gG U34 39 1), .int 3, .int (nI k132), .int (nI ns), .int (nI nm)]) (rest := []) X w hl (m_X16_put G U34 3 k132 ns nm (by decide) (by omega) h.b_st h.b_mo v39_1 n39_1) wY_X16_put wM_X16_359 wSt_X16_put wI_X16 (by decide +kernel) rfl rfl dX16_bestNow_279 ⟨by decide, by decide⟩ (Nat.le_of_ble_eq_true rfl) (⟨(show 0 + 1 + 1 + 0 ≤ 2 by omega), (show 0 + (nn + 1) + 7 + 0 ≤ 48 by omega)⟩) (fun v37 S1 H locs hp w => ?_)
                                        obtain ⟨rfl, f9, g9, rfl⟩ := hp
                                        have h : RI ea (sA (sA U34 39 1 f9) 39 1 g9) ns nj nm nt nr nq := (h.stA (by decide)).stA (by decide)
                                        have hK : Kq (hvT LB) hNo hNo S (sA (sA U34 39 1 f9) 39 1 g9) := (hK.sA rfl).sA rfl
                                        obtain ⟨U36, h, hK_U36, v39_2', n39_2', e39_2', v39_1', n39_1', e39_1', w⟩ : ∃ U36 : HS, (RI ea U36 ns nj nm nt nr nq) ∧ (Kq (hvT LB) hNo hNo S U36) ∧ (vV U36 39 2) ∧ (mN U36 39 2 = (nn + 1)) ∧ (gG U36 39 2 = q39_2) ∧ (vV U36 39 1) ∧ (mN U36 39 1 = 7) ∧ (gG U36 39 1 = q39_1) ∧ Wd s0 D cy U36 s.heap H locs := ⟨_, h, hK, v39_2, n39_2, e39_2, v39_1, n39_1, e39_1, w⟩
                                        clear v39_2 n39_2 e39_2 v39_1 n39_1 e39_1
                                        have v39_2 := v39_2'; clear v39_2'
                                        have n39_2 := n39_2'; clear n39_2'
                                        have e39_2 := e39_2'; clear e39_2'
                                        have v39_1 := v39_1'; clear v39_1'
                                        have n39_1 := n39_1'; clear n39_1'
                                        have e39_1 := e39_1'; clear e39_1'
                                        have hK := hK_U36
                                        refine lv_aload hx hb dX16_bestNow_282 (lv_at hl 4 rfl) ?_
                                        refine lv_iconst (v := 5) hx hb dX16_bestNow_284 (by decide) ?_
                                        refine lv_iload hx hb dX16_bestNow_285 (lv_at hl 1 rfl) ?_
                                        refine lv_iload_n hx hb dX16_bestNow_287 rfl (lv_at hl 7 rfl) ?_
                                        refine lv_iload_n hx hb dX16_bestNow_288 rfl (lv_at hl 6 rfl) ?_
                                        refine rE4 ((show gG (sArr T32 39 1 q39_1 7) 39 1 = q39_1 from rfl).trans e39_1.symm) ?_
                                        refine cS (S := U36) (nA := 5) (As := [.ref (gG U36 39 1), .int 5, .int (nI k174), .int (nI ns), .int (nI nm)]) (rest := []) X w hl (m_X16_put G U36 5 k174 ns nm (by decide) (by omega) h.b_st h.b_mo v39_1 n39_1) wY_X16_put wM_X16_359 wSt_X16_put wI_X16 (by decide +kernel) rfl rfl dX16_bestNow_289 ⟨by decide, by decide⟩ (Nat.le_of_ble_eq_true rfl) (⟨(show 0 + 1 + 1 + 0 ≤ 2 by omega), (show 0 + (nn + 1) + 7 + 0 ≤ 48 by omega)⟩) (fun v39 S1 H locs hp w => ?_)
                                        obtain ⟨rfl, f9, g9, rfl⟩ := hp
                                        have h : RI ea (sA (sA U36 39 1 f9) 39 1 g9) ns nj nm nt nr nq := (h.stA (by decide)).stA (by decide)
                                        have hK : Kq (hvT LB) hNo hNo S (sA (sA U36 39 1 f9) 39 1 g9) := (hK.sA rfl).sA rfl
                                        obtain ⟨U38, h, hK_U38, v39_2', n39_2', e39_2', v39_1', n39_1', e39_1', w⟩ : ∃ U38 : HS, (RI ea U38 ns nj nm nt nr nq) ∧ (Kq (hvT LB) hNo hNo S U38) ∧ (vV U38 39 2) ∧ (mN U38 39 2 = (nn + 1)) ∧ (gG U38 39 2 = q39_2) ∧ (vV U38 39 1) ∧ (mN U38 39 1 = 7) ∧ (gG U38 39 1 = q39_1) ∧ Wd s0 D cy U38 s.heap H locs := ⟨_, h, hK, v39_2, n39_2, e39_2, v39_1, n39_1, e39_1, w⟩
                                        clear v39_2 n39_2 e39_2 v39_1 n39_1 e39_1
                                        have v39_2 := v39_2'; clear v39_2'
                                        have n39_2 := n39_2'; clear n39_2'
                                        have e39_2 := e39_2'; clear e39_2'
                                        have v39_1 := v39_1'; clear v39_1'
                                        have n39_1 := n39_1'; clear n39_1'
                                        have e39_1 := e39_1'; clear e39_1'
                                        have hK := hK_U38
                                        refine lv_iinc (v := nI (k174 + 1)) (lv' := [(8, .int (nI (k174 + 1))), (9, .int ((z28 + z29) + z30)), (7, .int (nI k132)), (6, .int (nI k102)), (5, .ref (gG (sArr T32 39 1 q39_1 7) 39 1)), (4, .ref (gG (sArr S 39 2 q39_2 (nn + 1)) 39 2)), (3, .int (nI nm)), (2, .int (nI ns)), (0, .ref (gG S 16 0)), (1, .int at_)]) hx hb dX16_bestNow_292 hl (k := 1) rfl (nI_1 _) (by decide) rfl (fun ls hl => ?_)
                                        refine lv_goto (tgt := 174) hx hb dX16_bestNow_295 (by decide) ?_
                                        exact ih174 (k174 + 1) U38 _ _ _ (by omega) (hlt_k174) (h) (hK) (v39_2) (n39_2) (e39_2) (v39_1) (n39_1) (e39_1) w (lv_sub hl [0, 2, 3, 4, 5, 6, 7, 8, 9] rfl)
                                      · refine lv_goto (tgt := 292) hx hb dX16_bestNow_253 (by decide) ?_
                                        refine lv_iinc (v := nI (k174 + 1)) (lv' := [(8, .int (nI (k174 + 1))), (9, .int ((z28 + z29) + z30)), (7, .int (nI k132)), (6, .int (nI k102)), (5, .ref (gG (sArr T32 39 1 q39_1 7) 39 1)), (4, .ref (gG (sArr S 39 2 q39_2 (nn + 1)) 39 2)), (3, .int (nI nm)), (2, .int (nI ns)), (0, .ref (gG S 16 0)), (1, .int at_)]) hx hb dX16_bestNow_292 hl (k := 1) rfl (nI_1 _) (by decide) rfl (fun ls hl => ?_)
                                        refine lv_goto (tgt := 174) hx hb dX16_bestNow_295 (by decide) ?_
                                        exact ih174 (k174 + 1) T174 _ _ _ (by omega) (hlt_k174) (h) (hK) (v39_2) (n39_2) (e39_2) (v39_1) (n39_1) (e39_1) w (lv_sub hl [0, 2, 3, 4, 5, 6, 7, 8, 9] rfl)
                                    · refine lv_goto (tgt := 292) hx hb dX16_bestNow_222 (by decide) ?_
                                      refine lv_iinc (v := nI (k174 + 1)) (lv' := [(8, .int (nI (k174 + 1))), (7, .int (nI k132)), (6, .int (nI k102)), (5, .ref (gG (sArr T32 39 1 q39_1 7) 39 1)), (4, .ref (gG (sArr S 39 2 q39_2 (nn + 1)) 39 2)), (3, .int (nI nm)), (2, .int (nI ns)), (0, .ref (gG S 16 0)), (1, .int at_)]) hx hb dX16_bestNow_292 hl (k := 0) rfl (nI_1 _) (by decide) rfl (fun ls hl => ?_)
                                      refine lv_goto (tgt := 174) hx hb dX16_bestNow_295 (by decide) ?_
                                      exact ih174 (k174 + 1) T174 _ _ _ (by omega) (hlt_k174) (h) (hK) (v39_2) (n39_2) (e39_2) (v39_1) (n39_1) (e39_1) w (lv_sub hl [0, 1, 2, 3, 4, 5, 6, 7, 8] rfl)
                                refine lv_icmp_ge (tgt := 198) hx hb dX16_bestNow_187 (by decide) (fun hc40 => ?_) (fun hc40 => ?_)
                                · exact J198  _ _ _  w (lv_sub hl [0, 1, 2, 3, 4, 5, 6, 7, 8] rfl)
                                · refine lv_aload hx hb dX16_bestNow_190 (lv_at hl 4 rfl) ?_
                                  refine lv_iload hx hb dX16_bestNow_192 (lv_at hl 0 rfl) ?_
                                  refine rE1 ((show gG (sArr S 39 2 q39_2 (nn + 1)) 39 2 = q39_2 from rfl).trans e39_2.symm) ?_
                                  refine aLdI (S := T174) (t := 39) (v := mA T174 39 2 (nI k174).toNatClampNeg) X w v39_2 (by decide) rfl rfl (by rw [n39_2]; exact nI_vp hlt_k174 (by omega)) rfl dX16_bestNow_194 ?_
                                  refine lv_topi (fun z41 ez41 => ?_)
                                  refine lv_if_eq (tgt := 292) hx hb dX16_bestNow_195 (by decide) (fun hc42 => ?_) (fun hc42 => ?_)
                                  · refine lv_iinc (v := nI (k174 + 1)) (lv' := [(8, .int (nI (k174 + 1))), (7, .int (nI k132)), (6, .int (nI k102)), (5, .ref (gG (sArr T32 39 1 q39_1 7) 39 1)), (4, .ref (gG (sArr S 39 2 q39_2 (nn + 1)) 39 2)), (3, .int (nI nm)), (2, .int (nI ns)), (0, .ref (gG S 16 0)), (1, .int at_)]) hx hb dX16_bestNow_292 hl (k := 0) rfl (nI_1 _) (by decide) rfl (fun ls hl => ?_)
                                    refine lv_goto (tgt := 174) hx hb dX16_bestNow_295 (by decide) ?_
                                    exact ih174 (k174 + 1) T174 _ _ _ (by omega) (hlt_k174) (h) (hK) (v39_2) (n39_2) (e39_2) (v39_1) (n39_1) (e39_1) w (lv_sub hl [0, 1, 2, 3, 4, 5, 6, 7, 8] rfl)
                                  · exact J198  _ _ _  w (lv_sub hl [0, 1, 2, 3, 4, 5, 6, 7, 8] rfl)
                          exact L174 _ 0 T132 _ _ _ (Nat.lt_succ_self _) (Nat.zero_le _) (h) (hK) (v39_2) (n39_2) (e39_2) (v39_1) (n39_1) (e39_1) w (lv_sub hl [0, 1, 2, 3, 4, 5, 6, 7, 8] rfl)
                        · refine lv_goto (tgt := 298) hx hb dX16_bestNow_168 (by decide) ?_
                          refine lv_iinc (v := nI (k132 + 1)) (lv' := [(7, .int (nI (k132 + 1))), (6, .int (nI k102)), (5, .ref (gG (sArr T32 39 1 q39_1 7) 39 1)), (4, .ref (gG (sArr S 39 2 q39_2 (nn + 1)) 39 2)), (3, .int (nI nm)), (2, .int (nI ns)), (0, .ref (gG S 16 0)), (1, .int at_)]) hx hb dX16_bestNow_298 hl (k := 0) rfl (nI_1 _) (by decide) rfl (fun ls hl => ?_)
                          refine lv_goto (tgt := 132) hx hb dX16_bestNow_301 (by decide) ?_
                          exact ih132 (k132 + 1) T132 _ _ _ (by omega) (hlt_k132) (h) (hK) (v39_2) (n39_2) (e39_2) (v39_1) (n39_1) (e39_1) w (lv_sub hl [0, 1, 2, 3, 4, 5, 6, 7] rfl)
                      refine lv_icmp_ge (tgt := 156) hx hb dX16_bestNow_145 (by decide) (fun hc43 => ?_) (fun hc43 => ?_)
                      · exact J156  _ _ _  w (lv_sub hl [0, 1, 2, 3, 4, 5, 6, 7] rfl)
                      · refine lv_aload hx hb dX16_bestNow_148 (lv_at hl 3 rfl) ?_
                        refine lv_iload hx hb dX16_bestNow_150 (lv_at hl 0 rfl) ?_
                        refine rE1 ((show gG (sArr S 39 2 q39_2 (nn + 1)) 39 2 = q39_2 from rfl).trans e39_2.symm) ?_
                        refine aLdI (S := T132) (t := 39) (v := mA T132 39 2 (nI k132).toNatClampNeg) X w v39_2 (by decide) rfl rfl (by rw [n39_2]; exact nI_vp hlt_k132 (by omega)) rfl dX16_bestNow_152 ?_
                        refine lv_topi (fun z44 ez44 => ?_)
                        refine lv_if_eq (tgt := 298) hx hb dX16_bestNow_153 (by decide) (fun hc45 => ?_) (fun hc45 => ?_)
                        · refine lv_iinc (v := nI (k132 + 1)) (lv' := [(7, .int (nI (k132 + 1))), (6, .int (nI k102)), (5, .ref (gG (sArr T32 39 1 q39_1 7) 39 1)), (4, .ref (gG (sArr S 39 2 q39_2 (nn + 1)) 39 2)), (3, .int (nI nm)), (2, .int (nI ns)), (0, .ref (gG S 16 0)), (1, .int at_)]) hx hb dX16_bestNow_298 hl (k := 0) rfl (nI_1 _) (by decide) rfl (fun ls hl => ?_)
                          refine lv_goto (tgt := 132) hx hb dX16_bestNow_301 (by decide) ?_
                          exact ih132 (k132 + 1) T132 _ _ _ (by omega) (hlt_k132) (h) (hK) (v39_2) (n39_2) (e39_2) (v39_1) (n39_1) (e39_1) w (lv_sub hl [0, 1, 2, 3, 4, 5, 6, 7] rfl)
                        · exact J156  _ _ _  w (lv_sub hl [0, 1, 2, 3, 4, 5, 6, 7] rfl)
                exact L132 _ 0 T102 _ _ _ (Nat.lt_succ_self _) (Nat.zero_le _) (h) (hK) (v39_2) (n39_2) (e39_2) (v39_1) (n39_1) (e39_1) w (lv_sub hl [0, 1, 2, 3, 4, 5, 6, 7] rfl)
              refine lv_icmp_ge (tgt := 129) hx hb dX16_bestNow_115 (by decide) (fun hc46 => ?_) (fun hc46 => ?_)
              · exact J129  _ _ _  w (lv_sub hl [0, 1, 2, 3, 4, 5, 6] rfl)
              · refine lv_aload hx hb dX16_bestNow_118 (lv_at hl 2 rfl) ?_
                refine lv_iload hx hb dX16_bestNow_120 (lv_at hl 0 rfl) ?_
                refine rE1 ((show gG (sArr S 39 2 q39_2 (nn + 1)) 39 2 = q39_2 from rfl).trans e39_2.symm) ?_
                refine aLdI (S := T102) (t := 39) (v := mA T102 39 2 (nI k102).toNatClampNeg) X w v39_2 (by decide) rfl rfl (by rw [n39_2]; exact nI_vp hlt_k102 (by omega)) rfl dX16_bestNow_122 ?_
                refine lv_topi (fun z47 ez47 => ?_)
                refine lv_if_ne (tgt := 129) hx hb dX16_bestNow_123 (by decide) (fun hc48 => ?_) (fun hc48 => ?_)
                · exact J129  _ _ _  w (lv_sub hl [0, 1, 2, 3, 4, 5, 6] rfl)
                · refine lv_goto (tgt := 304) hx hb dX16_bestNow_126 (by decide) ?_
                  refine lv_iinc (v := nI (k102 + 1)) (lv' := [(6, .int (nI (k102 + 1))), (5, .ref (gG (sArr T32 39 1 q39_1 7) 39 1)), (4, .ref (gG (sArr S 39 2 q39_2 (nn + 1)) 39 2)), (3, .int (nI nm)), (2, .int (nI ns)), (0, .ref (gG S 16 0)), (1, .int at_)]) hx hb dX16_bestNow_304 hl (k := 0) rfl (nI_1 _) (by decide) rfl (fun ls hl => ?_)
                  refine lv_goto (tgt := 102) hx hb dX16_bestNow_307 (by decide) ?_
                  exact ih102 (k102 + 1) T102 _ _ _ (by omega) (hlt_k102) (h) (hK) (v39_2) (n39_2) (e39_2) (v39_1) (n39_1) (e39_1) w (lv_sub hl [0, 1, 2, 3, 4, 5, 6] rfl)
        exact L102 _ 0 U12 _ _ _ (Nat.lt_succ_self _) (Nat.zero_le _) (h) (hK) (v39_2) (n39_2) (e39_2) (v39_1) (n39_1) (e39_1) w (lv_sub hl [0, 1, 2, 3, 4, 5, 6] rfl)
      · have hlt_k32 : k32 < nn := by
          skip
          exact Nat.lt_of_not_le (fun z => hc_k32 ((nI_leI (a := nn) (b := k32) (by omega) (by omega)).mpr z))
        have hm0 : 0 < nm := nn_h (n := ns) (by rw [← hnn]; exact hlt_k32)
        have hdv : k32 / nm < ns := nn_d (by rw [← hnn]; exact hlt_k32)
        have hm5 := h.b_mo
        refine lv_aload hx hb dX16_bestNow_40 (lv_at hl 1 rfl) ?_
        refine lv_iload hx hb dX16_bestNow_42 (lv_at hl 0 rfl) ?_
        refine lv_aload_n hx hb dX16_bestNow_44 rfl (lv_at hl 4 rfl) ?_
        refine lv_iload hx hb dX16_bestNow_45 (lv_at hl 0 rfl) ?_
        refine lv_iload_n hx hb dX16_bestNow_47 rfl (lv_at hl 2 rfl) ?_
        refine lv_irem hx hb dX16_bestNow_48 (nI_ne0 hm0 (by omega)) ?_
        refine lv_topi (fun z49 ez49 => ?_)
        obtain rfl : z49 = nI (k32 % nm) := ez49.trans (pk_rem (by omega) hm0 (by omega))
        refine lv_iload hx hb dX16_bestNow_49 (lv_at hl 0 rfl) ?_
        refine lv_iload_n hx hb dX16_bestNow_51 rfl (lv_at hl 2 rfl) ?_
        refine lv_idiv hx hb dX16_bestNow_52 (nI_ne0 hm0 (by omega)) ?_
        refine lv_topi (fun z50 ez50 => ?_)
        obtain rfl : z50 = nI (k32 / nm) := ez50.trans (pk_div (by omega) hm0 (by omega))
        refine lv_iload_n hx hb dX16_bestNow_53 rfl (lv_at hl 5 rfl) ?_
        refine rE3 ((rfl).trans ((hK_T32.G (t := 16) (i := 0) rfl)).symm) ?_
        refine cV (S := T32) (nA := 3) (As := [.int (nI (k32 % nm)), .int (nI (k32 / nm)), .int at_]) (rest := [.int (nI k32), .ref (gG (sArr S 39 2 q39_2 (nn + 1)) 39 2)]) X w hl h.v (m_X16_qualityNow G T32 ea ns nj nm nt nr nq h (k32 % nm) (k32 / nm) (Nat.mod_lt _ hm0) hdv at_) wY_X16_qualityNow wM_X16_115 wIn_X16_qualityNow wSe_X16_X16_qualityNow wI_X16 (by decide) rfl (by decide +kernel) rfl rfl dX16_bestNow_54 ⟨by decide, by decide⟩ (Nat.le_of_ble_eq_true rfl) (⟨(show 0 + 1 + 0 ≤ 2 by omega), (show 0 + (nn + 1) + 0 ≤ 48 by omega)⟩) (fun v51 S1 H locs hp w => ?_)
        obtain ⟨rfl, rfl⟩ := hp
        refine rE2 ((show gG (sArr S 39 2 q39_2 (nn + 1)) 39 2 = q39_2 from rfl).trans e39_2.symm) ?_
        refine aStI (S := T32) (t := 39) X w v39_2 (by decide) rfl rfl (by rw [n39_2]; exact nI_vp (Nat.lt_succ_of_lt hlt_k32) (by omega)) dX16_bestNow_57 (fun H locs w => ?_)
        have h : RI ea (sA T32 39 2 (upd (mA T32 39 2) (nI k32).toNatClampNeg (rQual T32 ns nj (k32 % nm) (k32 / nm) at_))) ns nj nm nt nr nq := h.stA (by decide)
        have hK : Kq (hvT LB) hNo hNo S (sA T32 39 2 (upd (mA T32 39 2) (nI k32).toNatClampNeg (rQual T32 ns nj (k32 % nm) (k32 / nm) at_))) := hK.sA rfl
        obtain ⟨U52, h, hK_U52, nv39_1', v39_2', n39_2', e39_2', w⟩ : ∃ U52 : HS, (RI ea U52 ns nj nm nt nr nq) ∧ (Kq (hvT LB) hNo hNo S U52) ∧ (¬ vV U52 39 1) ∧ (vV U52 39 2) ∧ (mN U52 39 2 = (nn + 1)) ∧ (gG U52 39 2 = q39_2) ∧ Wd s0 D cy U52 s.heap H locs := ⟨_, h, hK, nv39_1, v39_2, n39_2, e39_2, w⟩
        clear nv39_1 v39_2 n39_2 e39_2
        have nv39_1 := nv39_1'; clear nv39_1'
        have v39_2 := v39_2'; clear v39_2'
        have n39_2 := n39_2'; clear n39_2'
        have e39_2 := e39_2'; clear e39_2'
        have hK := hK_U52
        refine lv_iinc (v := nI (k32 + 1)) (lv' := [(5, .int (nI (k32 + 1))), (4, .ref (gG (sArr S 39 2 q39_2 (nn + 1)) 39 2)), (3, .int (nI nm)), (2, .int (nI ns)), (0, .ref (gG S 16 0)), (1, .int at_)]) hx hb dX16_bestNow_58 hl (k := 0) rfl (nI_1 _) (by decide) rfl (fun ls hl => ?_)
        refine lv_goto (tgt := 32) hx hb dX16_bestNow_61 (by decide) ?_
        exact ih32 (k32 + 1) U52 _ _ _ (by omega) (hlt_k32) (h) (hK) (nv39_1) (v39_2) (n39_2) (e39_2) w (lv_sub hl [0, 1, 2, 3, 4, 5] rfl)
  exact L32 _ 0 (sArr S 39 2 q39_2 (nn + 1)) _ _ _ (Nat.lt_succ_self _) (Nat.zero_le _) (h) (hK) (nv39_1) (v39_2) (n39_2) (e39_2) w (lv_sub hl [0, 1, 2, 3, 4, 5] rfl)

