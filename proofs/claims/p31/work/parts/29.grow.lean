def GrowP (n c : Nat) : Prop := (n = 10 ∧ c = 15) ∨ (n = 15 ∧ c = 22) ∨ (n = 22 ∧ c = 33) ∨ (n = 33 ∧ c = 49)
theorem GrowP.b {n c : Nat} (h : GrowP n c) : n ≤ 33 ∧ c ≤ 49 ∧ n < c := by unfold GrowP at h; omega
theorem growP_of {n : Nat} (h0 : 0 < n) (h : capOf n = n) (h2 : n < 49) : GrowP n (capOf (n + 1)) := by
  unfold GrowP
  have : ∀ x : Fin 49, 0 < x.1 → capOf x.1 = x.1 → (x.1 = 10 ∧ capOf (x.1 + 1) = 15) ∨ (x.1 = 15 ∧ capOf (x.1 + 1) = 22) ∨ (x.1 = 22 ∧ capOf (x.1 + 1) = 33) ∨ (x.1 = 33 ∧ capOf (x.1 + 1) = 49) := by decide
  exact this ⟨n, h2⟩ h0 h
theorem capOf_same {n : Nat} (h0 : 0 < n) (h : capOf n ≠ n) (h2 : n < 49) : capOf (n + 1) = capOf n ∧ n < capOf n := by
  have : ∀ x : Fin 49, 0 < x.1 → capOf x.1 ≠ x.1 → capOf (x.1 + 1) = capOf x.1 ∧ x.1 < capOf x.1 := by decide
  exact this ⟨n, h2⟩ h0 h

theorem dJ8_newLength_cabcc_0 : decode cJ8_newLength_cabcc 0 = .ok (.iload_n 0, 1) := by decide +kernel
theorem dJ8_newLength_cabcc_1 : decode cJ8_newLength_cabcc 1 = .ok (.iload_n 1, 1) := by decide +kernel
theorem dJ8_newLength_cabcc_2 : decode cJ8_newLength_cabcc 2 = .ok (.iload_n 2, 1) := by decide +kernel
theorem dJ8_newLength_cabcc_3 : decode cJ8_newLength_cabcc 3 = .ok (.invokestatic 194, 3) := by decide +kernel
theorem dJ8_newLength_cabcc_6 : decode cJ8_newLength_cabcc 6 = .ok (.iadd, 1) := by decide +kernel
theorem dJ8_newLength_cabcc_7 : decode cJ8_newLength_cabcc 7 = .ok (.istore_n 3, 1) := by decide +kernel
theorem dJ8_newLength_cabcc_8 : decode cJ8_newLength_cabcc 8 = .ok (.iconst 0, 1) := by decide +kernel
theorem dJ8_newLength_cabcc_9 : decode cJ8_newLength_cabcc 9 = .ok (.iload_n 3, 1) := by decide +kernel
theorem dJ8_newLength_cabcc_10 : decode cJ8_newLength_cabcc 10 = .ok (.if_icmp .ge 11, 3) := by decide +kernel
theorem dJ8_newLength_cabcc_13 : decode cJ8_newLength_cabcc 13 = .ok (.iload_n 3, 1) := by decide +kernel
theorem dJ8_newLength_cabcc_14 : decode cJ8_newLength_cabcc 14 = .ok (.ldc 200, 2) := by decide +kernel
theorem dJ8_newLength_cabcc_16 : decode cJ8_newLength_cabcc 16 = .ok (.if_icmp .gt 5, 3) := by decide +kernel
theorem dJ8_newLength_cabcc_19 : decode cJ8_newLength_cabcc 19 = .ok (.iload_n 3, 1) := by decide +kernel
theorem dJ8_newLength_cabcc_20 : decode cJ8_newLength_cabcc 20 = .ok (.ireturn, 1) := by decide +kernel
abbrev rm_m_J8_newLength_cabcc : Room := { frames := 1, cells := 0, slots := 0, locals := 21 }
set_option maxHeartbeats 4000000 in
set_option maxRecDepth 100000 in
theorem m_J8_newLength_cabcc {s0 : State} {l : Launch} {D : va_G} {cy : Nat → ClassId} (G : Gl s0 l D cy) (S : HS) (n cp : Nat) (hc : GrowP n cp) : Ctr s0 l D cy yJ8_newLength_cabcc cJ8_newLength_cabcc 4 (some .int) rm_m_J8_newLength_cabcc S [.int (nI n), .int 1, .int (nI (n / 2))] (PU S (some (.int (nI cp)))) := by
  refine pro "jdk/internal/util/ArraysSupport" G rfl rfl (Nat.le_of_ble_eq_true rfl) (fun p e s m below meth c ls X w hnm hl => ?_)
  have hx := X.1
  have hb := X.2.1
  have hown := X.2.2.2.1
  have hts := X.2.2.2.2.1
  have hl : lv_has ls 4 [(0, .int (nI n)), (1, .int 1), (2, .int (nI (n / 2)))] := hl
  refine lv_iload_n hx hb dJ8_newLength_cabcc_0 rfl (lv_at hl 0 rfl) ?_
  refine lv_iload_n hx hb dJ8_newLength_cabcc_1 rfl (lv_at hl 1 rfl) ?_
  refine lv_iload_n hx hb dJ8_newLength_cabcc_2 rfl (lv_at hl 2 rfl) ?_
  refine va_mmax hx hb (X.2.2.1.trans hl.1.symm) hown (hts _ wM_J8_194) (hts _ wSt_J9_max_7cf53) (hts _ wI_J9) (hts _ wY_J9_max_7cf53) (by decide) (Nat.le_of_ble_eq_true rfl) (Nat.le_of_ble_eq_true rfl) (Nat.le_of_ble_eq_true rfl) dJ8_newLength_cabcc_3 ?_
  refine lv_iadd hx hb dJ8_newLength_cabcc_6 ?_
  refine lv_topi (fun z1 ez1 => ?_)
  obtain rfl : z1 = nI cp := ez1.trans (by rcases hc with ⟨rfl, rfl⟩ | ⟨rfl, rfl⟩ | ⟨rfl, rfl⟩ | ⟨rfl, rfl⟩ <;> decide)
  refine lv_istore_n (lv' := [(3, .int (nI cp)), (0, .int (nI n)), (1, .int 1), (2, .int (nI (n / 2)))]) hx hb dJ8_newLength_cabcc_7 rfl hl (by decide) rfl (fun ls hl => ?_)
  refine lv_iconst (v := 0) hx hb dJ8_newLength_cabcc_8 (by decide) ?_
  refine lv_iload_n hx hb dJ8_newLength_cabcc_9 rfl (lv_at hl 0 rfl) ?_
  refine lv_icmp_ge (tgt := 21) hx hb dJ8_newLength_cabcc_10 (by decide) (fun hc2 => ?_) (fun hc2 => ?_)
  · exact absurd hc2 (by rcases hc with ⟨rfl, rfl⟩ | ⟨rfl, rfl⟩ | ⟨rfl, rfl⟩ | ⟨rfl, rfl⟩ <;> decide)
  · refine lv_iload_n hx hb dJ8_newLength_cabcc_13 rfl (lv_at hl 0 rfl) ?_
    refine lv_ldc hx hb hown (hts _ wK_J8_200) dJ8_newLength_cabcc_14 ?_
    refine lv_icmp_gt (tgt := 21) hx hb dJ8_newLength_cabcc_16 (by decide) (fun hc3 => ?_) (fun hc3 => ?_)
    · exact absurd hc3 (by rcases hc with ⟨rfl, rfl⟩ | ⟨rfl, rfl⟩ | ⟨rfl, rfl⟩ | ⟨rfl, rfl⟩ <;> decide)
    · refine lv_iload_n hx hb dJ8_newLength_cabcc_19 rfl (lv_at hl 0 rfl) ?_
      exact rI X w rfl dJ8_newLength_cabcc_20 (by decide) (by decide) (pu_i rfl)

theorem dJx4a65c_grow_92f84_0 : decode cJx4a65c_grow_92f84 0 = .ok (.aload_n 0, 1) := by decide +kernel
theorem dJx4a65c_grow_92f84_1 : decode cJx4a65c_grow_92f84 1 = .ok (.getfield 9, 3) := by decide +kernel
theorem dJx4a65c_grow_92f84_4 : decode cJx4a65c_grow_92f84 4 = .ok (.arraylength, 1) := by decide +kernel
theorem dJx4a65c_grow_92f84_5 : decode cJx4a65c_grow_92f84 5 = .ok (.istore_n 2, 1) := by decide +kernel
theorem dJx4a65c_grow_92f84_6 : decode cJx4a65c_grow_92f84 6 = .ok (.iload_n 2, 1) := by decide +kernel
theorem dJx4a65c_grow_92f84_7 : decode cJx4a65c_grow_92f84 7 = .ok (.ifCond .gt 13, 3) := by decide +kernel
theorem dJx4a65c_grow_92f84_10 : decode cJx4a65c_grow_92f84 10 = .ok (.aload_n 0, 1) := by decide +kernel
theorem dJx4a65c_grow_92f84_11 : decode cJx4a65c_grow_92f84 11 = .ok (.getfield 9, 3) := by decide +kernel
theorem dJx4a65c_grow_92f84_14 : decode cJx4a65c_grow_92f84 14 = .ok (.getstatic 39, 3) := by decide +kernel
theorem dJx4a65c_grow_92f84_17 : decode cJx4a65c_grow_92f84 17 = .ok (.if_acmp .eq 28, 3) := by decide +kernel
theorem dJx4a65c_grow_92f84_45 : decode cJx4a65c_grow_92f84 45 = .ok (.aload_n 0, 1) := by decide +kernel
theorem dJx4a65c_grow_92f84_46 : decode cJx4a65c_grow_92f84 46 = .ok (.bipush 10, 2) := by decide +kernel
theorem dJx4a65c_grow_92f84_48 : decode cJx4a65c_grow_92f84 48 = .ok (.iload_n 1, 1) := by decide +kernel
theorem dJx4a65c_grow_92f84_49 : decode cJx4a65c_grow_92f84 49 = .ok (.invokestatic 79, 3) := by decide +kernel
theorem dJx4a65c_grow_92f84_52 : decode cJx4a65c_grow_92f84 52 = .ok (.anewarray 7, 3) := by decide +kernel
theorem dJx4a65c_grow_92f84_55 : decode cJx4a65c_grow_92f84 55 = .ok (.dup_x1, 1) := by decide +kernel
theorem dJx4a65c_grow_92f84_56 : decode cJx4a65c_grow_92f84 56 = .ok (.putfield 9, 3) := by decide +kernel
theorem dJx4a65c_grow_92f84_59 : decode cJx4a65c_grow_92f84 59 = .ok (.areturn, 1) := by decide +kernel
abbrev rm_m_growA : Room := { frames := 1, cells := 1, slots := 10, locals := 21 }
set_option maxHeartbeats 4000000 in
set_option maxRecDepth 100000 in
theorem m_growA {s0 : State} {l : Launch} {D : va_G} {cy : Nat → ClassId} (G : Gl s0 l D cy) (S : HS) (k : Nat) (hV : vV S 17 k) (hr : mR S 273 k = some (eaOf s0)) (hz : ¬ vV S 30 k) : Ctr s0 l D cy yJx4a65c_grow_92f84 cJx4a65c_grow_92f84 4 (some (.array (.object "java/lang/Object"))) rm_m_growA S [.ref (gG S 17 k), .int 1] (fun v S' => ∃ q, some (.ref (gG S' 30 k)) = v ∧ S' = sR (sArr S 30 k q 10) 273 k (some (gG (sArr S 30 k q 10) 30 k))) := by
  refine pro "java/util/ArrayList" G rfl rfl (Nat.le_of_ble_eq_true rfl) (fun p e s m below meth c ls X w hnm hl => ?_)
  have hx := X.1
  have hb := X.2.1
  have hown := X.2.2.2.1
  have hts := X.2.2.2.2.1
  have hl : lv_has ls 4 [(0, .ref (gG S 17 k)), (1, .int 1)] := hl
  refine lv_aload_n hx hb dJx4a65c_grow_92f84_0 rfl (lv_at hl 0 rfl) ?_
  refine g_17_1 (S := S) (x := (some (eaOf s0))) X w hV wF_Jx4a65c_9 (hr) dJx4a65c_grow_92f84_1 ?_
  refine va_tlen (v := 0) hx hb (X_ea G X.2.2.2.2.2.2.2.2.1).2 w.2 rfl dJx4a65c_grow_92f84_4 ?_
  refine lv_istore_n (lv' := [(2, .int 0), (0, .ref (gG S 17 k)), (1, .int 1)]) hx hb dJx4a65c_grow_92f84_5 rfl hl (by decide) rfl (fun ls hl => ?_)
  refine lv_iload_n hx hb dJx4a65c_grow_92f84_6 rfl (lv_at hl 0 rfl) ?_
  refine lv_if_gt (tgt := 20) hx hb dJx4a65c_grow_92f84_7 (by decide) (fun hc1 => ?_) (fun hc1 => ?_)
  · exact absurd hc1 (by decide)
  · refine lv_aload_n hx hb dJx4a65c_grow_92f84_10 rfl (lv_at hl 1 rfl) ?_
    refine g_17_1 (S := S) (x := (some (eaOf s0))) X w hV wF_Jx4a65c_9 (hr) dJx4a65c_grow_92f84_11 ?_
    refine va_gets hx hb (X_ea G X.2.2.2.2.2.2.2.2.1).1 w.2 hown (hts _ wF_Jx4a65c_39) (fun _ h => h) dJx4a65c_grow_92f84_14 ?_
    refine lv_acmp_eq (rx := (some (eaOf s0))) (ry := (some (eaOf s0))) (tgt := 45) hx hb dJx4a65c_grow_92f84_17 (by decide) (fun hc2 => ?_) (fun hc2 => ?_)
    · skip
      refine lv_aload_n hx hb dJx4a65c_grow_92f84_45 rfl (lv_at hl 1 rfl) ?_
      refine lv_bipush (v := 10) hx hb dJx4a65c_grow_92f84_46 (by decide) ?_
      refine lv_iload_n hx hb dJx4a65c_grow_92f84_48 rfl (lv_at hl 2 rfl) ?_
      refine va_mmax hx hb (X.2.2.1.trans hl.1.symm) hown (hts _ wM_Jx4a65c_79) (hts _ wSt_J9_max_7cf53) (hts _ wI_J9) (hts _ wY_J9_max_7cf53) (by decide) (Nat.le_of_ble_eq_true rfl) (Nat.le_of_ble_eq_true rfl) (Nat.le_of_ble_eq_true rfl) dJx4a65c_grow_92f84_49 ?_
      refine lv_topi (fun z3 ez3 => ?_)
      obtain rfl : z3 = 10 := ez3.trans (by decide)
      refine nwR (S := S) (n := 10) X w 30 k (hz) (by decide) rfl rfl wC_Jx4a65c_7 (rfl) (by decide) dJx4a65c_grow_92f84_52 (by decide) (by decide) (fun q4 S2 H hS2 w => ?_)
      subst hS2
      refine lv_dup_x1 hx hb dJx4a65c_grow_92f84_55 rfl rfl ?_
      refine p_17_1 (S := (sArr S 30 k q4 10)) (x := (some (gG (sArr S 30 k q4 10) 30 k))) X w (Or.inl hV) wF_Jx4a65c_9 dJx4a65c_grow_92f84_56 (fun H locs w => ?_)
      exact rA (v := (some (gG (sArr S 30 k q4 10) 30 k))) X w rfl (Or.inr ⟨_, rfl⟩) dJx4a65c_grow_92f84_59 (by decide) (by decide) (⟨_, rfl, rfl⟩)
    · exact absurd rfl hc2

theorem arrN {S : HS} {t i q n t' i' : Nat} (h : ¬ (t' = t ∧ i' = i)) : mN (sArr S t i q n) t' i' = mN S t' i' := up2_n h
theorem arrB {S : HS} {t i q n t' i' : Nat} (h : ¬ (t' = t ∧ i' = i)) : mB (sArr S t i q n) t' i' = mB S t' i' := up2_n h
theorem EL.arr {s0 : State} {S : HS} {a k q cp : Nat} (h : EL s0 S a) (hk : ∀ t i, vV S t i → ¬ (t = 31 ∧ i = k) := by assumption) : EL s0 (sArr S 31 k q cp) a := by
  rcases h with ⟨t, i, hV, ht, rfl⟩ | ⟨i, hV, rfl⟩ | h
  · exact Or.inl ⟨t, i, Or.inl hV, ht, (up2_n (f := gG S) (v := q) (hk t i hV)).symm⟩
  · exact Or.inr (Or.inl ⟨i, Or.inl hV, (up2_n (f := gG S) (v := q) (hk 33 i hV)).symm⟩)
  · exact Or.inr (Or.inr h)

theorem dJ7_copyOf_6403c_0 : decode cJ7_copyOf_6403c 0 = .ok (.aload_n 2, 1) := by decide +kernel
theorem dJ7_copyOf_6403c_1 : decode cJ7_copyOf_6403c 1 = .ok (.ldc 110, 2) := by decide +kernel
theorem dJ7_copyOf_6403c_3 : decode cJ7_copyOf_6403c 3 = .ok (.if_acmp .ne 10, 3) := by decide +kernel
theorem dJ7_copyOf_6403c_6 : decode cJ7_copyOf_6403c 6 = .ok (.iload_n 1, 1) := by decide +kernel
theorem dJ7_copyOf_6403c_7 : decode cJ7_copyOf_6403c 7 = .ok (.anewarray 2, 3) := by decide +kernel
theorem dJ7_copyOf_6403c_10 : decode cJ7_copyOf_6403c 10 = .ok (.goto 14, 3) := by decide +kernel
theorem dJ7_copyOf_6403c_24 : decode cJ7_copyOf_6403c 24 = .ok (.astore_n 3, 1) := by decide +kernel
theorem dJ7_copyOf_6403c_25 : decode cJ7_copyOf_6403c 25 = .ok (.aload_n 0, 1) := by decide +kernel
theorem dJ7_copyOf_6403c_26 : decode cJ7_copyOf_6403c 26 = .ok (.iconst 0, 1) := by decide +kernel
theorem dJ7_copyOf_6403c_27 : decode cJ7_copyOf_6403c 27 = .ok (.aload_n 3, 1) := by decide +kernel
theorem dJ7_copyOf_6403c_28 : decode cJ7_copyOf_6403c 28 = .ok (.iconst 0, 1) := by decide +kernel
theorem dJ7_copyOf_6403c_29 : decode cJ7_copyOf_6403c 29 = .ok (.aload_n 0, 1) := by decide +kernel
theorem dJ7_copyOf_6403c_30 : decode cJ7_copyOf_6403c 30 = .ok (.arraylength, 1) := by decide +kernel
theorem dJ7_copyOf_6403c_31 : decode cJ7_copyOf_6403c 31 = .ok (.iload_n 1, 1) := by decide +kernel
theorem dJ7_copyOf_6403c_32 : decode cJ7_copyOf_6403c 32 = .ok (.invokestatic 304, 3) := by decide +kernel
theorem dJ7_copyOf_6403c_35 : decode cJ7_copyOf_6403c 35 = .ok (.invokestatic 150, 3) := by decide +kernel
theorem dJ7_copyOf_6403c_38 : decode cJ7_copyOf_6403c 38 = .ok (.aload_n 3, 1) := by decide +kernel
theorem dJ7_copyOf_6403c_39 : decode cJ7_copyOf_6403c 39 = .ok (.areturn, 1) := by decide +kernel
abbrev rm_m_J7_copyOf_6403c : Room := { frames := 1, cells := 1, slots := 49, locals := 60 }
set_option maxHeartbeats 4000000 in
set_option maxRecDepth 100000 in
theorem m_J7_copyOf_6403c {s0 : State} {l : Launch} {D : va_G} {cy : Nat → ClassId} (G : Gl s0 l D cy) (S : HS) (k n cp mi : Nat) (hc : GrowP n cp) (hV30 : vV S 30 k) (hN : mN S 30 k = n) (ht : ¬ vV S 31 k) (hel : ∀ j, j < n → ∀ y, mB S 30 k j = some y → EL s0 S y) (hmi : va_Mi "[Ljava/lang/Object;" mi s0) : Ctr s0 l D cy yJ7_copyOf_6403c cJ7_copyOf_6403c 4 (some (.array (.object "java/lang/Object"))) rm_m_J7_copyOf_6403c S [.ref (gG S 30 k), .int (nI cp), .ref mi] (fun v S' => ∃ q b, some (.ref (gG S' 31 k)) = v ∧ S' = sB (sArr S 31 k q cp) 31 k b ∧ ∀ j, j < n → b j = mB S 30 k j) := by
  refine pro "java/util/Arrays" G rfl rfl (Nat.le_of_ble_eq_true rfl) (fun p e s m below meth c ls X w hnm hl => ?_)
  have hx := X.1
  have hb := X.2.1
  have hown := X.2.2.2.1
  have hts := X.2.2.2.2.1
  have hl : lv_has ls 4 [(0, .ref (gG S 30 k)), (1, .int (nI cp)), (2, .ref mi)] := hl
  have hb3 := hc.b
  have hn31 : n < 2 ^ 31 := by omega
  have hk31 : ∀ t i, vV S t i → ¬ (t = 31 ∧ i = k) := fun t i h z => ht (by rw [← z.1, ← z.2]; exact h)
  refine lv_aload_n hx hb dJ7_copyOf_6403c_0 rfl (lv_at hl 2 rfl) ?_
  refine va_ldcM hx hb hown (hts _ wC_J7_110) (hmi.moved X.2.2.2.2.2.2.2.2.1.1) dJ7_copyOf_6403c_1 ?_
  refine lv_acmp_ne (rx := (some mi)) (ry := (some mi)) (tgt := 13) hx hb dJ7_copyOf_6403c_3 (by decide) (fun hc1 => ?_) (fun hc1 => ?_)
  · exact absurd rfl hc1
  · skip
    refine lv_iload_n hx hb dJ7_copyOf_6403c_6 rfl (lv_at hl 1 rfl) ?_
    refine nwR (S := S) (n := cp) X w 31 k (ht) (by decide) rfl rfl wC_J7_2 (rfl) (by omega) dJ7_copyOf_6403c_7 (by decide) (by show 0 + cp ≤ 49; omega) (fun q2 S2 H hS2 w => ?_)
    subst hS2
    refine lv_goto (tgt := 24) hx hb dJ7_copyOf_6403c_10 (by decide) ?_
    refine lv_astore_n (lv' := [(3, .ref (gG (sArr S 31 k q2 cp) 31 k)), (0, .ref (gG S 30 k)), (1, .int (nI cp)), (2, .ref mi)]) hx hb dJ7_copyOf_6403c_24 rfl hl (by decide) rfl (fun ls hl => ?_)
    refine lv_aload_n hx hb dJ7_copyOf_6403c_25 rfl (lv_at hl 1 rfl) ?_
    refine lv_iconst (v := 0) hx hb dJ7_copyOf_6403c_26 (by decide) ?_
    refine lv_aload_n hx hb dJ7_copyOf_6403c_27 rfl (lv_at hl 0 rfl) ?_
    refine lv_iconst (v := 0) hx hb dJ7_copyOf_6403c_28 (by decide) ?_
    refine lv_aload_n hx hb dJ7_copyOf_6403c_29 rfl (lv_at hl 1 rfl) ?_
    refine aLen (S := (sArr S 31 k q2 cp)) (t := 30) (n := n) X w (Or.inl hV30) (by decide) rfl ((arrN (fun z => absurd z.1 (by decide))).trans hN) dJ7_copyOf_6403c_30 ?_
    refine lv_iload_n hx hb dJ7_copyOf_6403c_31 rfl (lv_at hl 2 rfl) ?_
    refine va_mmin hx hb (X.2.2.1.trans hl.1.symm) hown (hts _ wM_J7_304) (hts _ wSt_J9_min_7cf53) (hts _ wI_J9) (hts _ wY_J9_min_7cf53) (by decide) (Nat.le_of_ble_eq_true rfl) (Nat.le_of_ble_eq_true rfl) (by show 0 + cp ≤ 49; omega) dJ7_copyOf_6403c_32 ?_
    refine lv_topi (fun z3 ez3 => ?_)
    obtain rfl : z3 = nI n := ez3.trans (if_neg (nI_nlt (Nat.le_of_lt hb3.2.2) (by omega)))
    refine aCpR (S := (sArr S 31 k q2 cp)) (t := 30) (i := k) (t1 := 31) (i1 := k) X w hl.1 (Or.inl hV30) (by decide) rfl rfl (Or.inr ⟨rfl, rfl⟩) (by decide) rfl rfl wM_J7_150 (by decide) (by decide) (nI_pos hn31) ?_ ?_ ?_ (by decide) (by decide) dJ7_copyOf_6403c_35 (fun H locs w => ?_)
    · rw [nI_clamp hn31, show mN (sArr S 31 k q2 cp) 30 k = n from (arrN (fun z => absurd z.1 (by decide))).trans hN]; show 0 + n ≤ n; omega
    · rw [nI_clamp hn31, show mN (sArr S 31 k q2 cp) 31 k = cp from up2_s _ _ _ _]; show 0 + n ≤ cp; omega
    · rw [nI_clamp hn31]; intro j hj y hy; exact (hel j hj y (by rw [show mB (sArr S 31 k q2 cp) 30 k = mB S 30 k from arrB (fun z => absurd z.1 (by decide))] at hy; rw [← hy]; congr 1; exact (Nat.zero_add j).symm)).arr
    rw [nI_clamp hn31] at w
    refine lv_aload_n hx hb dJ7_copyOf_6403c_38 rfl (lv_at hl 0 rfl) ?_
    exact rA (v := (some (gG (sArr S 31 k q2 cp) 31 k))) X w rfl (Or.inr ⟨_, rfl⟩) dJ7_copyOf_6403c_39 (by decide) (by show 0 + cp ≤ 49; omega) (⟨_, _, rfl, rfl, fun j hj => (pk_cpy_in (f := mB (sArr S 31 k _ cp) 30 k) (sp := 0) (dp := 0) (n := n) (Nat.zero_le j) (by omega)).trans (by rw [show mB (sArr S 31 k _ cp) 30 k = mB S 30 k from arrB (fun z => absurd z.1 (by decide))]; congr 1; omega)⟩)

theorem rowCell {p : Program} {s : State} {m : MethodId} {args : Array Value} {meth : Method} {c : Code} {H : Heap} {locs : List Loc} {cc : ByteArray} {nL : Nat} {s0 : State} {l : Launch} {D : va_G} {cy : Nat → ClassId} {S : HS} {own : String} {ret : Option FieldType} {t i : Nat} (X : Cx s0 l D cy p s m args meth c cc nL own ret) (w : Wd s0 D cy S s.heap H locs) (hV : vV S t i) (ht : ¬ t < 21) (hr : isRefA t = true) (hak : ak t = 0) : ∃ cell : Cell, H[gG S t i]? = some cell ∧ cell.vm.isStatics = false ∧ s.vm.findClass "[Ljava/lang/Object;" = some cell.cls := by
  obtain ⟨ws, q0, hP, hD, hq, hm⟩ := w.at hV
  rw [cell_arrR ht hr] at hq
  have hc : H[gG S t i]? = some (vp_cell (cy (ak t)) (mN S t i, .inr (.inr (.inr (.inr (mB S t i)))))) := hP q0 _ hq
  refine ⟨_, hc, rfl, ?_⟩
  rw [hak]
  exact va_nmO (X.2.2.2.2.2.2.2.1.2 0 _ (rfl : (TY cy)[0]? = some (cy 0, .object "java/lang/Object"))).2 rfl

theorem dJ7_copyOf_1904c_0 : decode cJ7_copyOf_1904c 0 = .ok (.aload_n 0, 1) := by decide +kernel
theorem dJ7_copyOf_1904c_1 : decode cJ7_copyOf_1904c 1 = .ok (.iload_n 1, 1) := by decide +kernel
theorem dJ7_copyOf_1904c_2 : decode cJ7_copyOf_1904c 2 = .ok (.aload_n 0, 1) := by decide +kernel
theorem dJ7_copyOf_1904c_3 : decode cJ7_copyOf_1904c 3 = .ok (.invokevirtual 86, 3) := by decide +kernel
theorem dJ7_copyOf_1904c_6 : decode cJ7_copyOf_1904c 6 = .ok (.invokestatic 300, 3) := by decide +kernel
theorem dJ7_copyOf_1904c_9 : decode cJ7_copyOf_1904c 9 = .ok (.areturn, 1) := by decide +kernel
abbrev rm_m_J7_copyOf_1904c : Room := { frames := 2, cells := 1, slots := 49, locals := 83 }
set_option maxHeartbeats 4000000 in
set_option maxRecDepth 100000 in
theorem m_J7_copyOf_1904c {s0 : State} {l : Launch} {D : va_G} {cy : Nat → ClassId} (G : Gl s0 l D cy) (S : HS) (k n cp mi : Nat) (hc : GrowP n cp) (hV30 : vV S 30 k) (hN : mN S 30 k = n) (ht : ¬ vV S 31 k) (hel : ∀ j, j < n → ∀ y, mB S 30 k j = some y → EL s0 S y) (hmi : va_Mi "[Ljava/lang/Object;" mi s0) : Ctr s0 l D cy yJ7_copyOf_1904c cJ7_copyOf_1904c 2 (some (.array (.object "java/lang/Object"))) rm_m_J7_copyOf_1904c S [.ref (gG S 30 k), .int (nI cp)] (fun v S' => ∃ q b, some (.ref (gG S' 31 k)) = v ∧ S' = sB (sArr S 31 k q cp) 31 k b ∧ ∀ j, j < n → b j = mB S 30 k j) := by
  refine pro "java/util/Arrays" G rfl rfl (Nat.le_of_ble_eq_true rfl) (fun p e s m below meth c ls X w hnm hl => ?_)
  have hx := X.1
  have hb := X.2.1
  have hown := X.2.2.2.1
  have hts := X.2.2.2.2.1
  have hl : lv_has ls 2 [(0, .ref (gG S 30 k)), (1, .int (nI cp))] := hl
  refine lv_aload_n hx hb dJ7_copyOf_1904c_0 rfl (lv_at hl 0 rfl) ?_
  refine lv_iload_n hx hb dJ7_copyOf_1904c_1 rfl (lv_at hl 1 rfl) ?_
  refine lv_aload_n hx hb dJ7_copyOf_1904c_2 rfl (lv_at hl 0 rfl) ?_
  refine va_getC (C := "[Ljava/lang/Object;") (mi := mi) hx hb (X.2.2.1.trans hl.1.symm) hown (hts _ wM_J7_86) (va_Nw.use rfl (X.2.2.2.2.2.2.2.2.1.2.2.2.1 _ wDe_java_lang_Object_getClass___Ljava_lang_Class_)) (hts _ wSe__Ljava_lang_Object__java_lang_Object_getClass___Ljava_lang_Class_) (hts _ wIn_java_lang_Object_getClass___Ljava_lang_Class_) (Gl.nat G X.2.2.2.2.2.2.2.2.1 wNat_java_lang_Object_getClass___Ljava_lang_Class_) (hmi.moved X.2.2.2.2.2.2.2.2.1.1) (rowCell X w hV30 (by decide) rfl rfl) (Nat.le_of_ble_eq_true rfl) (Nat.le_of_ble_eq_true rfl) dJ7_copyOf_1904c_3 ?_
  refine cS (S := S) (nA := 3) (As := [.ref (gG S 30 k), .int (nI cp), .ref mi]) (rest := []) X w hl (m_J7_copyOf_6403c G S k n cp mi hc hV30 hN ht hel hmi) wY_J7_copyOf_6403c wM_J7_300 wSt_J7_copyOf_6403c wI_J7 (by decide +kernel) rfl rfl dJ7_copyOf_1904c_6 ⟨by decide, by decide⟩ (Nat.le_of_ble_eq_true rfl) (⟨Nat.le_of_ble_eq_true rfl, Nat.le_of_ble_eq_true rfl⟩) (fun v1 S1 H locs hp w => ?_)
  obtain ⟨q8, b8, rfl, rfl, hb8⟩ := hp
  exact rA (v := (some (gG (sB (sArr S 31 k q8 cp) 31 k b8) 31 k))) X w rfl (Or.inr ⟨_, rfl⟩) dJ7_copyOf_1904c_9 (by decide) (by decide) (⟨_, _, rfl, rfl, hb8⟩)

theorem dJx4a65c_grow_92f84_20 : decode cJx4a65c_grow_92f84 20 = .ok (.iload_n 2, 1) := by decide +kernel
theorem dJx4a65c_grow_92f84_21 : decode cJx4a65c_grow_92f84 21 = .ok (.iload_n 1, 1) := by decide +kernel
theorem dJx4a65c_grow_92f84_22 : decode cJx4a65c_grow_92f84 22 = .ok (.iload_n 2, 1) := by decide +kernel
theorem dJx4a65c_grow_92f84_23 : decode cJx4a65c_grow_92f84 23 = .ok (.isub, 1) := by decide +kernel
theorem dJx4a65c_grow_92f84_24 : decode cJx4a65c_grow_92f84 24 = .ok (.iload_n 2, 1) := by decide +kernel
theorem dJx4a65c_grow_92f84_25 : decode cJx4a65c_grow_92f84 25 = .ok (.iconst 1, 1) := by decide +kernel
theorem dJx4a65c_grow_92f84_26 : decode cJx4a65c_grow_92f84 26 = .ok (.ishr, 1) := by decide +kernel
theorem dJx4a65c_grow_92f84_27 : decode cJx4a65c_grow_92f84 27 = .ok (.invokestatic 73, 3) := by decide +kernel
theorem dJx4a65c_grow_92f84_30 : decode cJx4a65c_grow_92f84 30 = .ok (.istore_n 3, 1) := by decide +kernel
theorem dJx4a65c_grow_92f84_31 : decode cJx4a65c_grow_92f84 31 = .ok (.aload_n 0, 1) := by decide +kernel
theorem dJx4a65c_grow_92f84_32 : decode cJx4a65c_grow_92f84 32 = .ok (.aload_n 0, 1) := by decide +kernel
theorem dJx4a65c_grow_92f84_33 : decode cJx4a65c_grow_92f84 33 = .ok (.getfield 9, 3) := by decide +kernel
theorem dJx4a65c_grow_92f84_36 : decode cJx4a65c_grow_92f84 36 = .ok (.iload_n 3, 1) := by decide +kernel
theorem dJx4a65c_grow_92f84_37 : decode cJx4a65c_grow_92f84 37 = .ok (.invokestatic 66, 3) := by decide +kernel
theorem dJx4a65c_grow_92f84_40 : decode cJx4a65c_grow_92f84 40 = .ok (.dup_x1, 1) := by decide +kernel
theorem dJx4a65c_grow_92f84_41 : decode cJx4a65c_grow_92f84 41 = .ok (.putfield 9, 3) := by decide +kernel
theorem dJx4a65c_grow_92f84_44 : decode cJx4a65c_grow_92f84 44 = .ok (.areturn, 1) := by decide +kernel
abbrev rm_m_growB : Room := { frames := 3, cells := 1, slots := 49, locals := 104 }
set_option maxHeartbeats 4000000 in
set_option maxRecDepth 100000 in
theorem m_growB {s0 : State} {l : Launch} {D : va_G} {cy : Nat → ClassId} (G : Gl s0 l D cy) (S : HS) (k n cp mi : Nat) (hc : GrowP n cp) (hV30 : vV S 30 k) (hN : mN S 30 k = n) (ht : ¬ vV S 31 k) (hel : ∀ j, j < n → ∀ y, mB S 30 k j = some y → EL s0 S y) (hmi : va_Mi "[Ljava/lang/Object;" mi s0) (hV : vV S 17 k) (hr : mR S 273 k = some (gG S 30 k)) : Ctr s0 l D cy yJx4a65c_grow_92f84 cJx4a65c_grow_92f84 4 (some (.array (.object "java/lang/Object"))) rm_m_growB S [.ref (gG S 17 k), .int (nI (n + 1))] (fun v S' => ∃ q b, some (.ref (gG S' 31 k)) = v ∧ S' = sR (sB (sArr S 31 k q cp) 31 k b) 273 k (some (gG (sB (sArr S 31 k q cp) 31 k b) 31 k)) ∧ ∀ j, j < n → b j = mB S 30 k j) := by
  refine pro "java/util/ArrayList" G rfl rfl (Nat.le_of_ble_eq_true rfl) (fun p e s m below meth c ls X w hnm hl => ?_)
  have hx := X.1
  have hb := X.2.1
  have hown := X.2.2.2.1
  have hts := X.2.2.2.2.1
  have hl : lv_has ls 4 [(0, .ref (gG S 17 k)), (1, .int (nI (n + 1)))] := hl
  have hb3 := hc.b
  refine lv_aload_n hx hb dJx4a65c_grow_92f84_0 rfl (lv_at hl 0 rfl) ?_
  refine g_17_1 (S := S) (x := (some (gG S 30 k))) X w hV wF_Jx4a65c_9 (hr) dJx4a65c_grow_92f84_1 ?_
  refine aLen (S := S) (t := 30) (n := n) X w hV30 (by decide) rfl (hN) dJx4a65c_grow_92f84_4 ?_
  refine lv_istore_n (lv' := [(2, .int (nI n)), (0, .ref (gG S 17 k)), (1, .int (nI (n + 1)))]) hx hb dJx4a65c_grow_92f84_5 rfl hl (by decide) rfl (fun ls hl => ?_)
  refine lv_iload_n hx hb dJx4a65c_grow_92f84_6 rfl (lv_at hl 0 rfl) ?_
  refine lv_if_gt (tgt := 20) hx hb dJx4a65c_grow_92f84_7 (by decide) (fun hc1 => ?_) (fun hc1 => ?_)
  · refine lv_iload_n hx hb dJx4a65c_grow_92f84_20 rfl (lv_at hl 0 rfl) ?_
    refine lv_iload_n hx hb dJx4a65c_grow_92f84_21 rfl (lv_at hl 2 rfl) ?_
    refine lv_iload_n hx hb dJx4a65c_grow_92f84_22 rfl (lv_at hl 0 rfl) ?_
    refine lv_isub hx hb dJx4a65c_grow_92f84_23 ?_
    refine lv_topi (fun z2 ez2 => ?_)
    obtain rfl : z2 = 1 := ez2.trans (by rw [pk_sub (Nat.le_succ n), show n + 1 - n = 1 by omega]; rfl)
    refine lv_iload_n hx hb dJx4a65c_grow_92f84_24 rfl (lv_at hl 0 rfl) ?_
    refine lv_iconst (v := 1) hx hb dJx4a65c_grow_92f84_25 (by decide) ?_
    refine lv_ishr hx hb dJx4a65c_grow_92f84_26 ?_
    refine lv_topi (fun z3 ez3 => ?_)
    obtain rfl : z3 = nI (n / 2) := ez3.trans (by rcases hc with ⟨rfl, rfl⟩ | ⟨rfl, rfl⟩ | ⟨rfl, rfl⟩ | ⟨rfl, rfl⟩ <;> decide)
    refine cS (S := S) (nA := 3) (As := [.int (nI n), .int 1, .int (nI (n / 2))]) (rest := []) X w hl (m_J8_newLength_cabcc G S n cp hc) wY_J8_newLength_cabcc wM_Jx4a65c_73 wSt_J8_newLength_cabcc wI_J8 (by decide +kernel) rfl rfl dJx4a65c_grow_92f84_27 ⟨by decide, by decide⟩ (Nat.le_of_ble_eq_true rfl) (⟨Nat.le_of_ble_eq_true rfl, Nat.le_of_ble_eq_true rfl⟩) (fun v4 S1 H locs hp w => ?_)
    obtain ⟨rfl, rfl⟩ := hp
    refine lv_istore_n (lv' := [(3, .int (nI cp)), (2, .int (nI n)), (0, .ref (gG S 17 k)), (1, .int (nI (n + 1)))]) hx hb dJx4a65c_grow_92f84_30 rfl hl (by decide) rfl (fun ls hl => ?_)
    refine lv_aload_n hx hb dJx4a65c_grow_92f84_31 rfl (lv_at hl 2 rfl) ?_
    refine lv_aload_n hx hb dJx4a65c_grow_92f84_32 rfl (lv_at hl 2 rfl) ?_
    refine g_17_1 (S := S) (x := (some (gG S 30 k))) X w hV wF_Jx4a65c_9 (hr) dJx4a65c_grow_92f84_33 ?_
    refine lv_iload_n hx hb dJx4a65c_grow_92f84_36 rfl (lv_at hl 0 rfl) ?_
    refine cS (S := S) (nA := 2) (As := [.ref (gG S 30 k), .int (nI cp)]) (rest := [.ref (gG S 17 k)]) X w hl (m_J7_copyOf_1904c G S k n cp mi hc hV30 hN ht hel hmi) wY_J7_copyOf_1904c wM_Jx4a65c_66 wSt_J7_copyOf_1904c wI_J7 (by decide +kernel) rfl rfl dJx4a65c_grow_92f84_37 ⟨by decide, by decide⟩ (Nat.le_of_ble_eq_true rfl) (⟨Nat.le_of_ble_eq_true rfl, Nat.le_of_ble_eq_true rfl⟩) (fun v5 S1 H locs hp w => ?_)
    obtain ⟨q8, b8, rfl, rfl, hb8⟩ := hp
    refine lv_dup_x1 hx hb dJx4a65c_grow_92f84_40 rfl rfl ?_
    refine p_17_1 (S := (sB (sArr S 31 k q8 cp) 31 k b8)) (x := (some (gG (sB (sArr S 31 k q8 cp) 31 k b8) 31 k))) X w (Or.inl hV) wF_Jx4a65c_9 dJx4a65c_grow_92f84_41 (fun H locs w => ?_)
    exact rA (v := (some (gG (sB (sArr S 31 k q8 cp) 31 k b8) 31 k))) X w rfl (Or.inr ⟨_, rfl⟩) dJx4a65c_grow_92f84_44 (by decide) (by decide) (⟨_, _, rfl, rfl, hb8⟩)
  · exact absurd (by rcases hc with ⟨rfl, rfl⟩ | ⟨rfl, rfl⟩ | ⟨rfl, rfl⟩ | ⟨rfl, rfl⟩ <;> decide) hc1

