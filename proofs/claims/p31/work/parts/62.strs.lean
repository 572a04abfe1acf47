theorem dJ5_ensureCapacityInternal_d00df_0 : decode cJ5_ensureCapacityInternal_d00df 0 = .ok (.aload_n 0, 1) := by decide +kernel
theorem dJ5_ensureCapacityInternal_d00df_1 : decode cJ5_ensureCapacityInternal_d00df 1 = .ok (.getfield 15, 3) := by decide +kernel
theorem dJ5_ensureCapacityInternal_d00df_4 : decode cJ5_ensureCapacityInternal_d00df 4 = .ok (.arraylength, 1) := by decide +kernel
theorem dJ5_ensureCapacityInternal_d00df_5 : decode cJ5_ensureCapacityInternal_d00df 5 = .ok (.aload_n 0, 1) := by decide +kernel
theorem dJ5_ensureCapacityInternal_d00df_6 : decode cJ5_ensureCapacityInternal_d00df 6 = .ok (.getfield 22, 3) := by decide +kernel
theorem dJ5_ensureCapacityInternal_d00df_9 : decode cJ5_ensureCapacityInternal_d00df 9 = .ok (.ishr, 1) := by decide +kernel
theorem dJ5_ensureCapacityInternal_d00df_10 : decode cJ5_ensureCapacityInternal_d00df 10 = .ok (.istore_n 2, 1) := by decide +kernel
theorem dJ5_ensureCapacityInternal_d00df_11 : decode cJ5_ensureCapacityInternal_d00df 11 = .ok (.iload_n 1, 1) := by decide +kernel
theorem dJ5_ensureCapacityInternal_d00df_12 : decode cJ5_ensureCapacityInternal_d00df 12 = .ok (.iload_n 2, 1) := by decide +kernel
theorem dJ5_ensureCapacityInternal_d00df_13 : decode cJ5_ensureCapacityInternal_d00df 13 = .ok (.isub, 1) := by decide +kernel
theorem dJ5_ensureCapacityInternal_d00df_14 : decode cJ5_ensureCapacityInternal_d00df 14 = .ok (.ifCond .le 24, 3) := by decide +kernel
theorem dJ5_ensureCapacityInternal_d00df_17 : decode cJ5_ensureCapacityInternal_d00df 17 = .ok (.aload_n 0, 1) := by decide +kernel
theorem dJ5_ensureCapacityInternal_d00df_18 : decode cJ5_ensureCapacityInternal_d00df 18 = .ok (.aload_n 0, 1) := by decide +kernel
theorem dJ5_ensureCapacityInternal_d00df_19 : decode cJ5_ensureCapacityInternal_d00df 19 = .ok (.getfield 15, 3) := by decide +kernel
theorem dJ5_ensureCapacityInternal_d00df_22 : decode cJ5_ensureCapacityInternal_d00df 22 = .ok (.aload_n 0, 1) := by decide +kernel
theorem dJ5_ensureCapacityInternal_d00df_23 : decode cJ5_ensureCapacityInternal_d00df 23 = .ok (.iload_n 1, 1) := by decide +kernel
theorem dJ5_ensureCapacityInternal_d00df_24 : decode cJ5_ensureCapacityInternal_d00df 24 = .ok (.invokevirtual 104, 3) := by decide +kernel
theorem dJ5_ensureCapacityInternal_d00df_27 : decode cJ5_ensureCapacityInternal_d00df 27 = .ok (.aload_n 0, 1) := by decide +kernel
theorem dJ5_ensureCapacityInternal_d00df_28 : decode cJ5_ensureCapacityInternal_d00df 28 = .ok (.getfield 22, 3) := by decide +kernel
theorem dJ5_ensureCapacityInternal_d00df_31 : decode cJ5_ensureCapacityInternal_d00df 31 = .ok (.ishl, 1) := by decide +kernel
theorem dJ5_ensureCapacityInternal_d00df_32 : decode cJ5_ensureCapacityInternal_d00df 32 = .ok (.invokestatic 108, 3) := by decide +kernel
theorem dJ5_ensureCapacityInternal_d00df_35 : decode cJ5_ensureCapacityInternal_d00df 35 = .ok (.putfield 15, 3) := by decide +kernel
theorem dJ5_ensureCapacityInternal_d00df_38 : decode cJ5_ensureCapacityInternal_d00df 38 = .ok (.return_, 1) := by decide +kernel
abbrev rm_m_J5_ensureCapacityInternal_d00df : Room := { frames := 3, cells := 1, slots := 200, locals := 69 }
set_option maxHeartbeats 4000000 in
set_option maxRecDepth 100000 in
theorem m_J5_ensureCapacityInternal_d00df {s0 : State} {l : Launch} {D : va_G} {cy : Nat → ClassId} (G : Gl s0 l D cy) (S : HS) (i k n mm q : Nat) (hB : SB S i k n mm) (hq : q ≤ 100) : Ctr s0 l D cy yJ5_ensureCapacityInternal_d00df cJ5_ensureCapacityInternal_d00df 3 none rm_m_J5_ensureCapacityInternal_d00df S [.ref (gG S 18 i), .int (nI q)] (fun v S' => none = v ∧ ∃ k' m', SB S' i k' n m' ∧ q ≤ m' ∧ k ≤ k' ∧ KB S S' i k) := by
  refine pro "java/lang/AbstractStringBuilder" G rfl rfl (Nat.le_of_ble_eq_true rfl) (fun p e s m below meth c ls X w hnm hl => ?_)
  have hx := X.1
  have hb := X.2.1
  have hown := X.2.2.2.1
  have hts := X.2.2.2.2.1
  have hl : lv_has ls 3 [(0, .ref (gG S 18 i)), (1, .int (nI q))] := hl
  have hm200 := hB.h2
  refine lv_aload_n hx hb dJ5_ensureCapacityInternal_d00df_0 rfl (lv_at hl 0 rfl) ?_
  refine g_18_0 (S := S) (x := (some (gG S 42 k))) X w hB.hv wF_J5_15 (hB.hr) dJ5_ensureCapacityInternal_d00df_1 ?_
  refine aLen (S := S) (t := 42) (n := mm) X w hB.ha (by decide) rfl (hB.hw) dJ5_ensureCapacityInternal_d00df_4 ?_
  refine lv_aload_n hx hb dJ5_ensureCapacityInternal_d00df_5 rfl (lv_at hl 0 rfl) ?_
  refine g_18_1 (S := S) (x := 0) X w hB.hv wF_J5_22 (hB.hc) dJ5_ensureCapacityInternal_d00df_6 ?_
  refine lv_ishr hx hb dJ5_ensureCapacityInternal_d00df_9 ?_
  refine lv_topi (fun z1 ez1 => ?_)
  obtain rfl : z1 = nI mm := ez1.trans (sb_shr0 _)
  refine lv_istore_n (lv' := [(2, .int (nI mm)), (0, .ref (gG S 18 i)), (1, .int (nI q))]) hx hb dJ5_ensureCapacityInternal_d00df_10 rfl hl (by decide) rfl (fun ls hl => ?_)
  refine lv_iload_n hx hb dJ5_ensureCapacityInternal_d00df_11 rfl (lv_at hl 2 rfl) ?_
  refine lv_iload_n hx hb dJ5_ensureCapacityInternal_d00df_12 rfl (lv_at hl 0 rfl) ?_
  refine lv_isub hx hb dJ5_ensureCapacityInternal_d00df_13 ?_
  refine lv_if_le (tgt := 38) hx hb dJ5_ensureCapacityInternal_d00df_14 (by decide) (fun hq14 => ?_) (fun hq14 => ?_)
  · have hqm : q ≤ mm := (le0_sub (by omega) (by omega)).mp hq14
    exact rV X w rfl dJ5_ensureCapacityInternal_d00df_38 (by decide) (by decide) (⟨rfl, _, _, hB, hqm, Nat.le_refl _, Kq.rf⟩)
  · have hmq : mm < q := Nat.lt_of_not_le (fun z => hq14 ((le0_sub (by omega) (by omega)).mpr z))
    refine lv_aload_n hx hb dJ5_ensureCapacityInternal_d00df_17 rfl (lv_at hl 1 rfl) ?_
    refine lv_aload_n hx hb dJ5_ensureCapacityInternal_d00df_18 rfl (lv_at hl 1 rfl) ?_
    refine g_18_0 (S := S) (x := (some (gG S 42 k))) X w hB.hv wF_J5_15 (hB.hr) dJ5_ensureCapacityInternal_d00df_19 ?_
    refine lv_aload_n hx hb dJ5_ensureCapacityInternal_d00df_22 rfl (lv_at hl 1 rfl) ?_
    refine lv_iload_n hx hb dJ5_ensureCapacityInternal_d00df_23 rfl (lv_at hl 2 rfl) ?_
    refine cU (S := S) (t := 18) (nA := 1) (As := [.int (nI q)]) (rest := [.ref (gG S 42 k), .ref (gG S 18 i)]) X w hl hB.hv (m_J5_newCapacity_0f7a4 G S i _ _ _ q hB (by omega) hmq) wY_J5_newCapacity_0f7a4 wM_J5_104 wIn_J5_newCapacity_0f7a4 wZ_2093 (sel5 X rfl wPv_J5_newCapacity_0f7a4 wIn_J5_newCapacity_0f7a4) wI_J5 (by decide) rfl (by decide +kernel) rfl rfl dJ5_ensureCapacityInternal_d00df_24 ⟨Nat.le_of_ble_eq_true rfl, Nat.le_of_ble_eq_true rfl⟩ (Nat.le_of_ble_eq_true rfl) (⟨Nat.le_of_ble_eq_true rfl, Nat.le_of_ble_eq_true rfl⟩) (fun v2 S1 H locs hp w => ?_)
    obtain ⟨⟨g1, rfl, hg1, hg2⟩, rfl⟩ := hp
    refine lv_aload_n hx hb dJ5_ensureCapacityInternal_d00df_27 rfl (lv_at hl 1 rfl) ?_
    refine g_18_1 (S := S) (x := 0) X w hB.hv wF_J5_22 (hB.hc) dJ5_ensureCapacityInternal_d00df_28 ?_
    refine lv_ishl hx hb dJ5_ensureCapacityInternal_d00df_31 ?_
    refine lv_topi (fun z3 ez3 => ?_)
    obtain rfl : z3 = nI g1 := ez3.trans (sb_shl0 _)
    refine cS (S := S) (nA := 2) (As := [.ref (gG S 42 k), .int (nI g1)]) (rest := [.ref (gG S 18 i)]) X w hl (m_J7_copyOf_9075b G S k mm g1 hB.ha hB.hf hB.hw (hB.hz _ (Nat.lt_succ_self _)) (by omega) hg2) wY_J7_copyOf_9075b wM_J5_108 wSt_J7_copyOf_9075b wI_J7 (by decide +kernel) rfl rfl dJ5_ensureCapacityInternal_d00df_32 ⟨by decide, by decide⟩ (Nat.le_of_ble_eq_true rfl) (⟨Nat.le_of_ble_eq_true rfl, Nat.le_of_ble_eq_true rfl⟩) (fun v4 S1 H locs hp w => ?_)
    obtain ⟨rfl, q8, f8, hf8, rfl⟩ := hp
    refine rE1 ((rfl).trans (((show gG (sA (sArr S 42 (k + 1) q8 g1) 42 (k + 1) f8) 18 i = gG S 18 i from gA_n (fun z => by omega))).trans (rfl)).symm) ?_
    refine p_18_0 (S := (sA (sArr S 42 (k + 1) q8 g1) 42 (k + 1) f8)) (x := (some (gG (sA (sArr S 42 (k + 1) q8 g1) 42 (k + 1) f8) 42 (k + 1)))) X w (Or.inl hB.hv) wF_J5_15 dJ5_ensureCapacityInternal_d00df_35 (fun H locs w => ?_)
    exact rV X w rfl dJ5_ensureCapacityInternal_d00df_38 (Nat.le_of_ble_eq_true rfl) (Nat.le_of_ble_eq_true rfl) ⟨rfl, _, _, hB.gr (by omega) hg2 hf8, hg1, Nat.le_succ _, KB.gr⟩

theorem dJ5_append_cf1ce_0 : decode cJ5_append_cf1ce 0 = .ok (.aload_n 1, 1) := by decide +kernel
theorem dJ5_append_cf1ce_1 : decode cJ5_append_cf1ce 1 = .ok (.ifnonnull 8, 3) := by decide +kernel
theorem dJ5_append_cf1ce_9 : decode cJ5_append_cf1ce 9 = .ok (.aload_n 1, 1) := by decide +kernel
theorem dJ5_append_cf1ce_10 : decode cJ5_append_cf1ce 10 = .ok (.invokevirtual 32, 3) := by decide +kernel
theorem dJ5_append_cf1ce_13 : decode cJ5_append_cf1ce 13 = .ok (.istore_n 2, 1) := by decide +kernel
theorem dJ5_append_cf1ce_14 : decode cJ5_append_cf1ce 14 = .ok (.aload_n 0, 1) := by decide +kernel
theorem dJ5_append_cf1ce_15 : decode cJ5_append_cf1ce 15 = .ok (.aload_n 0, 1) := by decide +kernel
theorem dJ5_append_cf1ce_16 : decode cJ5_append_cf1ce 16 = .ok (.getfield 79, 3) := by decide +kernel
theorem dJ5_append_cf1ce_19 : decode cJ5_append_cf1ce 19 = .ok (.iload_n 2, 1) := by decide +kernel
theorem dJ5_append_cf1ce_20 : decode cJ5_append_cf1ce 20 = .ok (.iadd, 1) := by decide +kernel
theorem dJ5_append_cf1ce_21 : decode cJ5_append_cf1ce 21 = .ok (.invokevirtual 100, 3) := by decide +kernel
theorem dJ5_append_cf1ce_24 : decode cJ5_append_cf1ce 24 = .ok (.aload_n 0, 1) := by decide +kernel
theorem dJ5_append_cf1ce_25 : decode cJ5_append_cf1ce 25 = .ok (.aload_n 0, 1) := by decide +kernel
theorem dJ5_append_cf1ce_26 : decode cJ5_append_cf1ce 26 = .ok (.getfield 79, 3) := by decide +kernel
theorem dJ5_append_cf1ce_29 : decode cJ5_append_cf1ce 29 = .ok (.aload_n 1, 1) := by decide +kernel
theorem dJ5_append_cf1ce_30 : decode cJ5_append_cf1ce 30 = .ok (.invokevirtual 208, 3) := by decide +kernel
theorem dJ5_append_cf1ce_33 : decode cJ5_append_cf1ce 33 = .ok (.aload_n 0, 1) := by decide +kernel
theorem dJ5_append_cf1ce_34 : decode cJ5_append_cf1ce 34 = .ok (.dup, 1) := by decide +kernel
theorem dJ5_append_cf1ce_35 : decode cJ5_append_cf1ce 35 = .ok (.getfield 79, 3) := by decide +kernel
theorem dJ5_append_cf1ce_38 : decode cJ5_append_cf1ce 38 = .ok (.iload_n 2, 1) := by decide +kernel
theorem dJ5_append_cf1ce_39 : decode cJ5_append_cf1ce 39 = .ok (.iadd, 1) := by decide +kernel
theorem dJ5_append_cf1ce_40 : decode cJ5_append_cf1ce 40 = .ok (.putfield 79, 3) := by decide +kernel
theorem dJ5_append_cf1ce_43 : decode cJ5_append_cf1ce 43 = .ok (.aload_n 0, 1) := by decide +kernel
theorem dJ5_append_cf1ce_44 : decode cJ5_append_cf1ce 44 = .ok (.areturn, 1) := by decide +kernel
abbrev rm_m_J5_append_cf1ce : Room := { frames := 4, cells := 1, slots := 200, locals := 91 }
set_option maxHeartbeats 4000000 in
set_option maxRecDepth 100000 in
theorem m_J5_append_cf1ce {s0 : State} {l : Launch} {D : va_G} {cy : Nat → ClassId} (G : Gl s0 l D cy) (S : HS) (i k n mm a w0 : Nat) (hB : SB S i k n mm) (hS : SA s0 S k a w0) (hn9 : n + w0 ≤ 100) : Ctr s0 l D cy yJ5_append_cf1ce cJ5_append_cf1ce 3 (some (.object "java/lang/AbstractStringBuilder")) rm_m_J5_append_cf1ce S [.ref (gG S 18 i), .ref a] (fun v S' => some (.ref (gG S' 18 i)) = v ∧ ∃ k' m', SB S' i k' (n + w0) m' ∧ k ≤ k' ∧ KB S S' i k) := by
  refine pro "java/lang/AbstractStringBuilder" G rfl rfl (Nat.le_of_ble_eq_true rfl) (fun p e s m below meth c ls X w hnm hl => ?_)
  have hx := X.1
  have hb := X.2.1
  have hown := X.2.2.2.1
  have hts := X.2.2.2.2.1
  have hl : lv_has ls 3 [(0, .ref (gG S 18 i)), (1, .ref a)] := hl
  have hm200 := hB.h2
  refine lv_aload_n hx hb dJ5_append_cf1ce_0 rfl (lv_at hl 1 rfl) ?_
  refine lv_ifnonnull (tgt := 9) hx hb dJ5_append_cf1ce_1 (by decide) ?_
  refine lv_aload_n hx hb dJ5_append_cf1ce_9 rfl (lv_at hl 1 rfl) ?_
  refine cVx (S := S) (nA := 0) (As := []) (rest := []) X w hl (recSA X w hS) (m_J0_length_8abf5 G S _ a _ hS) wY_J0_length_8abf5 wM_J5_32 wIn_J0_length_8abf5 wSe_J0_J0_length_8abf5 wI_J0 (by decide +kernel) rfl rfl dJ5_append_cf1ce_10 ⟨Nat.le_of_ble_eq_true rfl, Nat.le_of_ble_eq_true rfl⟩ (Nat.le_of_ble_eq_true rfl) (⟨Nat.le_of_ble_eq_true rfl, Nat.le_of_ble_eq_true rfl⟩) (fun v1 S1 H locs hp w => ?_)
  obtain ⟨rfl, rfl⟩ := hp
  refine lv_istore_n (lv' := [(2, .int (nI w0)), (0, .ref (gG S 18 i)), (1, .ref a)]) hx hb dJ5_append_cf1ce_13 rfl hl (by decide) rfl (fun ls hl => ?_)
  refine lv_aload_n hx hb dJ5_append_cf1ce_14 rfl (lv_at hl 1 rfl) ?_
  refine lv_aload_n hx hb dJ5_append_cf1ce_15 rfl (lv_at hl 1 rfl) ?_
  refine g_18_3 (S := S) (x := (nI n)) X w hB.hv wF_J5_79 (hB.hn) dJ5_append_cf1ce_16 ?_
  refine lv_iload_n hx hb dJ5_append_cf1ce_19 rfl (lv_at hl 0 rfl) ?_
  refine lv_iadd hx hb dJ5_append_cf1ce_20 ?_
  refine lv_topi (fun z2 ez2 => ?_)
  obtain rfl : z2 = nI (n + w0) := ez2.trans (nI_add n w0)
  refine cU (S := S) (t := 18) (nA := 1) (As := [.int (nI (n + w0))]) (rest := []) X w hl hB.hv (m_J5_ensureCapacityInternal_d00df G S i k n _ (n + w0) hB (by omega)) wY_J5_ensureCapacityInternal_d00df wM_J5_100 wIn_J5_ensureCapacityInternal_d00df wZ_2092 (sel5 X rfl wPv_J5_ensureCapacityInternal_d00df wIn_J5_ensureCapacityInternal_d00df) wI_J5 (by decide) rfl (by decide +kernel) rfl rfl dJ5_append_cf1ce_21 ⟨Nat.le_of_ble_eq_true rfl, Nat.le_of_ble_eq_true rfl⟩ (Nat.le_of_ble_eq_true rfl) (⟨Nat.le_of_ble_eq_true rfl, Nat.le_of_ble_eq_true rfl⟩) (fun v4 U3 H locs hp w => ?_)
  obtain ⟨rfl, kU3, mU3, hBU3, hqU3, hkU3, hKU3⟩ := hp
  have hmU3 := hBU3.h2
  have hS := hS.keep hKU3 hkU3
  refine lv_aload_n hx hb dJ5_append_cf1ce_24 rfl (lv_at hl 1 rfl) ?_
  refine lv_aload_n hx hb dJ5_append_cf1ce_25 rfl (lv_at hl 1 rfl) ?_
  refine rE0 ((rfl).trans ((hKU3.G (t := 18) (i := i) rfl).trans (rfl)).symm) ?_
  refine g_18_3 (S := U3) (x := (nI n)) X w hBU3.hv wF_J5_79 (hBU3.hn) dJ5_append_cf1ce_26 ?_
  refine lv_aload_n hx hb dJ5_append_cf1ce_29 rfl (lv_at hl 2 rfl) ?_
  refine rE2 ((rfl).trans ((hKU3.G (t := 18) (i := i) rfl).trans (rfl)).symm) ?_
  refine cU (S := U3) (t := 18) (nA := 2) (As := [.int (nI n), .ref a]) (rest := []) X w hl hBU3.hv (m_J5_putStringAt_47b60 G U3 i kU3 n mU3 a _ w0 hBU3 hS (by omega)) wY_J5_putStringAt_47b60 wM_J5_208 wIn_J5_putStringAt_47b60 wZ_2096 (sel5 X rfl wPv_J5_putStringAt_47b60 wIn_J5_putStringAt_47b60) wI_J5 (by decide) rfl (by decide +kernel) rfl rfl dJ5_append_cf1ce_30 ⟨Nat.le_of_ble_eq_true rfl, Nat.le_of_ble_eq_true rfl⟩ (Nat.le_of_ble_eq_true rfl) (⟨Nat.le_of_ble_eq_true rfl, Nat.le_of_ble_eq_true rfl⟩) (fun v6 S1 H locs hp w => ?_)
  obtain ⟨rfl, f5, hf5, rfl⟩ := hp
  have hBU3 := hBU3.wr hf5
  have hKf : KB S (sA U3 42 kU3 f5) i k := (hKU3.sA (bV_ge hkU3))
  refine lv_aload_n hx hb dJ5_append_cf1ce_33 rfl (lv_at hl 1 rfl) ?_
  refine lv_dup hx hb dJ5_append_cf1ce_34 rfl ?_
  refine rE0 ((rfl).trans ((rfl).trans ((hKU3.G (t := 18) (i := i) rfl).trans (rfl))).symm) ?_
  refine g_18_3 (S := (sA U3 42 kU3 f5)) (x := (nI n)) X w hBU3.hv wF_J5_79 (hBU3.hn) dJ5_append_cf1ce_35 ?_
  refine lv_iload_n hx hb dJ5_append_cf1ce_38 rfl (lv_at hl 0 rfl) ?_
  refine lv_iadd hx hb dJ5_append_cf1ce_39 ?_
  refine lv_topi (fun z7 ez7 => ?_)
  obtain rfl : z7 = nI (n + w0) := ez7.trans (nI_add n w0)
  refine rE1 ((rfl).trans ((rfl).trans ((hKU3.G (t := 18) (i := i) rfl).trans (rfl))).symm) ?_
  refine p_18_3 (S := (sA U3 42 kU3 f5)) (x := (nI (n + w0))) X w hBU3.hv wF_J5_79 dJ5_append_cf1ce_40 (fun H locs w => ?_)
  refine lv_aload_n hx hb dJ5_append_cf1ce_43 rfl (lv_at hl 1 rfl) ?_
  refine rE0 (hKU3.G (t := 18) (i := i) rfl).symm ?_
  exact rA (v := some (gG (sI (sA U3 42 kU3 f5) 291 i (nI (n + w0))) 18 i)) X w rfl (Or.inl ⟨_, rfl⟩) dJ5_append_cf1ce_44 (Nat.le_of_ble_eq_true rfl) (Nat.le_of_ble_eq_true rfl) ⟨rfl, _, _, hBU3.st hqU3, hkU3, hKf.sI bI_s⟩

theorem dJ4_append_15ec4_0 : decode cJ4_append_15ec4 0 = .ok (.aload_n 0, 1) := by decide +kernel
theorem dJ4_append_15ec4_1 : decode cJ4_append_15ec4 1 = .ok (.aload_n 1, 1) := by decide +kernel
theorem dJ4_append_15ec4_2 : decode cJ4_append_15ec4 2 = .ok (.invokespecial 29, 3) := by decide +kernel
theorem dJ4_append_15ec4_5 : decode cJ4_append_15ec4 5 = .ok (.pop, 1) := by decide +kernel
theorem dJ4_append_15ec4_6 : decode cJ4_append_15ec4 6 = .ok (.aload_n 0, 1) := by decide +kernel
theorem dJ4_append_15ec4_7 : decode cJ4_append_15ec4 7 = .ok (.areturn, 1) := by decide +kernel
abbrev rm_m_J4_append_15ec4 : Room := { frames := 5, cells := 1, slots := 200, locals := 113 }
set_option maxHeartbeats 4000000 in
set_option maxRecDepth 100000 in
theorem m_J4_append_15ec4 {s0 : State} {l : Launch} {D : va_G} {cy : Nat → ClassId} (G : Gl s0 l D cy) (S : HS) (i k n mm a w0 : Nat) (hB : SB S i k n mm) (hS : SA s0 S k a w0) (hn9 : n + w0 ≤ 100) : Ctr s0 l D cy yJ4_append_15ec4 cJ4_append_15ec4 2 (some (.object "java/lang/StringBuilder")) rm_m_J4_append_15ec4 S [.ref (gG S 18 i), .ref a] (fun v S' => some (.ref (gG S' 18 i)) = v ∧ ∃ k' m', SB S' i k' (n + w0) m' ∧ k ≤ k' ∧ KB S S' i k) := by
  refine pro "java/lang/StringBuilder" G rfl rfl (Nat.le_of_ble_eq_true rfl) (fun p e s m below meth c ls X w hnm hl => ?_)
  have hx := X.1
  have hb := X.2.1
  have hown := X.2.2.2.1
  have hts := X.2.2.2.2.1
  have hl : lv_has ls 2 [(0, .ref (gG S 18 i)), (1, .ref a)] := hl
  have hm200 := hB.h2
  refine lv_aload_n hx hb dJ4_append_15ec4_0 rfl (lv_at hl 0 rfl) ?_
  refine lv_aload_n hx hb dJ4_append_15ec4_1 rfl (lv_at hl 1 rfl) ?_
  refine cSU (S := S) (t := 18) (nA := 1) (As := [.ref a]) (rest := []) X w hl hB.hv (m_J5_append_cf1ce G S i k n mm a w0 hB hS (by omega)) wY_J5_append_cf1ce wM_J4_29 wIn_J5_append_cf1ce wZ_2094 wZ_1274 (by decide) wI_J5 (by decide) rfl (by decide +kernel) rfl rfl dJ4_append_15ec4_2 ⟨Nat.le_of_ble_eq_true rfl, Nat.le_of_ble_eq_true rfl⟩ (Nat.le_of_ble_eq_true rfl) (⟨Nat.le_of_ble_eq_true rfl, Nat.le_of_ble_eq_true rfl⟩) (fun v2 U1 H locs hp w => ?_)
  obtain ⟨rfl, kU1, mU1, hBU1, hkU1, hKU1⟩ := hp
  have hS := hS.keep hKU1 hkU1
  refine lv_pop hx hb dJ4_append_15ec4_5 rfl ?_
  refine lv_aload_n hx hb dJ4_append_15ec4_6 rfl (lv_at hl 0 rfl) ?_
  refine rE0 (hKU1.G (t := 18) (i := i) rfl).symm ?_
  exact rA (v := some (gG U1 18 i)) X w rfl (Or.inl ⟨_, rfl⟩) dJ4_append_15ec4_7 (Nat.le_of_ble_eq_true rfl) (Nat.le_of_ble_eq_true rfl) ⟨rfl, _, _, hBU1, hkU1, hKU1⟩

