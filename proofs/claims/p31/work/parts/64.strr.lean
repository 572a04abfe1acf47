theorem SB.mk0 {S : HS} {i k q : Nat} (hV : vV S 18 i) (h1 : mI S 291 i = 0) (hz : ∀ j, k ≤ j → ¬ vV S 42 j) : SB (sI (sR (sArr S 42 k q 16) 288 i (some (gG (sArr S 42 k q 16) 42 k))) 289 i 0) i k 0 16 :=
  ⟨Or.inl hV, Or.inr ⟨rfl, rfl⟩, up2_s _ _ _ _, up2_s _ _ _ _, (sI_n (fun z => absurd z.1 (by decide))).trans h1, up2_s _ _ _ _, by decide, by decide, by rw [show mA (sI (sR (sArr S 42 k q 16) 288 i (some (gG (sArr S 42 k q 16) 42 k))) 289 i 0) 42 k = (fun _ => 0) from up2_s _ _ _ _]; exact sb_fit0, fun j hj v => v.elim (hz j (by omega)) (fun z => by omega)⟩
theorem KB.mk0 {S : HS} {i k q : Nat} : KB S (sI (sR (sArr S 42 k q 16) 288 i (some (gG (sArr S 42 k q 16) 42 k))) 289 i 0) i k := ((Kq.rf.arr bV_s).sR bR_s).sI bI_c
theorem nI_min2 {a b : Nat} (h : a ≤ b) (hb : b < 2 ^ 31) : (if nI a < nI b then nI a else nI b) = nI a := by
  rcases Nat.lt_or_ge a b with z | z
  · exact if_pos (nI_lt z hb)
  · rw [if_neg (nI_nlt z (by omega)), Nat.le_antisymm h z]
theorem nI_s0 (a : Int32) : a - 0 = a := Int32.sub_zero a

theorem dJ5_init_d00df_0 : decode cJ5_init_d00df 0 = .ok (.aload_n 0, 1) := by decide +kernel
theorem dJ5_init_d00df_1 : decode cJ5_init_d00df 1 = .ok (.invokespecial 3, 3) := by decide +kernel
theorem dJ5_init_d00df_4 : decode cJ5_init_d00df 4 = .ok (.getstatic 18, 3) := by decide +kernel
theorem dJ5_init_d00df_7 : decode cJ5_init_d00df 7 = .ok (.ifCond .eq 18, 3) := by decide +kernel
theorem dJ5_init_d00df_10 : decode cJ5_init_d00df 10 = .ok (.aload_n 0, 1) := by decide +kernel
theorem dJ5_init_d00df_11 : decode cJ5_init_d00df 11 = .ok (.iload_n 1, 1) := by decide +kernel
theorem dJ5_init_d00df_12 : decode cJ5_init_d00df 12 = .ok (.newarray .byte, 2) := by decide +kernel
theorem dJ5_init_d00df_14 : decode cJ5_init_d00df 14 = .ok (.putfield 15, 3) := by decide +kernel
theorem dJ5_init_d00df_17 : decode cJ5_init_d00df 17 = .ok (.aload_n 0, 1) := by decide +kernel
theorem dJ5_init_d00df_18 : decode cJ5_init_d00df 18 = .ok (.iconst 0, 1) := by decide +kernel
theorem dJ5_init_d00df_19 : decode cJ5_init_d00df 19 = .ok (.putfield 22, 3) := by decide +kernel
theorem dJ5_init_d00df_22 : decode cJ5_init_d00df 22 = .ok (.goto 16, 3) := by decide +kernel
theorem dJ5_init_d00df_38 : decode cJ5_init_d00df 38 = .ok (.return_, 1) := by decide +kernel
abbrev rm_m_J5_init_d00df : Room := { frames := 1, cells := 1, slots := 16, locals := 20 }
set_option maxHeartbeats 4000000 in
set_option maxRecDepth 100000 in
theorem m_J5_init_d00df {s0 : State} {l : Launch} {D : va_G} {cy : Nat → ClassId} (G : Gl s0 l D cy) (S : HS) (i k : Nat) (hV : vV S 18 i) (h1 : mI S 291 i = 0) (hz : ∀ j, k ≤ j → ¬ vV S 42 j) : Ctr s0 l D cy yJ5_init_d00df cJ5_init_d00df 2 none rm_m_J5_init_d00df S [.ref (gG S 18 i), .int 16] (fun v S' => none = v ∧ SB S' i k 0 16 ∧ KB S S' i k) := by
  refine pro "java/lang/AbstractStringBuilder" G rfl rfl (Nat.le_of_ble_eq_true rfl) (fun p e s m below meth c ls X w hnm hl => ?_)
  have hx := X.1
  have hb := X.2.1
  have hown := X.2.2.2.1
  have hts := X.2.2.2.2.1
  have hin2 : meth.name = "<init>" := hnm
  have hl : lv_has ls 2 [(0, .ref (gG S 18 i)), (1, .int 16)] := hl
  refine lv_aload_n hx hb dJ5_init_d00df_0 rfl (lv_at hl 0 rfl) ?_
  refine W.objInit hx hb hown (hts _ wM_J5_3) (hts _ wIn_O_init) (hts _ wY_O_init) rfl (X.2.2.1.symm ▸ hl.1) rfl dJ5_init_d00df_1 (Nat.le_of_ble_eq_true rfl) (Nat.le_of_ble_eq_true rfl) ?_
  refine W.eq (g2 := F0 m 4 ls []) rfl ?_
  refine va_gets hx hb (X_cs G X.2.2.2.2.2.2.2.2.1) w.2 hown (hts _ wF_J5_18) (fun _ h => h) dJ5_init_d00df_4 ?_
  refine lv_if_eq (tgt := 25) hx hb dJ5_init_d00df_7 (by decide) (fun hc1 => ?_) (fun hc1 => ?_)
  · exact absurd hc1 (by decide)
  · refine lv_aload_n hx hb dJ5_init_d00df_10 rfl (lv_at hl 0 rfl) ?_
    refine lv_iload_n hx hb dJ5_init_d00df_11 rfl (lv_at hl 1 rfl) ?_
    refine nwI (S := S) (atype := .byte) (ty := .byte) (n := 16) X w 42 k (hz k (Nat.le_refl k)) (by decide) rfl rfl (Or.inr (Or.inr ⟨rfl, rfl⟩)) wA_byte rfl (by decide) dJ5_init_d00df_12 (Nat.le_of_ble_eq_true rfl) (Nat.le_of_ble_eq_true rfl) (fun q9 S2 H hS2 w => ?_)
    subst hS2
    refine rE1 ((rfl).trans (((show gG (sArr S 42 k q9 16) 18 i = gG S 18 i from gArr_n (fun z => by omega))).trans (rfl)).symm) ?_
    refine p_18_0 (S := (sArr S 42 k q9 16)) (x := (some (gG (sArr S 42 k q9 16) 42 k))) X w (Or.inl hV) wF_J5_15 dJ5_init_d00df_14 (fun H locs w => ?_)
    refine lv_aload_n hx hb dJ5_init_d00df_17 rfl (lv_at hl 0 rfl) ?_
    refine lv_iconst (v := 0) hx hb dJ5_init_d00df_18 (by decide) ?_
    refine rE1 ((rfl).trans ((rfl).trans (((show gG (sArr S 42 k q9 16) 18 i = gG S 18 i from gArr_n (fun z => by omega))).trans (rfl))).symm) ?_
    refine p_18_1 (S := (sR (sArr S 42 k q9 16) 288 i (some (gG (sArr S 42 k q9 16) 42 k)))) (x := 0) X w (Or.inl hV) wF_J5_22 (rfl) dJ5_init_d00df_19 (fun H locs w => ?_)
    refine lv_goto (tgt := 38) hx hb dJ5_init_d00df_22 (by decide) ?_
    exact rV X w rfl dJ5_init_d00df_38 (Nat.le_refl _) (Nat.le_refl _) (⟨rfl, SB.mk0 hV h1 hz, KB.mk0⟩)

theorem dJ4_init_da8c8_0 : decode cJ4_init_da8c8 0 = .ok (.aload_n 0, 1) := by decide +kernel
theorem dJ4_init_da8c8_1 : decode cJ4_init_da8c8 1 = .ok (.bipush 16, 2) := by decide +kernel
theorem dJ4_init_da8c8_3 : decode cJ4_init_da8c8 3 = .ok (.invokespecial 1, 3) := by decide +kernel
theorem dJ4_init_da8c8_6 : decode cJ4_init_da8c8 6 = .ok (.return_, 1) := by decide +kernel
abbrev rm_m_J4_init_da8c8 : Room := { frames := 2, cells := 1, slots := 16, locals := 41 }
set_option maxHeartbeats 4000000 in
set_option maxRecDepth 100000 in
theorem m_J4_init_da8c8 {s0 : State} {l : Launch} {D : va_G} {cy : Nat → ClassId} (G : Gl s0 l D cy) (S : HS) (i k : Nat) (hV : vV S 18 i) (h1 : mI S 291 i = 0) (hz : ∀ j, k ≤ j → ¬ vV S 42 j) : Ctr s0 l D cy yJ4_init_da8c8 cJ4_init_da8c8 1 none rm_m_J4_init_da8c8 S [.ref (gG S 18 i)] (fun v S' => none = v ∧ SB S' i k 0 16 ∧ KB S S' i k) := by
  refine pro "java/lang/StringBuilder" G rfl rfl (Nat.le_of_ble_eq_true rfl) (fun p e s m below meth c ls X w hnm hl => ?_)
  have hx := X.1
  have hb := X.2.1
  have hown := X.2.2.2.1
  have hts := X.2.2.2.2.1
  have hin2 : meth.name = "<init>" := hnm
  have hl : lv_has ls 1 [(0, .ref (gG S 18 i))] := hl
  refine lv_aload_n hx hb dJ4_init_da8c8_0 rfl (lv_at hl 0 rfl) ?_
  refine lv_bipush (v := 16) hx hb dJ4_init_da8c8_1 (by decide) ?_
  refine cI (S := S) (nA := 1) (As := [.int 16]) (rest := []) X w hl (m_J5_init_d00df G S i k hV h1 hz) wY_J5_init_d00df wM_J4_1 wIn_J5_init_d00df wI_J5 rfl (by decide +kernel) rfl rfl dJ4_init_da8c8_3 ⟨by decide, by decide⟩ (Nat.le_of_ble_eq_true rfl) (⟨Nat.le_of_ble_eq_true rfl, Nat.le_of_ble_eq_true rfl⟩) (fun v2 U1 H locs hp w => ?_)
  obtain ⟨rfl, hB, hKb⟩ := hp
  exact rV X w rfl dJ4_init_da8c8_6 (Nat.le_of_ble_eq_true rfl) (Nat.le_of_ble_eq_true rfl) (⟨rfl, hB, hKb⟩)

theorem dJ7_checkLength_df160_0 : decode cJ7_checkLength_df160 0 = .ok (.iload_n 1, 1) := by decide +kernel
theorem dJ7_checkLength_df160_1 : decode cJ7_checkLength_df160 1 = .ok (.iload_n 0, 1) := by decide +kernel
theorem dJ7_checkLength_df160_2 : decode cJ7_checkLength_df160 2 = .ok (.if_icmp .ge 35, 3) := by decide +kernel
theorem dJ7_checkLength_df160_37 : decode cJ7_checkLength_df160 37 = .ok (.return_, 1) := by decide +kernel
abbrev rm_m_J7_checkLength_df160 : Room := { frames := 0, cells := 0, slots := 0, locals := 0 }
set_option maxHeartbeats 4000000 in
set_option maxRecDepth 100000 in
theorem m_J7_checkLength_df160 {s0 : State} {l : Launch} {D : va_G} {cy : Nat → ClassId} (G : Gl s0 l D cy) (S : HS) (q : Nat) (hq : q < 1000) : Ctr s0 l D cy yJ7_checkLength_df160 cJ7_checkLength_df160 2 none rm_m_J7_checkLength_df160 S [.int 0, .int (nI q)] (PU S none) := by
  refine pro "java/util/Arrays" G rfl rfl (Nat.le_of_ble_eq_true rfl) (fun p e s m below meth c ls X w hnm hl => ?_)
  have hx := X.1
  have hb := X.2.1
  have hown := X.2.2.2.1
  have hts := X.2.2.2.2.1
  have hl : lv_has ls 2 [(0, .int 0), (1, .int (nI q))] := hl
  refine lv_iload_n hx hb dJ7_checkLength_df160_0 rfl (lv_at hl 1 rfl) ?_
  refine lv_iload_n hx hb dJ7_checkLength_df160_1 rfl (lv_at hl 0 rfl) ?_
  refine lv_icmp_ge (tgt := 37) hx hb dJ7_checkLength_df160_2 (by decide) (fun hq2 => ?_) (fun hq2 => ?_)
  · exact rV X w rfl dJ7_checkLength_df160_37 (by decide) (by decide) (⟨rfl, rfl⟩)
  · exact absurd (Int32.not_lt.mp (show ¬ nI q < 0 from nI_pos (by omega))) hq2

theorem dJ7_copyOfRangeByte_39247_0 : decode cJ7_copyOfRangeByte_39247 0 = .ok (.iload_n 1, 1) := by decide +kernel
theorem dJ7_copyOfRangeByte_39247_1 : decode cJ7_copyOfRangeByte_39247 1 = .ok (.iload_n 2, 1) := by decide +kernel
theorem dJ7_copyOfRangeByte_39247_2 : decode cJ7_copyOfRangeByte_39247 2 = .ok (.invokestatic 343, 3) := by decide +kernel
theorem dJ7_copyOfRangeByte_39247_5 : decode cJ7_copyOfRangeByte_39247 5 = .ok (.iload_n 2, 1) := by decide +kernel
theorem dJ7_copyOfRangeByte_39247_6 : decode cJ7_copyOfRangeByte_39247 6 = .ok (.iload_n 1, 1) := by decide +kernel
theorem dJ7_copyOfRangeByte_39247_7 : decode cJ7_copyOfRangeByte_39247 7 = .ok (.isub, 1) := by decide +kernel
theorem dJ7_copyOfRangeByte_39247_8 : decode cJ7_copyOfRangeByte_39247 8 = .ok (.istore_n 3, 1) := by decide +kernel
theorem dJ7_copyOfRangeByte_39247_9 : decode cJ7_copyOfRangeByte_39247 9 = .ok (.iload_n 3, 1) := by decide +kernel
theorem dJ7_copyOfRangeByte_39247_10 : decode cJ7_copyOfRangeByte_39247 10 = .ok (.newarray .byte, 2) := by decide +kernel
theorem dJ7_copyOfRangeByte_39247_12 : decode cJ7_copyOfRangeByte_39247 12 = .ok (.astore 4, 2) := by decide +kernel
theorem dJ7_copyOfRangeByte_39247_14 : decode cJ7_copyOfRangeByte_39247 14 = .ok (.aload_n 0, 1) := by decide +kernel
theorem dJ7_copyOfRangeByte_39247_15 : decode cJ7_copyOfRangeByte_39247 15 = .ok (.iload_n 1, 1) := by decide +kernel
theorem dJ7_copyOfRangeByte_39247_16 : decode cJ7_copyOfRangeByte_39247 16 = .ok (.aload 4, 2) := by decide +kernel
theorem dJ7_copyOfRangeByte_39247_18 : decode cJ7_copyOfRangeByte_39247 18 = .ok (.iconst 0, 1) := by decide +kernel
theorem dJ7_copyOfRangeByte_39247_19 : decode cJ7_copyOfRangeByte_39247 19 = .ok (.aload_n 0, 1) := by decide +kernel
theorem dJ7_copyOfRangeByte_39247_20 : decode cJ7_copyOfRangeByte_39247 20 = .ok (.arraylength, 1) := by decide +kernel
theorem dJ7_copyOfRangeByte_39247_21 : decode cJ7_copyOfRangeByte_39247 21 = .ok (.iload_n 1, 1) := by decide +kernel
theorem dJ7_copyOfRangeByte_39247_22 : decode cJ7_copyOfRangeByte_39247 22 = .ok (.isub, 1) := by decide +kernel
theorem dJ7_copyOfRangeByte_39247_23 : decode cJ7_copyOfRangeByte_39247 23 = .ok (.iload_n 3, 1) := by decide +kernel
theorem dJ7_copyOfRangeByte_39247_24 : decode cJ7_copyOfRangeByte_39247 24 = .ok (.invokestatic 304, 3) := by decide +kernel
theorem dJ7_copyOfRangeByte_39247_27 : decode cJ7_copyOfRangeByte_39247 27 = .ok (.invokestatic 150, 3) := by decide +kernel
theorem dJ7_copyOfRangeByte_39247_30 : decode cJ7_copyOfRangeByte_39247 30 = .ok (.aload 4, 2) := by decide +kernel
theorem dJ7_copyOfRangeByte_39247_32 : decode cJ7_copyOfRangeByte_39247 32 = .ok (.areturn, 1) := by decide +kernel
abbrev rm_m_J7_copyOfRangeByte_39247 : Room := { frames := 1, cells := 1, slots := 200, locals := 43 }
set_option maxHeartbeats 4000000 in
set_option maxRecDepth 100000 in
theorem m_J7_copyOfRangeByte_39247 {s0 : State} {l : Launch} {D : va_G} {cy : Nat → ClassId} (G : Gl s0 l D cy) (S : HS) (k n mm : Nat) (hV : vV S 42 k) (hf : sb_Fit (mA S 42 k)) (hN : mN S 42 k = mm) (hz : ¬ vV S 42 (k + 1)) (hn : n ≤ mm) (hm : mm ≤ 200) : Ctr s0 l D cy yJ7_copyOfRangeByte_39247 cJ7_copyOfRangeByte_39247 5 (some (.array .byte)) rm_m_J7_copyOfRangeByte_39247 S [.ref (gG S 42 k), .int 0, .int (nI n)] (fun v S' => some (.ref (gG S' 42 (k + 1))) = v ∧ ∃ q f, sb_Fit f ∧ S' = sA (sArr S 42 (k + 1) q n) 42 (k + 1) f) := by
  refine pro "java/util/Arrays" G rfl rfl (Nat.le_of_ble_eq_true rfl) (fun p e s m below meth c ls X w hnm hl => ?_)
  have hx := X.1
  have hb := X.2.1
  have hown := X.2.2.2.1
  have hts := X.2.2.2.2.1
  have hl : lv_has ls 5 [(0, .ref (gG S 42 k)), (1, .int 0), (2, .int (nI n))] := hl
  refine lv_iload_n hx hb dJ7_copyOfRangeByte_39247_0 rfl (lv_at hl 1 rfl) ?_
  refine lv_iload_n hx hb dJ7_copyOfRangeByte_39247_1 rfl (lv_at hl 2 rfl) ?_
  refine cS (S := S) (nA := 2) (As := [.int 0, .int (nI n)]) (rest := []) X w hl (m_J7_checkLength_df160 G S n (by omega)) wY_J7_checkLength_df160 wM_J7_343 wSt_J7_checkLength_df160 wI_J7 (by decide +kernel) rfl rfl dJ7_copyOfRangeByte_39247_2 ⟨by decide, by decide⟩ (Nat.le_of_ble_eq_true rfl) (⟨Nat.le_of_ble_eq_true rfl, Nat.le_of_ble_eq_true rfl⟩) (fun v1 S1 H locs hp w => ?_)
  obtain ⟨rfl, rfl⟩ := hp
  refine lv_iload_n hx hb dJ7_copyOfRangeByte_39247_5 rfl (lv_at hl 2 rfl) ?_
  refine lv_iload_n hx hb dJ7_copyOfRangeByte_39247_6 rfl (lv_at hl 1 rfl) ?_
  refine lv_isub hx hb dJ7_copyOfRangeByte_39247_7 ?_
  refine lv_topi (fun z2 ez2 => ?_)
  obtain rfl : z2 = nI n := ez2.trans (nI_s0 _)
  refine lv_istore_n (lv' := [(3, .int (nI n)), (0, .ref (gG S 42 k)), (1, .int 0), (2, .int (nI n))]) hx hb dJ7_copyOfRangeByte_39247_8 rfl hl (by decide) rfl (fun ls hl => ?_)
  refine lv_iload_n hx hb dJ7_copyOfRangeByte_39247_9 rfl (lv_at hl 0 rfl) ?_
  refine nwI (S := S) (atype := .byte) (ty := .byte) (n := n) X w 42 (k + 1) (hz) (by decide) rfl rfl (Or.inr (Or.inr ⟨rfl, rfl⟩)) wA_byte rfl (by omega) dJ7_copyOfRangeByte_39247_10 (Nat.le_of_ble_eq_true rfl) (show 0 + n ≤ 200 by omega) (fun q7 S2 H hS2 w => ?_)
  subst hS2
  refine lv_astore (lv' := [(4, .ref (gG (sArr S 42 (k + 1) q7 n) 42 (k + 1))), (3, .int (nI n)), (0, .ref (gG S 42 k)), (1, .int 0), (2, .int (nI n))]) hx hb dJ7_copyOfRangeByte_39247_12 hl (by decide) rfl (fun ls hl => ?_)
  refine lv_aload_n hx hb dJ7_copyOfRangeByte_39247_14 rfl (lv_at hl 2 rfl) ?_
  refine lv_iload_n hx hb dJ7_copyOfRangeByte_39247_15 rfl (lv_at hl 3 rfl) ?_
  refine lv_aload hx hb dJ7_copyOfRangeByte_39247_16 (lv_at hl 0 rfl) ?_
  refine lv_iconst (v := 0) hx hb dJ7_copyOfRangeByte_39247_18 (by decide) ?_
  refine lv_aload_n hx hb dJ7_copyOfRangeByte_39247_19 rfl (lv_at hl 2 rfl) ?_
  refine rE0 ((rfl).trans (((show gG (sArr S 42 (k + 1) q7 n) 42 k = gG S 42 k from gArr_n (fun z => by omega))).trans (rfl)).symm) ?_
  refine aLen (S := (sArr S 42 (k + 1) q7 n)) (t := 42) (n := mm) X w (Or.inl hV) (by decide) rfl ((up2_n (fun z => by omega)).trans hN) dJ7_copyOfRangeByte_39247_20 ?_
  refine lv_iload_n hx hb dJ7_copyOfRangeByte_39247_21 rfl (lv_at hl 3 rfl) ?_
  refine lv_isub hx hb dJ7_copyOfRangeByte_39247_22 ?_
  refine lv_topi (fun z3 ez3 => ?_)
  obtain rfl : z3 = nI mm := ez3.trans (nI_s0 _)
  refine lv_iload_n hx hb dJ7_copyOfRangeByte_39247_23 rfl (lv_at hl 1 rfl) ?_
  refine va_mmin hx hb (X.2.2.1.trans hl.1.symm) hown (hts _ wM_J7_304) (hts _ wSt_J9_min_7cf53) (hts _ wI_J9) (hts _ wY_J9_min_7cf53) (by decide) (Nat.le_of_ble_eq_true rfl) (Nat.le_of_ble_eq_true rfl) (show 0 + n ≤ 200 by omega) dJ7_copyOfRangeByte_39247_24 ?_
  refine lv_topi (fun z4 ez4 => ?_)
  obtain rfl : z4 = nI n := ez4.trans (nI_min2 hn (by omega))
  refine rE4 ((rfl).trans (((show gG (sArr S 42 (k + 1) q7 n) 42 k = gG S 42 k from gArr_n (fun z => by omega))).trans (rfl)).symm) ?_
  refine cpBF (S := (sArr S 42 (k + 1) q7 n)) (i := k) (i1 := (k + 1)) (u := n) X w hl.1 (Or.inl hV) (Or.inr ⟨rfl, rfl⟩) (by rw [show mA (sArr S 42 (k + 1) q7 n) 42 k = mA S 42 k from up2_n (fun z => by omega)]; exact hf) (by rw [show mA (sArr S 42 (k + 1) q7 n) 42 (k + 1) = (fun _ => 0) from up2_s _ _ _ _]; exact sb_fit0) wM_J7_150 (by omega) (by rw [show mN (sArr S 42 (k + 1) q7 n) 42 k = mm from (up2_n (fun z => by omega)).trans hN]; omega) (by rw [show mN (sArr S 42 (k + 1) q7 n) 42 (k + 1) = n from up2_s _ _ _ _]; omega) (Nat.le_of_ble_eq_true rfl) (Nat.le_of_ble_eq_true rfl) dJ7_copyOfRangeByte_39247_27 (fun f H locs hf2 w => ?_)
  refine lv_aload hx hb dJ7_copyOfRangeByte_39247_30 (lv_at hl 0 rfl) ?_
  refine rE0 ((rfl).trans ((rfl).trans (rfl)).symm) ?_
  exact rA (v := (some (gG (sA (sArr S 42 (k + 1) q7 n) 42 (k + 1) f) 42 (k + 1)))) X w rfl (Or.inr ⟨_, rfl⟩) dJ7_copyOfRangeByte_39247_32 (Nat.le_refl _) (show 0 + n ≤ 200 by omega) (⟨rfl, _, _, hf2, rfl⟩)

theorem dJ7_copyOfRange_39247_0 : decode cJ7_copyOfRange_39247 0 = .ok (.iload_n 1, 1) := by decide +kernel
theorem dJ7_copyOfRange_39247_1 : decode cJ7_copyOfRange_39247 1 = .ok (.ifCond .ne 9, 3) := by decide +kernel
theorem dJ7_copyOfRange_39247_4 : decode cJ7_copyOfRange_39247 4 = .ok (.iload_n 2, 1) := by decide +kernel
theorem dJ7_copyOfRange_39247_5 : decode cJ7_copyOfRange_39247 5 = .ok (.aload_n 0, 1) := by decide +kernel
theorem dJ7_copyOfRange_39247_6 : decode cJ7_copyOfRange_39247 6 = .ok (.arraylength, 1) := by decide +kernel
theorem dJ7_copyOfRange_39247_7 : decode cJ7_copyOfRange_39247 7 = .ok (.if_icmp .eq 10, 3) := by decide +kernel
theorem dJ7_copyOfRange_39247_10 : decode cJ7_copyOfRange_39247 10 = .ok (.aload_n 0, 1) := by decide +kernel
theorem dJ7_copyOfRange_39247_11 : decode cJ7_copyOfRange_39247 11 = .ok (.iload_n 1, 1) := by decide +kernel
theorem dJ7_copyOfRange_39247_12 : decode cJ7_copyOfRange_39247 12 = .ok (.iload_n 2, 1) := by decide +kernel
theorem dJ7_copyOfRange_39247_13 : decode cJ7_copyOfRange_39247 13 = .ok (.invokestatic 339, 3) := by decide +kernel
theorem dJ7_copyOfRange_39247_16 : decode cJ7_copyOfRange_39247 16 = .ok (.areturn, 1) := by decide +kernel
theorem dJ7_copyOfRange_39247_17 : decode cJ7_copyOfRange_39247 17 = .ok (.aload_n 0, 1) := by decide +kernel
theorem dJ7_copyOfRange_39247_18 : decode cJ7_copyOfRange_39247 18 = .ok (.invokevirtual 310, 3) := by decide +kernel
theorem dJ7_copyOfRange_39247_21 : decode cJ7_copyOfRange_39247 21 = .ok (.checkcast 311, 3) := by decide +kernel
theorem dJ7_copyOfRange_39247_24 : decode cJ7_copyOfRange_39247 24 = .ok (.areturn, 1) := by decide +kernel
abbrev rm_m_J7_copyOfRange_39247 : Room := { frames := 2, cells := 1, slots := 200, locals := 67 }
set_option maxHeartbeats 4000000 in
set_option maxRecDepth 100000 in
theorem m_J7_copyOfRange_39247 {s0 : State} {l : Launch} {D : va_G} {cy : Nat → ClassId} (G : Gl s0 l D cy) (S : HS) (k n mm : Nat) (hV : vV S 42 k) (hf : sb_Fit (mA S 42 k)) (hN : mN S 42 k = mm) (hz : ¬ vV S 42 (k + 1)) (hn : n ≤ mm) (hm : mm ≤ 200) : Ctr s0 l D cy yJ7_copyOfRange_39247 cJ7_copyOfRange_39247 3 (some (.array .byte)) rm_m_J7_copyOfRange_39247 S [.ref (gG S 42 k), .int 0, .int (nI n)] (fun v S' => some (.ref (gG S' 42 (k + 1))) = v ∧ ∃ q f, sb_Fit f ∧ S' = sA (sArr S 42 (k + 1) q n) 42 (k + 1) f) := by
  refine pro "java/util/Arrays" G rfl rfl (Nat.le_of_ble_eq_true rfl) (fun p e s m below meth c ls X w hnm hl => ?_)
  have hx := X.1
  have hb := X.2.1
  have hown := X.2.2.2.1
  have hts := X.2.2.2.2.1
  have hl : lv_has ls 3 [(0, .ref (gG S 42 k)), (1, .int 0), (2, .int (nI n))] := hl
  refine lv_iload_n hx hb dJ7_copyOfRange_39247_0 rfl (lv_at hl 1 rfl) ?_
  refine lv_if_ne (tgt := 10) hx hb dJ7_copyOfRange_39247_1 (by decide) (fun hc1 => ?_) (fun hc1 => ?_)
  · exact absurd hc1 (by decide)
  · refine lv_iload_n hx hb dJ7_copyOfRange_39247_4 rfl (lv_at hl 2 rfl) ?_
    refine lv_aload_n hx hb dJ7_copyOfRange_39247_5 rfl (lv_at hl 0 rfl) ?_
    refine aLen (S := S) (t := 42) (n := mm) X w hV (by decide) rfl (hN) dJ7_copyOfRange_39247_6 ?_
    refine lv_icmp_eq (tgt := 17) hx hb dJ7_copyOfRange_39247_7 (by decide) (fun hq7 => ?_) (fun hq7 => ?_)
    · have hq7 : n = mm := (nI_eq (by omega) (by omega)).mp hq7
      subst hq7
      refine lv_aload_n hx hb dJ7_copyOfRange_39247_17 rfl (lv_at hl 0 rfl) ?_
      refine clB (j := (k + 1)) X w hl.1 hV hf hz wM_J7_310 (Nat.le_of_ble_eq_true rfl) (Nat.le_of_ble_eq_true rfl) (Nat.le_of_ble_eq_true rfl) (by rw [hN]; show 0 + n ≤ 200; omega) dJ7_copyOfRange_39247_18 (fun q8 H w => ?_)
      refine ckB (i := (k + 1)) X w (Or.inr ⟨rfl, rfl⟩) wC_J7_311 dJ7_copyOfRange_39247_21 ?_
      rw [hN] at w ⊢
      exact rA (v := some (gG (sA (sArr S 42 (k + 1) q8 n) 42 (k + 1) (mA S 42 k)) 42 (k + 1))) X w rfl (Or.inr ⟨_, rfl⟩) dJ7_copyOfRange_39247_24 (Nat.le_refl _) (show 0 + n ≤ 200 by omega) ⟨rfl, _, _, hf, rfl⟩
    · refine lv_aload_n hx hb dJ7_copyOfRange_39247_10 rfl (lv_at hl 0 rfl) ?_
      refine lv_iload_n hx hb dJ7_copyOfRange_39247_11 rfl (lv_at hl 1 rfl) ?_
      refine lv_iload_n hx hb dJ7_copyOfRange_39247_12 rfl (lv_at hl 2 rfl) ?_
      refine cS (S := S) (nA := 3) (As := [.ref (gG S 42 k), .int 0, .int (nI n)]) (rest := []) X w hl (m_J7_copyOfRangeByte_39247 G S k n mm hV hf hN hz hn hm) wY_J7_copyOfRangeByte_39247 wM_J7_339 wSt_J7_copyOfRangeByte_39247 wI_J7 (by decide +kernel) rfl rfl dJ7_copyOfRange_39247_13 ⟨by decide, by decide⟩ (Nat.le_of_ble_eq_true rfl) (⟨Nat.le_of_ble_eq_true rfl, Nat.le_of_ble_eq_true rfl⟩) (fun v2 S1 H locs hp w => ?_)
      obtain ⟨rfl, q8, f8, hf8, rfl⟩ := hp
      exact rA (v := some (gG (sA (sArr S 42 (k + 1) q8 n) 42 (k + 1) f8) 42 (k + 1))) X w rfl (Or.inr ⟨_, rfl⟩) dJ7_copyOfRange_39247_16 (Nat.le_of_ble_eq_true rfl) (Nat.le_of_ble_eq_true rfl) ⟨rfl, _, _, hf8, rfl⟩

