/-- the rows that the search of the shift writes on: qualities, sums, pairs -/
def scr (S : HS) (a b c : Nat → Int32) : HS := sA (sA (sA S 32 2 a) 32 3 b) 32 4 c
theorem up2_up2 {α : Type} (f : Nat → Nat → α) (t i : Nat) (a b : α) : up2 (up2 f t i a) t i b = up2 f t i b := by
  funext x y
  by_cases h : x = t ∧ y = i
  · rw [h.1, h.2, up2_s, up2_s]
  · rw [up2_n h, up2_n h, up2_n h]
theorem up2_sw {α : Type} (f : Nat → Nat → α) {t i t' i' : Nat} (a b : α) (h : ¬ (t = t' ∧ i = i')) : up2 (up2 f t i a) t' i' b = up2 (up2 f t' i' b) t i a := by
  funext x y
  by_cases h1 : x = t ∧ y = i
  · by_cases h2 : x = t' ∧ y = i'
    · exact absurd ⟨h1.1.symm.trans h2.1, h1.2.symm.trans h2.2⟩ h
    · rw [up2_n h2, h1.1, h1.2, up2_s, up2_s]
  · by_cases h2 : x = t' ∧ y = i'
    · rw [up2_n h1, h2.1, h2.2, up2_s, up2_s]
    · rw [up2_n h1, up2_n h2, up2_n h2, up2_n h1]
theorem up2_id {α : Type} (f : Nat → Nat → α) (t i : Nat) : up2 f t i (f t i) = f := by
  funext x y
  by_cases h : x = t ∧ y = i
  · rw [h.1, h.2, up2_s]
  · rw [up2_n h]
theorem sA_sA (S : HS) (t i : Nat) (a b : Nat → Int32) : sA (sA S t i a) t i b = sA S t i b := by
  show (_, _, _, _, _, up2 (up2 _ t i a) t i b, _) = _
  rw [up2_up2]; rfl
theorem sA_sw (S : HS) {t i t' i' : Nat} (a b : Nat → Int32) (h : ¬ (t = t' ∧ i = i')) : sA (sA S t i a) t' i' b = sA (sA S t' i' b) t i a := by
  show (_, _, _, _, _, up2 (up2 _ t i a) t' i' b, _) = _
  rw [up2_sw _ a b h]; rfl
theorem sA_id (S : HS) (t i : Nat) : sA S t i (mA S t i) = S := by
  show (_, _, _, _, _, up2 _ t i (S.2.2.2.2.2.1 t i), _) = _
  rw [up2_id]
theorem scr_4 (S : HS) (a b c f : Nat → Int32) : sA (scr S a b c) 32 4 f = scr S a b f := sA_sA _ 32 4 c f
theorem scr_3 (S : HS) (a b c f : Nat → Int32) : sA (scr S a b c) 32 3 f = scr S a f c := by
  unfold scr
  rw [sA_sw _ c f (by decide), sA_sA]
theorem scr_2 (S : HS) (a b c f : Nat → Int32) : sA (scr S a b c) 32 2 f = scr S f b c := by
  unfold scr
  rw [sA_sw _ c f (by decide), sA_sw _ b f (by decide), sA_sA]
theorem scr_scr (S : HS) (a b c a' b' c' : Nat → Int32) : scr (scr S a b c) a' b' c' = scr S a' b' c' := by
  show sA (sA (sA (scr S a b c) 32 2 a') 32 3 b') 32 4 c' = _
  rw [scr_2, scr_3, scr_4]
theorem scr_id (S : HS) : scr S (mA S 32 2) (mA S 32 3) (mA S 32 4) = S := by
  unfold scr
  rw [sA_id]
  have e : mA S 32 4 = mA (sA S 32 3 (mA S 32 3)) 32 4 := by rw [sA_id]
  rw [sA_id, sA_id]
theorem CI.scr {ea : Nat} {S : HS} {ns nj nm nt nr nc : Nat} (h : CI ea S ns nj nm nt nr nc) (a b c : Nat → Int32) : CI ea (scr S a b c) ns nj nm nt nr nc := h
def PSv (S : HS) : Option Value → HS → Prop := fun v S' => none = v ∧ ∃ a b c, S' = scr S a b c
def PSi (S : HS) : Option Value → HS → Prop := fun v S' => (∃ x : Int32, some (.int x) = v) ∧ ∃ a b c, S' = scr S a b c
theorem ps_v {S : HS} {a b c : Nat → Int32} : PSv S none (scr S a b c) := ⟨rfl, a, b, c, rfl⟩
theorem ps_i {S : HS} {a b c : Nat → Int32} {x : Int32} : PSi S (some (.int x)) (scr S a b c) := ⟨⟨x, rfl⟩, a, b, c, rfl⟩
def PSl (S : HS) : Option Value → HS → Prop := fun v S' => (∃ x : Int64, some (.long x) = v) ∧ ∃ a b c, S' = scr S a b c
theorem ps_l {S : HS} {a b c : Nat → Int32} {x : Int64} : PSl S (some (.long x)) (scr S a b c) := ⟨⟨x, rfl⟩, a, b, c, rfl⟩
theorem or32 : ∀ m, m < 32 → ∀ k, k < 5 → (nI m ||| ((1 : Int32) <<< (nI k &&& 31))) = nI (m ||| 2 ^ k) ∧ (m ||| 2 ^ k) < 32 := by decide +kernel
theorem m1_ge {k : Nat} (h : ¬ (nI k + (-1)) < 0) : ∃ m, k = m + 1 := by
  cases k with
  | zero => exact absurd (by decide) h
  | succ m => exact ⟨m, rfl⟩

theorem dJ7_fill_53178_0 : decode cJ7_fill_53178 0 = .ok (.iconst 0, 1) := by decide +kernel
theorem dJ7_fill_53178_1 : decode cJ7_fill_53178 1 = .ok (.istore_n 2, 1) := by decide +kernel
theorem dJ7_fill_53178_2 : decode cJ7_fill_53178 2 = .ok (.aload_n 0, 1) := by decide +kernel
theorem dJ7_fill_53178_3 : decode cJ7_fill_53178 3 = .ok (.arraylength, 1) := by decide +kernel
theorem dJ7_fill_53178_4 : decode cJ7_fill_53178 4 = .ok (.istore_n 3, 1) := by decide +kernel
theorem dJ7_fill_53178_5 : decode cJ7_fill_53178 5 = .ok (.iload_n 2, 1) := by decide +kernel
theorem dJ7_fill_53178_6 : decode cJ7_fill_53178 6 = .ok (.iload_n 3, 1) := by decide +kernel
theorem dJ7_fill_53178_7 : decode cJ7_fill_53178 7 = .ok (.if_icmp .ge 13, 3) := by decide +kernel
theorem dJ7_fill_53178_10 : decode cJ7_fill_53178 10 = .ok (.aload_n 0, 1) := by decide +kernel
theorem dJ7_fill_53178_11 : decode cJ7_fill_53178 11 = .ok (.iload_n 2, 1) := by decide +kernel
theorem dJ7_fill_53178_12 : decode cJ7_fill_53178 12 = .ok (.iload_n 1, 1) := by decide +kernel
theorem dJ7_fill_53178_13 : decode cJ7_fill_53178 13 = .ok (.iastore, 1) := by decide +kernel
theorem dJ7_fill_53178_14 : decode cJ7_fill_53178 14 = .ok (.iinc 2 1, 3) := by decide +kernel
theorem dJ7_fill_53178_17 : decode cJ7_fill_53178 17 = .ok (.goto (-12), 3) := by decide +kernel
theorem dJ7_fill_53178_20 : decode cJ7_fill_53178 20 = .ok (.return_, 1) := by decide +kernel
abbrev rm_m_J7_fill_53178 : Room := { frames := 0, cells := 0, slots := 0, locals := 0 }
set_option maxHeartbeats 4000000 in
set_option maxRecDepth 100000 in
theorem m_J7_fill_53178 {s0 : State} {l : Launch} {D : va_G} {cy : Nat → ClassId} (G : Gl s0 l D cy) (S : HS) (i n : Nat) (v : Int32) (hV : vV S 32 i) (hn : mN S 32 i = n) (hn2 : n < 2 ^ 31) : Ctr s0 l D cy yJ7_fill_53178 cJ7_fill_53178 4 none rm_m_J7_fill_53178 S [.ref (gG S 32 i), .int v] (fun v0 S2 => none = v0 ∧ ∃ f : Nat → Int32, (∀ j, j < n → f j = v) ∧ S2 = sA S 32 i f) := by
  refine pro "java/util/Arrays" G rfl rfl (Nat.le_of_ble_eq_true rfl) (fun p e s m below meth c ls X w hnm hl => ?_)
  have hx := X.1
  have hb := X.2.1
  have hown := X.2.2.2.1
  have hts := X.2.2.2.2.1
  have hl : lv_has ls 4 [(0, .ref (gG S 32 i)), (1, .int v)] := hl
  rw [← sA_id S 32 i] at w
  refine lv_iconst (v := 0) hx hb dJ7_fill_53178_0 (by decide) ?_
  refine lv_istore_n (lv' := [(2, .int 0), (0, .ref (gG S 32 i)), (1, .int v)]) hx hb dJ7_fill_53178_1 rfl hl (by decide) rfl (fun ls hl => ?_)
  refine lv_aload_n hx hb dJ7_fill_53178_2 rfl (lv_at hl 1 rfl) ?_
  refine aLen (S := (sA S 32 i (mA S 32 i))) (t := 32) (n := n) X w hV (by decide) rfl hn dJ7_fill_53178_3 ?_
  refine lv_istore_n (lv' := [(3, .int (nI n)), (2, .int 0), (0, .ref (gG S 32 i)), (1, .int v)]) hx hb dJ7_fill_53178_4 rfl hl (by decide) rfl (fun ls hl => ?_)
  have L5 : ∀ (N : Nat) (k5 : Nat) (f : Nat → Int32) (H : Heap) (locs : List Loc) (ls : Array Slot), n - k5 < N → (k5 ≤ n) → (∀ j, j < k5 → f j = v) → Wd s0 D cy (sA S 32 i f) s.heap H locs → lv_has ls 4 [(3, .int (nI n)), (2, .int (nI k5)), (0, .ref (gG S 32 i)), (1, .int v)] → W p l e rm_m_J7_fill_53178 s m ([.ref (gG S 32 i), .int v] : List Value).toArray below meth c H locs 0 0 (MQ below (GQ s0 D cy (fun v0 S2 => none = v0 ∧ ∃ f : Nat → Int32, (∀ j, j < n → f j = v) ∧ S2 = sA S 32 i f)) ([.ref (gG S 32 i), .int v] : List Value).toArray s rm_m_J7_fill_53178.cells rm_m_J7_fill_53178.slots (A0 s0)) (F0 m 5 ls []) := by
    intro N
    induction N with
    | zero => intros; omega
    | succ N ih5 =>
      intro k5 f H locs ls hmu hk_k5 hf w hl
      refine lv_iload_n hx hb dJ7_fill_53178_5 rfl (lv_at hl 1 rfl) ?_
      refine lv_iload_n hx hb dJ7_fill_53178_6 rfl (lv_at hl 0 rfl) ?_
      refine lv_icmp_ge (tgt := 20) hx hb dJ7_fill_53178_7 (by decide) (fun hc_k5 => ?_) (fun hc_k5 => ?_)
      · have hge_k5 : n ≤ k5 := by
          skip
          exact (nI_leI (a := n) (b := k5) (by omega) (by omega)).mp hc_k5
        exact rV X w rfl dJ7_fill_53178_20 (by decide) (by decide) (⟨rfl, f, fun j hj => hf j (by omega), rfl⟩)
      · have hlt_k5 : k5 < n := by
          skip
          exact Nat.lt_of_not_le (fun z => hc_k5 ((nI_leI (a := n) (b := k5) (by omega) (by omega)).mpr z))
        refine lv_aload_n hx hb dJ7_fill_53178_10 rfl (lv_at hl 2 rfl) ?_
        refine lv_iload_n hx hb dJ7_fill_53178_11 rfl (lv_at hl 1 rfl) ?_
        refine lv_iload_n hx hb dJ7_fill_53178_12 rfl (lv_at hl 3 rfl) ?_
        refine aStI (S := sA S 32 i f) (t := 32) X w hV (by decide) rfl rfl (by rw [show mN (sA S 32 i f) 32 i = n from hn]; exact nI_vp hlt_k5 hn2) dJ7_fill_53178_13 (fun H locs w => ?_)
        rw [show mA (sA S 32 i f) 32 i = f from up2_s _ _ _ _, sA_sA, cl_nI hlt_k5 hn2] at w
        refine lv_iinc (v := nI (k5 + 1)) (lv' := [(2, .int (nI (k5 + 1))), (3, .int (nI n)), (0, .ref (gG S 32 i)), (1, .int v)]) hx hb dJ7_fill_53178_14 hl (k := 1) rfl (nI_1 _) (by decide) rfl (fun ls hl => ?_)
        refine lv_goto (tgt := 5) hx hb dJ7_fill_53178_17 (by decide) ?_
        exact ih5 (k5 + 1) (upd f k5 v) _ _ _ (by omega) (hlt_k5) (fun j hj => (Nat.lt_succ_iff_lt_or_eq.mp hj).elim (fun z => (if_neg (Nat.ne_of_lt z)).trans (hf j z)) (fun z => if_pos z)) w (lv_sub hl [1, 0, 2, 3] rfl)
  exact L5 _ 0 (mA S 32 i) _ _ _ (Nat.lt_succ_self _) (Nat.zero_le _) (fun j hj => absurd hj (Nat.not_lt_zero j)) w (lv_sub hl [0, 1, 2, 3] rfl)

theorem dJ6_bitCount_0f7a4_0 : decode cJ6_bitCount_0f7a4 0 = .ok (.iload_n 0, 1) := by decide +kernel
theorem dJ6_bitCount_0f7a4_1 : decode cJ6_bitCount_0f7a4 1 = .ok (.iload_n 0, 1) := by decide +kernel
theorem dJ6_bitCount_0f7a4_2 : decode cJ6_bitCount_0f7a4 2 = .ok (.iconst 1, 1) := by decide +kernel
theorem dJ6_bitCount_0f7a4_3 : decode cJ6_bitCount_0f7a4 3 = .ok (.iushr, 1) := by decide +kernel
theorem dJ6_bitCount_0f7a4_4 : decode cJ6_bitCount_0f7a4 4 = .ok (.ldc_w 265, 3) := by decide +kernel
theorem dJ6_bitCount_0f7a4_7 : decode cJ6_bitCount_0f7a4 7 = .ok (.iand, 1) := by decide +kernel
theorem dJ6_bitCount_0f7a4_8 : decode cJ6_bitCount_0f7a4 8 = .ok (.isub, 1) := by decide +kernel
theorem dJ6_bitCount_0f7a4_9 : decode cJ6_bitCount_0f7a4 9 = .ok (.istore_n 0, 1) := by decide +kernel
theorem dJ6_bitCount_0f7a4_10 : decode cJ6_bitCount_0f7a4 10 = .ok (.iload_n 0, 1) := by decide +kernel
theorem dJ6_bitCount_0f7a4_11 : decode cJ6_bitCount_0f7a4 11 = .ok (.ldc_w 266, 3) := by decide +kernel
theorem dJ6_bitCount_0f7a4_14 : decode cJ6_bitCount_0f7a4 14 = .ok (.iand, 1) := by decide +kernel
theorem dJ6_bitCount_0f7a4_15 : decode cJ6_bitCount_0f7a4 15 = .ok (.iload_n 0, 1) := by decide +kernel
theorem dJ6_bitCount_0f7a4_16 : decode cJ6_bitCount_0f7a4 16 = .ok (.iconst 2, 1) := by decide +kernel
theorem dJ6_bitCount_0f7a4_17 : decode cJ6_bitCount_0f7a4 17 = .ok (.iushr, 1) := by decide +kernel
theorem dJ6_bitCount_0f7a4_18 : decode cJ6_bitCount_0f7a4 18 = .ok (.ldc_w 266, 3) := by decide +kernel
theorem dJ6_bitCount_0f7a4_21 : decode cJ6_bitCount_0f7a4 21 = .ok (.iand, 1) := by decide +kernel
theorem dJ6_bitCount_0f7a4_22 : decode cJ6_bitCount_0f7a4 22 = .ok (.iadd, 1) := by decide +kernel
theorem dJ6_bitCount_0f7a4_23 : decode cJ6_bitCount_0f7a4 23 = .ok (.istore_n 0, 1) := by decide +kernel
theorem dJ6_bitCount_0f7a4_24 : decode cJ6_bitCount_0f7a4 24 = .ok (.iload_n 0, 1) := by decide +kernel
theorem dJ6_bitCount_0f7a4_25 : decode cJ6_bitCount_0f7a4 25 = .ok (.iload_n 0, 1) := by decide +kernel
theorem dJ6_bitCount_0f7a4_26 : decode cJ6_bitCount_0f7a4 26 = .ok (.iconst 4, 1) := by decide +kernel
theorem dJ6_bitCount_0f7a4_27 : decode cJ6_bitCount_0f7a4 27 = .ok (.iushr, 1) := by decide +kernel
theorem dJ6_bitCount_0f7a4_28 : decode cJ6_bitCount_0f7a4 28 = .ok (.iadd, 1) := by decide +kernel
theorem dJ6_bitCount_0f7a4_29 : decode cJ6_bitCount_0f7a4 29 = .ok (.ldc_w 267, 3) := by decide +kernel
theorem dJ6_bitCount_0f7a4_32 : decode cJ6_bitCount_0f7a4 32 = .ok (.iand, 1) := by decide +kernel
theorem dJ6_bitCount_0f7a4_33 : decode cJ6_bitCount_0f7a4 33 = .ok (.istore_n 0, 1) := by decide +kernel
theorem dJ6_bitCount_0f7a4_34 : decode cJ6_bitCount_0f7a4 34 = .ok (.iload_n 0, 1) := by decide +kernel
theorem dJ6_bitCount_0f7a4_35 : decode cJ6_bitCount_0f7a4 35 = .ok (.iload_n 0, 1) := by decide +kernel
theorem dJ6_bitCount_0f7a4_36 : decode cJ6_bitCount_0f7a4 36 = .ok (.bipush 8, 2) := by decide +kernel
theorem dJ6_bitCount_0f7a4_38 : decode cJ6_bitCount_0f7a4 38 = .ok (.iushr, 1) := by decide +kernel
theorem dJ6_bitCount_0f7a4_39 : decode cJ6_bitCount_0f7a4 39 = .ok (.iadd, 1) := by decide +kernel
theorem dJ6_bitCount_0f7a4_40 : decode cJ6_bitCount_0f7a4 40 = .ok (.istore_n 0, 1) := by decide +kernel
theorem dJ6_bitCount_0f7a4_41 : decode cJ6_bitCount_0f7a4 41 = .ok (.iload_n 0, 1) := by decide +kernel
theorem dJ6_bitCount_0f7a4_42 : decode cJ6_bitCount_0f7a4 42 = .ok (.iload_n 0, 1) := by decide +kernel
theorem dJ6_bitCount_0f7a4_43 : decode cJ6_bitCount_0f7a4 43 = .ok (.bipush 16, 2) := by decide +kernel
theorem dJ6_bitCount_0f7a4_45 : decode cJ6_bitCount_0f7a4 45 = .ok (.iushr, 1) := by decide +kernel
theorem dJ6_bitCount_0f7a4_46 : decode cJ6_bitCount_0f7a4 46 = .ok (.iadd, 1) := by decide +kernel
theorem dJ6_bitCount_0f7a4_47 : decode cJ6_bitCount_0f7a4 47 = .ok (.istore_n 0, 1) := by decide +kernel
theorem dJ6_bitCount_0f7a4_48 : decode cJ6_bitCount_0f7a4 48 = .ok (.iload_n 0, 1) := by decide +kernel
theorem dJ6_bitCount_0f7a4_49 : decode cJ6_bitCount_0f7a4 49 = .ok (.bipush 63, 2) := by decide +kernel
theorem dJ6_bitCount_0f7a4_51 : decode cJ6_bitCount_0f7a4 51 = .ok (.iand, 1) := by decide +kernel
theorem dJ6_bitCount_0f7a4_52 : decode cJ6_bitCount_0f7a4 52 = .ok (.ireturn, 1) := by decide +kernel
abbrev rm_m_J6_bitCount_0f7a4 : Room := { frames := 0, cells := 0, slots := 0, locals := 0 }
set_option maxHeartbeats 4000000 in
set_option maxRecDepth 100000 in
theorem m_J6_bitCount_0f7a4 {s0 : State} {l : Launch} {D : va_G} {cy : Nat → ClassId} (G : Gl s0 l D cy) (S : HS) (v : Int32) : Ctr s0 l D cy yJ6_bitCount_0f7a4 cJ6_bitCount_0f7a4 1 (some .int) rm_m_J6_bitCount_0f7a4 S [.int v] (PXi S) := by
  refine pro "java/lang/Integer" G rfl rfl (Nat.le_of_ble_eq_true rfl) (fun p e s m below meth c ls X w hnm hl => ?_)
  have hx := X.1
  have hb := X.2.1
  have hown := X.2.2.2.1
  have hts := X.2.2.2.2.1
  have hl : lv_has ls 1 [(0, .int v)] := hl
  refine lv_iload_n hx hb dJ6_bitCount_0f7a4_0 rfl (lv_at hl 0 rfl) ?_
  refine lv_iload_n hx hb dJ6_bitCount_0f7a4_1 rfl (lv_at hl 0 rfl) ?_
  refine lv_iconst (v := 1) hx hb dJ6_bitCount_0f7a4_2 (by decide) ?_
  refine lv_iushr hx hb dJ6_bitCount_0f7a4_3 rfl ?_
  refine lv_ldcw hx hb hown (hts _ wK_J6_265) dJ6_bitCount_0f7a4_4 ?_
  refine lv_iand hx hb dJ6_bitCount_0f7a4_7 ?_
  refine lv_isub hx hb dJ6_bitCount_0f7a4_8 ?_
  refine lv_istore_n (lv' := [(0, .int (v - (((v.toUInt32 >>> ((1 : Int32).toUInt32 &&& Int32.toUInt32 31)).toInt32) &&& 1431655765)))]) hx hb dJ6_bitCount_0f7a4_9 rfl hl (by decide) rfl (fun ls hl => ?_)
  refine lv_iload_n hx hb dJ6_bitCount_0f7a4_10 rfl (lv_at hl 0 rfl) ?_
  refine lv_ldcw hx hb hown (hts _ wK_J6_266) dJ6_bitCount_0f7a4_11 ?_
  refine lv_iand hx hb dJ6_bitCount_0f7a4_14 ?_
  refine lv_iload_n hx hb dJ6_bitCount_0f7a4_15 rfl (lv_at hl 0 rfl) ?_
  refine lv_iconst (v := 2) hx hb dJ6_bitCount_0f7a4_16 (by decide) ?_
  refine lv_iushr hx hb dJ6_bitCount_0f7a4_17 rfl ?_
  refine lv_ldcw hx hb hown (hts _ wK_J6_266) dJ6_bitCount_0f7a4_18 ?_
  refine lv_iand hx hb dJ6_bitCount_0f7a4_21 ?_
  refine lv_iadd hx hb dJ6_bitCount_0f7a4_22 ?_
  refine lv_istore_n (lv' := [(0, .int (((v - (((v.toUInt32 >>> ((1 : Int32).toUInt32 &&& Int32.toUInt32 31)).toInt32) &&& 1431655765)) &&& 858993459) + ((((v - (((v.toUInt32 >>> ((1 : Int32).toUInt32 &&& Int32.toUInt32 31)).toInt32) &&& 1431655765)).toUInt32 >>> ((2 : Int32).toUInt32 &&& Int32.toUInt32 31)).toInt32) &&& 858993459)))]) hx hb dJ6_bitCount_0f7a4_23 rfl hl (by decide) rfl (fun ls hl => ?_)
  refine lv_iload_n hx hb dJ6_bitCount_0f7a4_24 rfl (lv_at hl 0 rfl) ?_
  refine lv_iload_n hx hb dJ6_bitCount_0f7a4_25 rfl (lv_at hl 0 rfl) ?_
  refine lv_iconst (v := 4) hx hb dJ6_bitCount_0f7a4_26 (by decide) ?_
  refine lv_iushr hx hb dJ6_bitCount_0f7a4_27 rfl ?_
  refine lv_iadd hx hb dJ6_bitCount_0f7a4_28 ?_
  refine lv_ldcw hx hb hown (hts _ wK_J6_267) dJ6_bitCount_0f7a4_29 ?_
  refine lv_iand hx hb dJ6_bitCount_0f7a4_32 ?_
  refine lv_istore_n (lv' := [(0, .int (((((v - (((v.toUInt32 >>> ((1 : Int32).toUInt32 &&& Int32.toUInt32 31)).toInt32) &&& 1431655765)) &&& 858993459) + ((((v - (((v.toUInt32 >>> ((1 : Int32).toUInt32 &&& Int32.toUInt32 31)).toInt32) &&& 1431655765)).toUInt32 >>> ((2 : Int32).toUInt32 &&& Int32.toUInt32 31)).toInt32) &&& 858993459)) + (((((v - (((v.toUInt32 >>> ((1 : Int32).toUInt32 &&& Int32.toUInt32 31)).toInt32) &&& 1431655765)) &&& 858993459) + ((((v - (((v.toUInt32 >>> ((1 : Int32).toUInt32 &&& Int32.toUInt32 31)).toInt32) &&& 1431655765)).toUInt32 >>> ((2 : Int32).toUInt32 &&& Int32.toUInt32 31)).toInt32) &&& 858993459)).toUInt32 >>> ((4 : Int32).toUInt32 &&& Int32.toUInt32 31)).toInt32)) &&& 252645135))]) hx hb dJ6_bitCount_0f7a4_33 rfl hl (by decide) rfl (fun ls hl => ?_)
  refine lv_iload_n hx hb dJ6_bitCount_0f7a4_34 rfl (lv_at hl 0 rfl) ?_
  refine lv_iload_n hx hb dJ6_bitCount_0f7a4_35 rfl (lv_at hl 0 rfl) ?_
  refine lv_bipush (v := 8) hx hb dJ6_bitCount_0f7a4_36 (by decide) ?_
  refine lv_iushr hx hb dJ6_bitCount_0f7a4_38 rfl ?_
  refine lv_iadd hx hb dJ6_bitCount_0f7a4_39 ?_
  refine lv_istore_n (lv' := [(0, .int ((((((v - (((v.toUInt32 >>> ((1 : Int32).toUInt32 &&& Int32.toUInt32 31)).toInt32) &&& 1431655765)) &&& 858993459) + ((((v - (((v.toUInt32 >>> ((1 : Int32).toUInt32 &&& Int32.toUInt32 31)).toInt32) &&& 1431655765)).toUInt32 >>> ((2 : Int32).toUInt32 &&& Int32.toUInt32 31)).toInt32) &&& 858993459)) + (((((v - (((v.toUInt32 >>> ((1 : Int32).toUInt32 &&& Int32.toUInt32 31)).toInt32) &&& 1431655765)) &&& 858993459) + ((((v - (((v.toUInt32 >>> ((1 : Int32).toUInt32 &&& Int32.toUInt32 31)).toInt32) &&& 1431655765)).toUInt32 >>> ((2 : Int32).toUInt32 &&& Int32.toUInt32 31)).toInt32) &&& 858993459)).toUInt32 >>> ((4 : Int32).toUInt32 &&& Int32.toUInt32 31)).toInt32)) &&& 252645135) + (((((((v - (((v.toUInt32 >>> ((1 : Int32).toUInt32 &&& Int32.toUInt32 31)).toInt32) &&& 1431655765)) &&& 858993459) + ((((v - (((v.toUInt32 >>> ((1 : Int32).toUInt32 &&& Int32.toUInt32 31)).toInt32) &&& 1431655765)).toUInt32 >>> ((2 : Int32).toUInt32 &&& Int32.toUInt32 31)).toInt32) &&& 858993459)) + (((((v - (((v.toUInt32 >>> ((1 : Int32).toUInt32 &&& Int32.toUInt32 31)).toInt32) &&& 1431655765)) &&& 858993459) + ((((v - (((v.toUInt32 >>> ((1 : Int32).toUInt32 &&& Int32.toUInt32 31)).toInt32) &&& 1431655765)).toUInt32 >>> ((2 : Int32).toUInt32 &&& Int32.toUInt32 31)).toInt32) &&& 858993459)).toUInt32 >>> ((4 : Int32).toUInt32 &&& Int32.toUInt32 31)).toInt32)) &&& 252645135).toUInt32 >>> ((8 : Int32).toUInt32 &&& Int32.toUInt32 31)).toInt32)))]) hx hb dJ6_bitCount_0f7a4_40 rfl hl (by decide) rfl (fun ls hl => ?_)
  refine lv_iload_n hx hb dJ6_bitCount_0f7a4_41 rfl (lv_at hl 0 rfl) ?_
  refine lv_iload_n hx hb dJ6_bitCount_0f7a4_42 rfl (lv_at hl 0 rfl) ?_
  refine lv_bipush (v := 16) hx hb dJ6_bitCount_0f7a4_43 (by decide) ?_
  refine lv_iushr hx hb dJ6_bitCount_0f7a4_45 rfl ?_
  refine lv_iadd hx hb dJ6_bitCount_0f7a4_46 ?_
  refine lv_istore_n (lv' := [(0, .int (((((((v - (((v.toUInt32 >>> ((1 : Int32).toUInt32 &&& Int32.toUInt32 31)).toInt32) &&& 1431655765)) &&& 858993459) + ((((v - (((v.toUInt32 >>> ((1 : Int32).toUInt32 &&& Int32.toUInt32 31)).toInt32) &&& 1431655765)).toUInt32 >>> ((2 : Int32).toUInt32 &&& Int32.toUInt32 31)).toInt32) &&& 858993459)) + (((((v - (((v.toUInt32 >>> ((1 : Int32).toUInt32 &&& Int32.toUInt32 31)).toInt32) &&& 1431655765)) &&& 858993459) + ((((v - (((v.toUInt32 >>> ((1 : Int32).toUInt32 &&& Int32.toUInt32 31)).toInt32) &&& 1431655765)).toUInt32 >>> ((2 : Int32).toUInt32 &&& Int32.toUInt32 31)).toInt32) &&& 858993459)).toUInt32 >>> ((4 : Int32).toUInt32 &&& Int32.toUInt32 31)).toInt32)) &&& 252645135) + (((((((v - (((v.toUInt32 >>> ((1 : Int32).toUInt32 &&& Int32.toUInt32 31)).toInt32) &&& 1431655765)) &&& 858993459) + ((((v - (((v.toUInt32 >>> ((1 : Int32).toUInt32 &&& Int32.toUInt32 31)).toInt32) &&& 1431655765)).toUInt32 >>> ((2 : Int32).toUInt32 &&& Int32.toUInt32 31)).toInt32) &&& 858993459)) + (((((v - (((v.toUInt32 >>> ((1 : Int32).toUInt32 &&& Int32.toUInt32 31)).toInt32) &&& 1431655765)) &&& 858993459) + ((((v - (((v.toUInt32 >>> ((1 : Int32).toUInt32 &&& Int32.toUInt32 31)).toInt32) &&& 1431655765)).toUInt32 >>> ((2 : Int32).toUInt32 &&& Int32.toUInt32 31)).toInt32) &&& 858993459)).toUInt32 >>> ((4 : Int32).toUInt32 &&& Int32.toUInt32 31)).toInt32)) &&& 252645135).toUInt32 >>> ((8 : Int32).toUInt32 &&& Int32.toUInt32 31)).toInt32)) + ((((((((v - (((v.toUInt32 >>> ((1 : Int32).toUInt32 &&& Int32.toUInt32 31)).toInt32) &&& 1431655765)) &&& 858993459) + ((((v - (((v.toUInt32 >>> ((1 : Int32).toUInt32 &&& Int32.toUInt32 31)).toInt32) &&& 1431655765)).toUInt32 >>> ((2 : Int32).toUInt32 &&& Int32.toUInt32 31)).toInt32) &&& 858993459)) + (((((v - (((v.toUInt32 >>> ((1 : Int32).toUInt32 &&& Int32.toUInt32 31)).toInt32) &&& 1431655765)) &&& 858993459) + ((((v - (((v.toUInt32 >>> ((1 : Int32).toUInt32 &&& Int32.toUInt32 31)).toInt32) &&& 1431655765)).toUInt32 >>> ((2 : Int32).toUInt32 &&& Int32.toUInt32 31)).toInt32) &&& 858993459)).toUInt32 >>> ((4 : Int32).toUInt32 &&& Int32.toUInt32 31)).toInt32)) &&& 252645135) + (((((((v - (((v.toUInt32 >>> ((1 : Int32).toUInt32 &&& Int32.toUInt32 31)).toInt32) &&& 1431655765)) &&& 858993459) + ((((v - (((v.toUInt32 >>> ((1 : Int32).toUInt32 &&& Int32.toUInt32 31)).toInt32) &&& 1431655765)).toUInt32 >>> ((2 : Int32).toUInt32 &&& Int32.toUInt32 31)).toInt32) &&& 858993459)) + (((((v - (((v.toUInt32 >>> ((1 : Int32).toUInt32 &&& Int32.toUInt32 31)).toInt32) &&& 1431655765)) &&& 858993459) + ((((v - (((v.toUInt32 >>> ((1 : Int32).toUInt32 &&& Int32.toUInt32 31)).toInt32) &&& 1431655765)).toUInt32 >>> ((2 : Int32).toUInt32 &&& Int32.toUInt32 31)).toInt32) &&& 858993459)).toUInt32 >>> ((4 : Int32).toUInt32 &&& Int32.toUInt32 31)).toInt32)) &&& 252645135).toUInt32 >>> ((8 : Int32).toUInt32 &&& Int32.toUInt32 31)).toInt32)).toUInt32 >>> ((16 : Int32).toUInt32 &&& Int32.toUInt32 31)).toInt32)))]) hx hb dJ6_bitCount_0f7a4_47 rfl hl (by decide) rfl (fun ls hl => ?_)
  refine lv_iload_n hx hb dJ6_bitCount_0f7a4_48 rfl (lv_at hl 0 rfl) ?_
  refine lv_bipush (v := 63) hx hb dJ6_bitCount_0f7a4_49 (by decide) ?_
  refine lv_iand hx hb dJ6_bitCount_0f7a4_51 ?_
  exact rI X w rfl dJ6_bitCount_0f7a4_52 (by decide) (by decide) (px_i)

theorem dX2_readQualities_0 : decode cX2_readQualities 0 = .ok (.iconst 0, 1) := by decide +kernel
theorem dX2_readQualities_1 : decode cX2_readQualities 1 = .ok (.istore_n 2, 1) := by decide +kernel
theorem dX2_readQualities_2 : decode cX2_readQualities 2 = .ok (.iload_n 2, 1) := by decide +kernel
theorem dX2_readQualities_3 : decode cX2_readQualities 3 = .ok (.bipush 40, 2) := by decide +kernel
theorem dX2_readQualities_5 : decode cX2_readQualities 5 = .ok (.if_icmp .ge 62, 3) := by decide +kernel
theorem dX2_readQualities_8 : decode cX2_readQualities 8 = .ok (.aload_n 0, 1) := by decide +kernel
theorem dX2_readQualities_9 : decode cX2_readQualities 9 = .ok (.getfield 21, 3) := by decide +kernel
theorem dX2_readQualities_12 : decode cX2_readQualities 12 = .ok (.iload_n 2, 1) := by decide +kernel
theorem dX2_readQualities_13 : decode cX2_readQualities 13 = .ok (.iconst 5, 1) := by decide +kernel
theorem dX2_readQualities_14 : decode cX2_readQualities 14 = .ok (.idiv, 1) := by decide +kernel
theorem dX2_readQualities_15 : decode cX2_readQualities 15 = .ok (.invokevirtual 49, 3) := by decide +kernel
theorem dX2_readQualities_18 : decode cX2_readQualities 18 = .ok (.astore_n 3, 1) := by decide +kernel
theorem dX2_readQualities_19 : decode cX2_readQualities 19 = .ok (.aload_n 0, 1) := by decide +kernel
theorem dX2_readQualities_20 : decode cX2_readQualities 20 = .ok (.getfield 25, 3) := by decide +kernel
theorem dX2_readQualities_23 : decode cX2_readQualities 23 = .ok (.iload_n 2, 1) := by decide +kernel
theorem dX2_readQualities_24 : decode cX2_readQualities 24 = .ok (.iconst 5, 1) := by decide +kernel
theorem dX2_readQualities_25 : decode cX2_readQualities 25 = .ok (.irem, 1) := by decide +kernel
theorem dX2_readQualities_26 : decode cX2_readQualities 26 = .ok (.invokevirtual 55, 3) := by decide +kernel
theorem dX2_readQualities_29 : decode cX2_readQualities 29 = .ok (.astore 4, 2) := by decide +kernel
theorem dX2_readQualities_31 : decode cX2_readQualities 31 = .ok (.aload_n 0, 1) := by decide +kernel
theorem dX2_readQualities_32 : decode cX2_readQualities 32 = .ok (.getfield 11, 3) := by decide +kernel
theorem dX2_readQualities_35 : decode cX2_readQualities 35 = .ok (.iload_n 2, 1) := by decide +kernel
theorem dX2_readQualities_36 : decode cX2_readQualities 36 = .ok (.aload_n 3, 1) := by decide +kernel
theorem dX2_readQualities_37 : decode cX2_readQualities 37 = .ok (.ifnull 8, 3) := by decide +kernel
theorem dX2_readQualities_40 : decode cX2_readQualities 40 = .ok (.aload 4, 2) := by decide +kernel
theorem dX2_readQualities_42 : decode cX2_readQualities 42 = .ok (.ifnonnull 7, 3) := by decide +kernel
theorem dX2_readQualities_45 : decode cX2_readQualities 45 = .ok (.iconst 0, 1) := by decide +kernel
theorem dX2_readQualities_46 : decode cX2_readQualities 46 = .ok (.goto 14, 3) := by decide +kernel
theorem dX2_readQualities_49 : decode cX2_readQualities 49 = .ok (.aload_n 0, 1) := by decide +kernel
theorem dX2_readQualities_50 : decode cX2_readQualities 50 = .ok (.getfield 25, 3) := by decide +kernel
theorem dX2_readQualities_53 : decode cX2_readQualities 53 = .ok (.aload 4, 2) := by decide +kernel
theorem dX2_readQualities_55 : decode cX2_readQualities 55 = .ok (.aload_n 3, 1) := by decide +kernel
theorem dX2_readQualities_56 : decode cX2_readQualities 56 = .ok (.iload_n 1, 1) := by decide +kernel
theorem dX2_readQualities_57 : decode cX2_readQualities 57 = .ok (.invokevirtual 61, 3) := by decide +kernel
theorem dX2_readQualities_60 : decode cX2_readQualities 60 = .ok (.iastore, 1) := by decide +kernel
theorem dX2_readQualities_61 : decode cX2_readQualities 61 = .ok (.iinc 2 1, 3) := by decide +kernel
theorem dX2_readQualities_64 : decode cX2_readQualities 64 = .ok (.goto (-62), 3) := by decide +kernel
theorem dX2_readQualities_67 : decode cX2_readQualities 67 = .ok (.return_, 1) := by decide +kernel
abbrev rm_m_X2_readQualities : Room := { frames := 5, cells := 0, slots := 0, locals := 114 }
set_option maxHeartbeats 4000000 in
set_option maxRecDepth 100000 in
theorem m_X2_readQualities {s0 : State} {l : Launch} {D : va_G} {cy : Nat → ClassId} (G : Gl s0 l D cy) (S : HS) (ea ns nj nm nt nr nc : Nat) (h : CI ea S ns nj nm nt nr nc) (a : Int32) (a0 b0 c0 : Nat → Int32) : Ctr s0 l D cy yX2_readQualities cX2_readQualities 5 none rm_m_X2_readQualities (scr S a0 b0 c0) [.ref (gG S 2 0), .int a] (PSv S) := by
  refine pro "CavershamShift$Matching" G rfl rfl (Nat.le_of_ble_eq_true rfl) (fun p e s m below meth c ls X w hnm hl => ?_)
  have hx := X.1
  have hb := X.2.1
  have hown := X.2.2.2.1
  have hts := X.2.2.2.2.1
  have hl : lv_has ls 5 [(0, .ref (gG S 2 0)), (1, .int a)] := hl
  have h0 := h
  have h : CI ea (scr S a0 b0 c0) ns nj nm nt nr nc := h0.scr _ _ _
  refine lv_iconst (v := 0) hx hb dX2_readQualities_0 (by decide) ?_
  refine lv_istore_n (lv' := [(2, .int 0), (0, .ref (gG S 2 0)), (1, .int a)]) hx hb dX2_readQualities_1 rfl hl (by decide) rfl (fun ls hl => ?_)
  have L2 : ∀ (N : Nat) (k2 : Nat) (qa2 : Nat → Int32) (qb2 : Nat → Int32) (qc2 : Nat → Int32) (H : Heap) (locs : List Loc) (ls : Array Slot), 40 - k2 < N → (k2 ≤ 40) → Wd s0 D cy (scr S qa2 qb2 qc2) s.heap H locs → lv_has ls 5 [(2, .int (nI k2)), (0, .ref (gG S 2 0)), (1, .int a)] → W p l e rm_m_X2_readQualities s m ([.ref (gG S 2 0), .int a] : List Value).toArray below meth c H locs 0 0 (MQ below (GQ s0 D cy (PSv S)) ([.ref (gG S 2 0), .int a] : List Value).toArray s rm_m_X2_readQualities.cells rm_m_X2_readQualities.slots (A0 s0)) (F0 m 2 ls []) := by
    intro N
    induction N with
    | zero => intros; omega
    | succ N ih2 =>
      intro k2 qa2 qb2 qc2 H locs ls hmu hk_k2 w hl
      have h : CI ea (scr S qa2 qb2 qc2) ns nj nm nt nr nc := h0.scr _ _ _
      refine lv_iload_n hx hb dX2_readQualities_2 rfl (lv_at hl 0 rfl) ?_
      refine lv_bipush (v := 40) hx hb dX2_readQualities_3 (by decide) ?_
      refine lv_icmp_ge (tgt := 67) hx hb dX2_readQualities_5 (by decide) (fun hc_k2 => ?_) (fun hc_k2 => ?_)
      · have hge_k2 : 40 ≤ k2 := by
          skip
          exact (nI_leI (a := 40) (b := k2) (by omega) (by omega)).mp hc_k2
        exact rV X w rfl dX2_readQualities_67 (by decide) (by decide) (ps_v)
      · have hlt_k2 : k2 < 40 := by
          skip
          exact Nat.lt_of_not_le (fun z => hc_k2 ((nI_leI (a := 40) (b := k2) (by omega) (by omega)).mpr z))
        refine lv_aload_n hx hb dX2_readQualities_8 rfl (lv_at hl 1 rfl) ?_
        refine g_2_0 (S := (scr S qa2 qb2 qc2)) (x := (some (gG (scr S qa2 qb2 qc2) 0 0))) X w h.v2 wF_X2_21 (h.f32) dX2_readQualities_9 ?_
        refine lv_iload_n hx hb dX2_readQualities_12 rfl (lv_at hl 0 rfl) ?_
        refine lv_iconst (v := 5) hx hb dX2_readQualities_13 (by decide) ?_
        refine lv_idiv hx hb dX2_readQualities_14 (by decide) ?_
        refine cV (S := (scr S qa2 qb2 qc2)) (nA := 1) (As := [.int ((nI k2) / 5)]) (rest := []) X w hl h.v0 (m_X0_stationAt G (scr S qa2 qb2 qc2) ea ns nj nm nt nr nc h ((nI k2) / 5)) wY_X0_stationAt wM_X2_49 wIn_X0_stationAt wSe_X0_X0_stationAt wI_X0 (by decide) rfl (by decide +kernel) rfl rfl dX2_readQualities_15 ⟨by decide, by decide⟩ (Nat.le_of_ble_eq_true rfl) (⟨Nat.le_of_ble_eq_true rfl, Nat.le_of_ble_eq_true rfl⟩) (fun v2 S1 H locs hp w => ?_)
        obtain ⟨hp, rfl⟩ := hp
        rcases hp with ⟨rfl, hoj1⟩ | ⟨j1, hlj1, hkj1, rfl⟩
        · skip
          refine lv_astore_nN (lv' := [(3, .null), (2, .int (nI k2)), (0, .ref (gG S 2 0)), (1, .int a)]) hx hb dX2_readQualities_18 rfl hl (by decide) rfl (fun ls hl => ?_)
          refine lv_aload_n hx hb dX2_readQualities_19 rfl (lv_at hl 2 rfl) ?_
          refine g_2_1 (S := (scr S qa2 qb2 qc2)) (x := (some (gG (scr S qa2 qb2 qc2) 7 0))) X w h.v2 wF_X2_25 (h.f33) dX2_readQualities_20 ?_
          refine lv_iload_n hx hb dX2_readQualities_23 rfl (lv_at hl 1 rfl) ?_
          refine lv_iconst (v := 5) hx hb dX2_readQualities_24 (by decide) ?_
          refine lv_irem hx hb dX2_readQualities_25 (by decide) ?_
          refine cV (S := (scr S qa2 qb2 qc2)) (nA := 1) (As := [.int ((nI k2) - (nI k2) / 5 * 5)]) (rest := []) X w hl h.v7 (m_X7_monitorAt G (scr S qa2 qb2 qc2) ea ns nj nm nt nr nc h ((nI k2) - (nI k2) / 5 * 5)) wY_X7_monitorAt wM_X2_55 wIn_X7_monitorAt wSe_X7_X7_monitorAt wI_X7 (by decide) rfl (by decide +kernel) rfl rfl dX2_readQualities_26 ⟨by decide, by decide⟩ (Nat.le_of_ble_eq_true rfl) (⟨Nat.le_of_ble_eq_true rfl, Nat.le_of_ble_eq_true rfl⟩) (fun v4 S1 H locs hp w => ?_)
          obtain ⟨hp, rfl⟩ := hp
          rcases hp with ⟨rfl, hoj3⟩ | ⟨j3, hlj3, hkj3, rfl⟩
          · skip
            refine lv_astoreN (lv' := [(4, .null), (3, .null), (2, .int (nI k2)), (0, .ref (gG S 2 0)), (1, .int a)]) hx hb dX2_readQualities_29 hl (by decide) rfl (fun ls hl => ?_)
            refine lv_aload_n hx hb dX2_readQualities_31 rfl (lv_at hl 3 rfl) ?_
            refine g_2_2 (S := (scr S qa2 qb2 qc2)) (x := (some (gG (scr S qa2 qb2 qc2) 32 2))) X w h.v2 wF_X2_11 (h.f34) dX2_readQualities_32 ?_
            refine lv_iload_n hx hb dX2_readQualities_35 rfl (lv_at hl 2 rfl) ?_
            refine lv_aload_nN hx hb dX2_readQualities_36 rfl (lv_at hl 1 rfl) ?_
            refine lv_ifnullN (tgt := 45) hx hb dX2_readQualities_37 (by decide) ?_
            refine lv_iconst (v := 0) hx hb dX2_readQualities_45 (by decide) ?_
            refine lv_goto (tgt := 60) hx hb dX2_readQualities_46 (by decide) ?_
            refine aStI (S := (scr S qa2 qb2 qc2)) (t := 32) (i := 2) X w h.a2.1 (by decide) rfl rfl (by rw [h.a2.2]; exact nI_vp hlt_k2 (by decide)) dX2_readQualities_60 (fun H locs w => ?_)
            rw [scr_2] at w
            generalize (upd (mA (scr S qa2 qb2 qc2) 32 2) (nI k2).toNatClampNeg 0) = q5 at w
            have h : CI ea (scr S q5 qb2 qc2) ns nj nm nt nr nc := h0.scr _ _ _
            refine lv_iinc (v := nI (k2 + 1)) (lv' := [(2, .int (nI (k2 + 1))), (4, .null), (3, .null), (0, .ref (gG S 2 0)), (1, .int a)]) hx hb dX2_readQualities_61 hl (k := 2) rfl (nI_1 _) (by decide) rfl (fun ls hl => ?_)
            refine lv_goto (tgt := 2) hx hb dX2_readQualities_64 (by decide) ?_
            exact ih2 (k2 + 1) q5 qb2 qc2 _ _ _ (by omega) (hlt_k2) w (lv_sub hl [0, 3, 4] rfl)
          · skip
            refine lv_astore (lv' := [(4, .ref (gG (scr S qa2 qb2 qc2) 3 j3)), (3, .null), (2, .int (nI k2)), (0, .ref (gG S 2 0)), (1, .int a)]) hx hb dX2_readQualities_29 hl (by decide) rfl (fun ls hl => ?_)
            refine lv_aload_n hx hb dX2_readQualities_31 rfl (lv_at hl 3 rfl) ?_
            refine g_2_2 (S := (scr S qa2 qb2 qc2)) (x := (some (gG (scr S qa2 qb2 qc2) 32 2))) X w h.v2 wF_X2_11 (h.f34) dX2_readQualities_32 ?_
            refine lv_iload_n hx hb dX2_readQualities_35 rfl (lv_at hl 2 rfl) ?_
            refine lv_aload_nN hx hb dX2_readQualities_36 rfl (lv_at hl 1 rfl) ?_
            refine lv_ifnullN (tgt := 45) hx hb dX2_readQualities_37 (by decide) ?_
            refine lv_iconst (v := 0) hx hb dX2_readQualities_45 (by decide) ?_
            refine lv_goto (tgt := 60) hx hb dX2_readQualities_46 (by decide) ?_
            refine aStI (S := (scr S qa2 qb2 qc2)) (t := 32) (i := 2) X w h.a2.1 (by decide) rfl rfl (by rw [h.a2.2]; exact nI_vp hlt_k2 (by decide)) dX2_readQualities_60 (fun H locs w => ?_)
            rw [scr_2] at w
            generalize (upd (mA (scr S qa2 qb2 qc2) 32 2) (nI k2).toNatClampNeg 0) = q8 at w
            have h : CI ea (scr S q8 qb2 qc2) ns nj nm nt nr nc := h0.scr _ _ _
            refine lv_iinc (v := nI (k2 + 1)) (lv' := [(2, .int (nI (k2 + 1))), (4, .ref (gG (scr S qa2 qb2 qc2) 3 j3)), (3, .null), (0, .ref (gG S 2 0)), (1, .int a)]) hx hb dX2_readQualities_61 hl (k := 2) rfl (nI_1 _) (by decide) rfl (fun ls hl => ?_)
            refine lv_goto (tgt := 2) hx hb dX2_readQualities_64 (by decide) ?_
            exact ih2 (k2 + 1) q8 qb2 qc2 _ _ _ (by omega) (hlt_k2) w (lv_sub hl [0, 3, 4] rfl)
        · skip
          refine lv_astore_n (lv' := [(3, .ref (gG (scr S qa2 qb2 qc2) 8 j1)), (2, .int (nI k2)), (0, .ref (gG S 2 0)), (1, .int a)]) hx hb dX2_readQualities_18 rfl hl (by decide) rfl (fun ls hl => ?_)
          refine lv_aload_n hx hb dX2_readQualities_19 rfl (lv_at hl 2 rfl) ?_
          refine g_2_1 (S := (scr S qa2 qb2 qc2)) (x := (some (gG (scr S qa2 qb2 qc2) 7 0))) X w h.v2 wF_X2_25 (h.f33) dX2_readQualities_20 ?_
          refine lv_iload_n hx hb dX2_readQualities_23 rfl (lv_at hl 1 rfl) ?_
          refine lv_iconst (v := 5) hx hb dX2_readQualities_24 (by decide) ?_
          refine lv_irem hx hb dX2_readQualities_25 (by decide) ?_
          refine cV (S := (scr S qa2 qb2 qc2)) (nA := 1) (As := [.int ((nI k2) - (nI k2) / 5 * 5)]) (rest := []) X w hl h.v7 (m_X7_monitorAt G (scr S qa2 qb2 qc2) ea ns nj nm nt nr nc h ((nI k2) - (nI k2) / 5 * 5)) wY_X7_monitorAt wM_X2_55 wIn_X7_monitorAt wSe_X7_X7_monitorAt wI_X7 (by decide) rfl (by decide +kernel) rfl rfl dX2_readQualities_26 ⟨by decide, by decide⟩ (Nat.le_of_ble_eq_true rfl) (⟨Nat.le_of_ble_eq_true rfl, Nat.le_of_ble_eq_true rfl⟩) (fun v12 S1 H locs hp w => ?_)
          obtain ⟨hp, rfl⟩ := hp
          rcases hp with ⟨rfl, hoj11⟩ | ⟨j11, hlj11, hkj11, rfl⟩
          · skip
            refine lv_astoreN (lv' := [(4, .null), (3, .ref (gG (scr S qa2 qb2 qc2) 8 j1)), (2, .int (nI k2)), (0, .ref (gG S 2 0)), (1, .int a)]) hx hb dX2_readQualities_29 hl (by decide) rfl (fun ls hl => ?_)
            refine lv_aload_n hx hb dX2_readQualities_31 rfl (lv_at hl 3 rfl) ?_
            refine g_2_2 (S := (scr S qa2 qb2 qc2)) (x := (some (gG (scr S qa2 qb2 qc2) 32 2))) X w h.v2 wF_X2_11 (h.f34) dX2_readQualities_32 ?_
            refine lv_iload_n hx hb dX2_readQualities_35 rfl (lv_at hl 2 rfl) ?_
            refine lv_aload_n hx hb dX2_readQualities_36 rfl (lv_at hl 1 rfl) ?_
            refine lv_ifnull hx hb dX2_readQualities_37 ?_
            refine lv_aloadN hx hb dX2_readQualities_40 (lv_at hl 0 rfl) ?_
            refine lv_ifnonnullN hx hb dX2_readQualities_42 ?_
            refine lv_iconst (v := 0) hx hb dX2_readQualities_45 (by decide) ?_
            refine lv_goto (tgt := 60) hx hb dX2_readQualities_46 (by decide) ?_
            refine aStI (S := (scr S qa2 qb2 qc2)) (t := 32) (i := 2) X w h.a2.1 (by decide) rfl rfl (by rw [h.a2.2]; exact nI_vp hlt_k2 (by decide)) dX2_readQualities_60 (fun H locs w => ?_)
            rw [scr_2] at w
            generalize (upd (mA (scr S qa2 qb2 qc2) 32 2) (nI k2).toNatClampNeg 0) = q13 at w
            have h : CI ea (scr S q13 qb2 qc2) ns nj nm nt nr nc := h0.scr _ _ _
            refine lv_iinc (v := nI (k2 + 1)) (lv' := [(2, .int (nI (k2 + 1))), (4, .null), (3, .ref (gG (scr S qa2 qb2 qc2) 8 j1)), (0, .ref (gG S 2 0)), (1, .int a)]) hx hb dX2_readQualities_61 hl (k := 2) rfl (nI_1 _) (by decide) rfl (fun ls hl => ?_)
            refine lv_goto (tgt := 2) hx hb dX2_readQualities_64 (by decide) ?_
            exact ih2 (k2 + 1) q13 qb2 qc2 _ _ _ (by omega) (hlt_k2) w (lv_sub hl [0, 3, 4] rfl)
          · skip
            refine lv_astore (lv' := [(4, .ref (gG (scr S qa2 qb2 qc2) 3 j11)), (3, .ref (gG (scr S qa2 qb2 qc2) 8 j1)), (2, .int (nI k2)), (0, .ref (gG S 2 0)), (1, .int a)]) hx hb dX2_readQualities_29 hl (by decide) rfl (fun ls hl => ?_)
            refine lv_aload_n hx hb dX2_readQualities_31 rfl (lv_at hl 3 rfl) ?_
            refine g_2_2 (S := (scr S qa2 qb2 qc2)) (x := (some (gG (scr S qa2 qb2 qc2) 32 2))) X w h.v2 wF_X2_11 (h.f34) dX2_readQualities_32 ?_
            refine lv_iload_n hx hb dX2_readQualities_35 rfl (lv_at hl 2 rfl) ?_
            refine lv_aload_n hx hb dX2_readQualities_36 rfl (lv_at hl 1 rfl) ?_
            refine lv_ifnull hx hb dX2_readQualities_37 ?_
            refine lv_aload hx hb dX2_readQualities_40 (lv_at hl 0 rfl) ?_
            refine lv_ifnonnull (tgt := 49) hx hb dX2_readQualities_42 (by decide) ?_
            refine lv_aload_n hx hb dX2_readQualities_49 rfl (lv_at hl 3 rfl) ?_
            refine g_2_1 (S := (scr S qa2 qb2 qc2)) (x := (some (gG (scr S qa2 qb2 qc2) 7 0))) X w h.v2 wF_X2_25 (h.f33) dX2_readQualities_50 ?_
            refine lv_aload hx hb dX2_readQualities_53 (lv_at hl 0 rfl) ?_
            refine lv_aload_n hx hb dX2_readQualities_55 rfl (lv_at hl 1 rfl) ?_
            refine lv_iload_n hx hb dX2_readQualities_56 rfl (lv_at hl 4 rfl) ?_
            refine cV (S := (scr S qa2 qb2 qc2)) (nA := 3) (As := [.ref (gG (scr S qa2 qb2 qc2) 3 j11), .ref (gG (scr S qa2 qb2 qc2) 8 j1), .int a]) (rest := [.int (nI k2), .ref (gG (scr S qa2 qb2 qc2) 32 2)]) X w hl h.v7 (m_X7_qualityOf G (scr S qa2 qb2 qc2) ea ns nj nm nt nr nc h j11 j1 hlj11 hlj1 a) wY_X7_qualityOf wM_X2_61 wIn_X7_qualityOf wSe_X7_X7_qualityOf wI_X7 (by decide) rfl (by decide +kernel) rfl rfl dX2_readQualities_57 ⟨by decide, by decide⟩ (Nat.le_of_ble_eq_true rfl) (⟨Nat.le_of_ble_eq_true rfl, Nat.le_of_ble_eq_true rfl⟩) (fun v17 S1 H locs hp w => ?_)
            obtain ⟨⟨x16, hbx16, rfl⟩, rfl⟩ := hp
            refine aStI (S := (scr S qa2 qb2 qc2)) (t := 32) (i := 2) X w h.a2.1 (by decide) rfl rfl (by rw [h.a2.2]; exact nI_vp hlt_k2 (by decide)) dX2_readQualities_60 (fun H locs w => ?_)
            rw [scr_2] at w
            generalize (upd (mA (scr S qa2 qb2 qc2) 32 2) (nI k2).toNatClampNeg (nI x16)) = q18 at w
            have h : CI ea (scr S q18 qb2 qc2) ns nj nm nt nr nc := h0.scr _ _ _
            refine lv_iinc (v := nI (k2 + 1)) (lv' := [(2, .int (nI (k2 + 1))), (4, .ref (gG (scr S qa2 qb2 qc2) 3 j11)), (3, .ref (gG (scr S qa2 qb2 qc2) 8 j1)), (0, .ref (gG S 2 0)), (1, .int a)]) hx hb dX2_readQualities_61 hl (k := 2) rfl (nI_1 _) (by decide) rfl (fun ls hl => ?_)
            refine lv_goto (tgt := 2) hx hb dX2_readQualities_64 (by decide) ?_
            exact ih2 (k2 + 1) q18 qb2 qc2 _ _ _ (by omega) (hlt_k2) w (lv_sub hl [0, 3, 4] rfl)
  exact L2 _ 0 a0 b0 c0 _ _ _ (Nat.lt_succ_self _) (Nat.zero_le _) w (lv_sub hl [0, 1, 2] rfl)

theorem n_X2_readQualities {s0 : State} {l : Launch} {D : va_G} {cy : Nat → ClassId} (G : Gl s0 l D cy) (S : HS) (ea ns nj nm nt nr nc : Nat) (h : CI ea S ns nj nm nt nr nc) (a : Int32) : Ctr s0 l D cy yX2_readQualities cX2_readQualities 5 none rm_m_X2_readQualities S [.ref (gG S 2 0), .int a] (PSv S) := by
  have z := m_X2_readQualities G S ea ns nj nm nt nr nc h a (mA S 32 2) (mA S 32 3) (mA S 32 4)
  rw [scr_id] at z
  exact z
theorem dX2_qualityOfPair_0 : decode cX2_qualityOfPair 0 = .ok (.iload_n 1, 1) := by decide +kernel
theorem dX2_qualityOfPair_1 : decode cX2_qualityOfPair 1 = .ok (.iconst 0, 1) := by decide +kernel
theorem dX2_qualityOfPair_2 : decode cX2_qualityOfPair 2 = .ok (.bipush 39, 2) := by decide +kernel
theorem dX2_qualityOfPair_4 : decode cX2_qualityOfPair 4 = .ok (.invokestatic 41, 3) := by decide +kernel
theorem dX2_qualityOfPair_7 : decode cX2_qualityOfPair 7 = .ok (.ifCond .eq 7, 3) := by decide +kernel
theorem dX2_qualityOfPair_10 : decode cX2_qualityOfPair 10 = .ok (.iconst 0, 1) := by decide +kernel
theorem dX2_qualityOfPair_11 : decode cX2_qualityOfPair 11 = .ok (.goto 9, 3) := by decide +kernel
theorem dX2_qualityOfPair_14 : decode cX2_qualityOfPair 14 = .ok (.aload_n 0, 1) := by decide +kernel
theorem dX2_qualityOfPair_15 : decode cX2_qualityOfPair 15 = .ok (.getfield 11, 3) := by decide +kernel
theorem dX2_qualityOfPair_18 : decode cX2_qualityOfPair 18 = .ok (.iload_n 1, 1) := by decide +kernel
theorem dX2_qualityOfPair_19 : decode cX2_qualityOfPair 19 = .ok (.iaload, 1) := by decide +kernel
theorem dX2_qualityOfPair_20 : decode cX2_qualityOfPair 20 = .ok (.ireturn, 1) := by decide +kernel
abbrev rm_m_X2_qualityOfPair : Room := { frames := 1, cells := 0, slots := 0, locals := 22 }
set_option maxHeartbeats 4000000 in
set_option maxRecDepth 100000 in
theorem m_X2_qualityOfPair {s0 : State} {l : Launch} {D : va_G} {cy : Nat → ClassId} (G : Gl s0 l D cy) (S : HS) (ea ns nj nm nt nr nc : Nat) (h : CI ea S ns nj nm nt nr nc) (a : Int32) : Ctr s0 l D cy yX2_qualityOfPair cX2_qualityOfPair 2 (some .int) rm_m_X2_qualityOfPair S [.ref (gG S 2 0), .int a] (PXi S) := by
  refine pro "CavershamShift$Matching" G rfl rfl (Nat.le_of_ble_eq_true rfl) (fun p e s m below meth c ls X w hnm hl => ?_)
  have hx := X.1
  have hb := X.2.1
  have hown := X.2.2.2.1
  have hts := X.2.2.2.2.1
  have hl : lv_has ls 2 [(0, .ref (gG S 2 0)), (1, .int a)] := hl
  refine lv_iload_n hx hb dX2_qualityOfPair_0 rfl (lv_at hl 1 rfl) ?_
  refine lv_iconst (v := 0) hx hb dX2_qualityOfPair_1 (by decide) ?_
  refine lv_bipush (v := 39) hx hb dX2_qualityOfPair_2 (by decide) ?_
  refine cSN (S := S) (nA := 3) (As := [.int a, .int 0, .int 39]) (rest := []) X w hl (m_X10_isOutside G S a 0 39) wY_X10_isOutside wMN_X2_41 wSt_X10_isOutside wI_X10 (by decide +kernel) rfl rfl dX2_qualityOfPair_4 ⟨by decide, by decide⟩ (Nat.le_of_ble_eq_true rfl) (⟨Nat.le_of_ble_eq_true rfl, Nat.le_of_ble_eq_true rfl⟩) (fun v1 S1 H locs hp w => ?_)
  obtain ⟨rfl, rfl⟩ := hp
  refine lv_if_eq (tgt := 14) hx hb dX2_qualityOfPair_7 (by decide) (fun hc => ?_) (fun hc => ?_)
  · obtain ⟨j, hj, rfl⟩ := out_in (n := 40) (by decide) (by rw [show (nI 40 - 1 : Int32) = 39 by decide]; exact b2i_f hc)
    refine lv_aload_n hx hb dX2_qualityOfPair_14 rfl (lv_at hl 0 rfl) ?_
    refine g_2_2 (S := S) (x := (some (gG S 32 2))) X w h.v2 wF_X2_11 (h.f34) dX2_qualityOfPair_15 ?_
    refine lv_iload_n hx hb dX2_qualityOfPair_18 rfl (lv_at hl 1 rfl) ?_
    refine aLdI (S := S) (t := 32) (v := mA S 32 2 j) X w h.a2.1 (by decide) rfl rfl (by rw [h.a2.2]; exact nI_vp hj (by decide)) (by rw [cl_nI (n := 40) hj (by decide)]) dX2_qualityOfPair_19 ?_
    exact rI X w rfl dX2_qualityOfPair_20 (by decide) (by decide) (px_i)
  · refine lv_iconst (v := 0) hx hb dX2_qualityOfPair_10 (by decide) ?_
    refine lv_goto (tgt := 20) hx hb dX2_qualityOfPair_11 (by decide) ?_
    exact rI X w rfl dX2_qualityOfPair_20 (by decide) (by decide) (px_i)

theorem dX2_pairAtSet_0 : decode cX2_pairAtSet 0 = .ok (.iload_n 1, 1) := by decide +kernel
theorem dX2_pairAtSet_1 : decode cX2_pairAtSet 1 = .ok (.iconst 0, 1) := by decide +kernel
theorem dX2_pairAtSet_2 : decode cX2_pairAtSet 2 = .ok (.iconst 2, 1) := by decide +kernel
theorem dX2_pairAtSet_3 : decode cX2_pairAtSet 3 = .ok (.invokestatic 41, 3) := by decide +kernel
theorem dX2_pairAtSet_6 : decode cX2_pairAtSet 6 = .ok (.ifCond .eq 7, 3) := by decide +kernel
theorem dX2_pairAtSet_9 : decode cX2_pairAtSet 9 = .ok (.iconst (-1), 1) := by decide +kernel
theorem dX2_pairAtSet_10 : decode cX2_pairAtSet 10 = .ok (.goto 9, 3) := by decide +kernel
theorem dX2_pairAtSet_13 : decode cX2_pairAtSet 13 = .ok (.aload_n 0, 1) := by decide +kernel
theorem dX2_pairAtSet_14 : decode cX2_pairAtSet 14 = .ok (.getfield 18, 3) := by decide +kernel
theorem dX2_pairAtSet_17 : decode cX2_pairAtSet 17 = .ok (.iload_n 1, 1) := by decide +kernel
theorem dX2_pairAtSet_18 : decode cX2_pairAtSet 18 = .ok (.iaload, 1) := by decide +kernel
theorem dX2_pairAtSet_19 : decode cX2_pairAtSet 19 = .ok (.ireturn, 1) := by decide +kernel
abbrev rm_m_X2_pairAtSet : Room := { frames := 1, cells := 0, slots := 0, locals := 22 }
set_option maxHeartbeats 4000000 in
set_option maxRecDepth 100000 in
theorem m_X2_pairAtSet {s0 : State} {l : Launch} {D : va_G} {cy : Nat → ClassId} (G : Gl s0 l D cy) (S : HS) (ea ns nj nm nt nr nc : Nat) (h : CI ea S ns nj nm nt nr nc) (a : Int32) : Ctr s0 l D cy yX2_pairAtSet cX2_pairAtSet 2 (some .int) rm_m_X2_pairAtSet S [.ref (gG S 2 0), .int a] (PXi S) := by
  refine pro "CavershamShift$Matching" G rfl rfl (Nat.le_of_ble_eq_true rfl) (fun p e s m below meth c ls X w hnm hl => ?_)
  have hx := X.1
  have hb := X.2.1
  have hown := X.2.2.2.1
  have hts := X.2.2.2.2.1
  have hl : lv_has ls 2 [(0, .ref (gG S 2 0)), (1, .int a)] := hl
  refine lv_iload_n hx hb dX2_pairAtSet_0 rfl (lv_at hl 1 rfl) ?_
  refine lv_iconst (v := 0) hx hb dX2_pairAtSet_1 (by decide) ?_
  refine lv_iconst (v := 2) hx hb dX2_pairAtSet_2 (by decide) ?_
  refine cSN (S := S) (nA := 3) (As := [.int a, .int 0, .int 2]) (rest := []) X w hl (m_X10_isOutside G S a 0 2) wY_X10_isOutside wMN_X2_41 wSt_X10_isOutside wI_X10 (by decide +kernel) rfl rfl dX2_pairAtSet_3 ⟨by decide, by decide⟩ (Nat.le_of_ble_eq_true rfl) (⟨Nat.le_of_ble_eq_true rfl, Nat.le_of_ble_eq_true rfl⟩) (fun v1 S1 H locs hp w => ?_)
  obtain ⟨rfl, rfl⟩ := hp
  refine lv_if_eq (tgt := 13) hx hb dX2_pairAtSet_6 (by decide) (fun hc => ?_) (fun hc => ?_)
  · obtain ⟨j, hj, rfl⟩ := out_in (n := 3) (by decide) (by rw [show (nI 3 - 1 : Int32) = 2 by decide]; exact b2i_f hc)
    refine lv_aload_n hx hb dX2_pairAtSet_13 rfl (lv_at hl 0 rfl) ?_
    refine g_2_4 (S := S) (x := (some (gG S 32 4))) X w h.v2 wF_X2_18 (h.f36) dX2_pairAtSet_14 ?_
    refine lv_iload_n hx hb dX2_pairAtSet_17 rfl (lv_at hl 1 rfl) ?_
    refine aLdI (S := S) (t := 32) (v := mA S 32 4 j) X w h.a4.1 (by decide) rfl rfl (by rw [h.a4.2]; exact nI_vp hj (by decide)) (by rw [cl_nI (n := 3) hj (by decide)]) dX2_pairAtSet_18 ?_
    exact rI X w rfl dX2_pairAtSet_19 (by decide) (by decide) (px_i)
  · refine lv_iconst (v := (-1)) hx hb dX2_pairAtSet_9 (by decide) ?_
    refine lv_goto (tgt := 19) hx hb dX2_pairAtSet_10 (by decide) ?_
    exact rI X w rfl dX2_pairAtSet_19 (by decide) (by decide) (px_i)

theorem dX2_stationAtSet_0 : decode cX2_stationAtSet 0 = .ok (.aload_n 0, 1) := by decide +kernel
theorem dX2_stationAtSet_1 : decode cX2_stationAtSet 1 = .ok (.iload_n 1, 1) := by decide +kernel
theorem dX2_stationAtSet_2 : decode cX2_stationAtSet 2 = .ok (.invokevirtual 45, 3) := by decide +kernel
theorem dX2_stationAtSet_5 : decode cX2_stationAtSet 5 = .ok (.istore_n 2, 1) := by decide +kernel
theorem dX2_stationAtSet_6 : decode cX2_stationAtSet 6 = .ok (.iload_n 2, 1) := by decide +kernel
theorem dX2_stationAtSet_7 : decode cX2_stationAtSet 7 = .ok (.iconst (-1), 1) := by decide +kernel
theorem dX2_stationAtSet_8 : decode cX2_stationAtSet 8 = .ok (.if_icmp .ne 7, 3) := by decide +kernel
theorem dX2_stationAtSet_11 : decode cX2_stationAtSet 11 = .ok (.iconst (-1), 1) := by decide +kernel
theorem dX2_stationAtSet_12 : decode cX2_stationAtSet 12 = .ok (.goto 6, 3) := by decide +kernel
theorem dX2_stationAtSet_15 : decode cX2_stationAtSet 15 = .ok (.iload_n 2, 1) := by decide +kernel
theorem dX2_stationAtSet_16 : decode cX2_stationAtSet 16 = .ok (.iconst 5, 1) := by decide +kernel
theorem dX2_stationAtSet_17 : decode cX2_stationAtSet 17 = .ok (.idiv, 1) := by decide +kernel
theorem dX2_stationAtSet_18 : decode cX2_stationAtSet 18 = .ok (.ireturn, 1) := by decide +kernel
abbrev rm_m_X2_stationAtSet : Room := { frames := 2, cells := 0, slots := 0, locals := 43 }
set_option maxHeartbeats 4000000 in
set_option maxRecDepth 100000 in
theorem m_X2_stationAtSet {s0 : State} {l : Launch} {D : va_G} {cy : Nat → ClassId} (G : Gl s0 l D cy) (S : HS) (ea ns nj nm nt nr nc : Nat) (h : CI ea S ns nj nm nt nr nc) (a : Int32) : Ctr s0 l D cy yX2_stationAtSet cX2_stationAtSet 3 (some .int) rm_m_X2_stationAtSet S [.ref (gG S 2 0), .int a] (PXi S) := by
  refine pro "CavershamShift$Matching" G rfl rfl (Nat.le_of_ble_eq_true rfl) (fun p e s m below meth c ls X w hnm hl => ?_)
  have hx := X.1
  have hb := X.2.1
  have hown := X.2.2.2.1
  have hts := X.2.2.2.2.1
  have hl : lv_has ls 3 [(0, .ref (gG S 2 0)), (1, .int a)] := hl
  refine lv_aload_n hx hb dX2_stationAtSet_0 rfl (lv_at hl 0 rfl) ?_
  refine lv_iload_n hx hb dX2_stationAtSet_1 rfl (lv_at hl 1 rfl) ?_
  refine cV (S := S) (nA := 1) (As := [.int a]) (rest := []) X w hl h.v2 (m_X2_pairAtSet G S ea ns nj nm nt nr nc h a) wY_X2_pairAtSet wM_X2_45 wIn_X2_pairAtSet wSe_X2_X2_pairAtSet wI_X2 (by decide) rfl (by decide +kernel) rfl rfl dX2_stationAtSet_2 ⟨by decide, by decide⟩ (Nat.le_of_ble_eq_true rfl) (⟨Nat.le_of_ble_eq_true rfl, Nat.le_of_ble_eq_true rfl⟩) (fun v2 S1 H locs hp w => ?_)
  obtain ⟨⟨x1, rfl⟩, rfl⟩ := hp
  refine lv_istore_n (lv' := [(2, .int x1), (0, .ref (gG S 2 0)), (1, .int a)]) hx hb dX2_stationAtSet_5 rfl hl (by decide) rfl (fun ls hl => ?_)
  refine lv_iload_n hx hb dX2_stationAtSet_6 rfl (lv_at hl 0 rfl) ?_
  refine lv_iconst (v := (-1)) hx hb dX2_stationAtSet_7 (by decide) ?_
  refine lv_icmp_ne (tgt := 15) hx hb dX2_stationAtSet_8 (by decide) (fun hc3 => ?_) (fun hc3 => ?_)
  · refine lv_iload_n hx hb dX2_stationAtSet_15 rfl (lv_at hl 0 rfl) ?_
    refine lv_iconst (v := 5) hx hb dX2_stationAtSet_16 (by decide) ?_
    refine lv_idiv hx hb dX2_stationAtSet_17 (by decide) ?_
    exact rI X w rfl dX2_stationAtSet_18 (by decide) (by decide) (px_i)
  · refine lv_iconst (v := (-1)) hx hb dX2_stationAtSet_11 (by decide) ?_
    refine lv_goto (tgt := 18) hx hb dX2_stationAtSet_12 (by decide) ?_
    exact rI X w rfl dX2_stationAtSet_18 (by decide) (by decide) (px_i)

theorem dX2_monitorAtSet_0 : decode cX2_monitorAtSet 0 = .ok (.aload_n 0, 1) := by decide +kernel
theorem dX2_monitorAtSet_1 : decode cX2_monitorAtSet 1 = .ok (.iload_n 1, 1) := by decide +kernel
theorem dX2_monitorAtSet_2 : decode cX2_monitorAtSet 2 = .ok (.invokevirtual 45, 3) := by decide +kernel
theorem dX2_monitorAtSet_5 : decode cX2_monitorAtSet 5 = .ok (.istore_n 2, 1) := by decide +kernel
theorem dX2_monitorAtSet_6 : decode cX2_monitorAtSet 6 = .ok (.iload_n 2, 1) := by decide +kernel
theorem dX2_monitorAtSet_7 : decode cX2_monitorAtSet 7 = .ok (.iconst (-1), 1) := by decide +kernel
theorem dX2_monitorAtSet_8 : decode cX2_monitorAtSet 8 = .ok (.if_icmp .ne 7, 3) := by decide +kernel
theorem dX2_monitorAtSet_11 : decode cX2_monitorAtSet 11 = .ok (.iconst (-1), 1) := by decide +kernel
theorem dX2_monitorAtSet_12 : decode cX2_monitorAtSet 12 = .ok (.goto 6, 3) := by decide +kernel
theorem dX2_monitorAtSet_15 : decode cX2_monitorAtSet 15 = .ok (.iload_n 2, 1) := by decide +kernel
theorem dX2_monitorAtSet_16 : decode cX2_monitorAtSet 16 = .ok (.iconst 5, 1) := by decide +kernel
theorem dX2_monitorAtSet_17 : decode cX2_monitorAtSet 17 = .ok (.irem, 1) := by decide +kernel
theorem dX2_monitorAtSet_18 : decode cX2_monitorAtSet 18 = .ok (.ireturn, 1) := by decide +kernel
abbrev rm_m_X2_monitorAtSet : Room := { frames := 2, cells := 0, slots := 0, locals := 43 }
set_option maxHeartbeats 4000000 in
set_option maxRecDepth 100000 in
theorem m_X2_monitorAtSet {s0 : State} {l : Launch} {D : va_G} {cy : Nat → ClassId} (G : Gl s0 l D cy) (S : HS) (ea ns nj nm nt nr nc : Nat) (h : CI ea S ns nj nm nt nr nc) (a : Int32) : Ctr s0 l D cy yX2_monitorAtSet cX2_monitorAtSet 3 (some .int) rm_m_X2_monitorAtSet S [.ref (gG S 2 0), .int a] (PXi S) := by
  refine pro "CavershamShift$Matching" G rfl rfl (Nat.le_of_ble_eq_true rfl) (fun p e s m below meth c ls X w hnm hl => ?_)
  have hx := X.1
  have hb := X.2.1
  have hown := X.2.2.2.1
  have hts := X.2.2.2.2.1
  have hl : lv_has ls 3 [(0, .ref (gG S 2 0)), (1, .int a)] := hl
  refine lv_aload_n hx hb dX2_monitorAtSet_0 rfl (lv_at hl 0 rfl) ?_
  refine lv_iload_n hx hb dX2_monitorAtSet_1 rfl (lv_at hl 1 rfl) ?_
  refine cV (S := S) (nA := 1) (As := [.int a]) (rest := []) X w hl h.v2 (m_X2_pairAtSet G S ea ns nj nm nt nr nc h a) wY_X2_pairAtSet wM_X2_45 wIn_X2_pairAtSet wSe_X2_X2_pairAtSet wI_X2 (by decide) rfl (by decide +kernel) rfl rfl dX2_monitorAtSet_2 ⟨by decide, by decide⟩ (Nat.le_of_ble_eq_true rfl) (⟨Nat.le_of_ble_eq_true rfl, Nat.le_of_ble_eq_true rfl⟩) (fun v2 S1 H locs hp w => ?_)
  obtain ⟨⟨x1, rfl⟩, rfl⟩ := hp
  refine lv_istore_n (lv' := [(2, .int x1), (0, .ref (gG S 2 0)), (1, .int a)]) hx hb dX2_monitorAtSet_5 rfl hl (by decide) rfl (fun ls hl => ?_)
  refine lv_iload_n hx hb dX2_monitorAtSet_6 rfl (lv_at hl 0 rfl) ?_
  refine lv_iconst (v := (-1)) hx hb dX2_monitorAtSet_7 (by decide) ?_
  refine lv_icmp_ne (tgt := 15) hx hb dX2_monitorAtSet_8 (by decide) (fun hc3 => ?_) (fun hc3 => ?_)
  · refine lv_iload_n hx hb dX2_monitorAtSet_15 rfl (lv_at hl 0 rfl) ?_
    refine lv_iconst (v := 5) hx hb dX2_monitorAtSet_16 (by decide) ?_
    refine lv_irem hx hb dX2_monitorAtSet_17 (by decide) ?_
    exact rI X w rfl dX2_monitorAtSet_18 (by decide) (by decide) (px_i)
  · refine lv_iconst (v := (-1)) hx hb dX2_monitorAtSet_11 (by decide) ?_
    refine lv_goto (tgt := 18) hx hb dX2_monitorAtSet_12 (by decide) ?_
    exact rI X w rfl dX2_monitorAtSet_18 (by decide) (by decide) (px_i)

theorem dX2_addStation_0 : decode cX2_addStation 0 = .ok (.bipush 31, 2) := by decide +kernel
theorem dX2_addStation_2 : decode cX2_addStation 2 = .ok (.istore 4, 2) := by decide +kernel
theorem dX2_addStation_4 : decode cX2_addStation 4 = .ok (.iload 4, 2) := by decide +kernel
theorem dX2_addStation_6 : decode cX2_addStation 6 = .ok (.ifCond .lt 140, 3) := by decide +kernel
theorem dX2_addStation_9 : decode cX2_addStation 9 = .ok (.aload_n 0, 1) := by decide +kernel
theorem dX2_addStation_10 : decode cX2_addStation 10 = .ok (.getfield 15, 3) := by decide +kernel
theorem dX2_addStation_13 : decode cX2_addStation 13 = .ok (.iload 4, 2) := by decide +kernel
theorem dX2_addStation_15 : decode cX2_addStation 15 = .ok (.iaload, 1) := by decide +kernel
theorem dX2_addStation_16 : decode cX2_addStation 16 = .ok (.iconst (-1), 1) := by decide +kernel
theorem dX2_addStation_17 : decode cX2_addStation 17 = .ok (.if_icmp .eq 16, 3) := by decide +kernel
theorem dX2_addStation_20 : decode cX2_addStation 20 = .ok (.iload 4, 2) := by decide +kernel
theorem dX2_addStation_22 : decode cX2_addStation 22 = .ok (.invokestatic 95, 3) := by decide +kernel
theorem dX2_addStation_25 : decode cX2_addStation 25 = .ok (.iload_n 2, 1) := by decide +kernel
theorem dX2_addStation_26 : decode cX2_addStation 26 = .ok (.if_icmp .ge 7, 3) := by decide +kernel
theorem dX2_addStation_29 : decode cX2_addStation 29 = .ok (.iconst 1, 1) := by decide +kernel
theorem dX2_addStation_30 : decode cX2_addStation 30 = .ok (.goto 4, 3) := by decide +kernel
theorem dX2_addStation_33 : decode cX2_addStation 33 = .ok (.iconst 0, 1) := by decide +kernel
theorem dX2_addStation_34 : decode cX2_addStation 34 = .ok (.istore 5, 2) := by decide +kernel
theorem dX2_addStation_36 : decode cX2_addStation 36 = .ok (.iconst 0, 1) := by decide +kernel
theorem dX2_addStation_37 : decode cX2_addStation 37 = .ok (.istore 6, 2) := by decide +kernel
theorem dX2_addStation_39 : decode cX2_addStation 39 = .ok (.iload 5, 2) := by decide +kernel
theorem dX2_addStation_41 : decode cX2_addStation 41 = .ok (.ifCond .eq 99, 3) := by decide +kernel
theorem dX2_addStation_44 : decode cX2_addStation 44 = .ok (.iload 6, 2) := by decide +kernel
theorem dX2_addStation_46 : decode cX2_addStation 46 = .ok (.iconst 5, 1) := by decide +kernel
theorem dX2_addStation_47 : decode cX2_addStation 47 = .ok (.if_icmp .ge 93, 3) := by decide +kernel
theorem dX2_addStation_50 : decode cX2_addStation 50 = .ok (.iload 4, 2) := by decide +kernel
theorem dX2_addStation_52 : decode cX2_addStation 52 = .ok (.iconst 1, 1) := by decide +kernel
theorem dX2_addStation_53 : decode cX2_addStation 53 = .ok (.iload 6, 2) := by decide +kernel
theorem dX2_addStation_55 : decode cX2_addStation 55 = .ok (.ishl, 1) := by decide +kernel
theorem dX2_addStation_56 : decode cX2_addStation 56 = .ok (.ior, 1) := by decide +kernel
theorem dX2_addStation_57 : decode cX2_addStation 57 = .ok (.istore 7, 2) := by decide +kernel
theorem dX2_addStation_59 : decode cX2_addStation 59 = .ok (.aload_n 0, 1) := by decide +kernel
theorem dX2_addStation_60 : decode cX2_addStation 60 = .ok (.iload_n 1, 1) := by decide +kernel
theorem dX2_addStation_61 : decode cX2_addStation 61 = .ok (.iconst 5, 1) := by decide +kernel
theorem dX2_addStation_62 : decode cX2_addStation 62 = .ok (.imul, 1) := by decide +kernel
theorem dX2_addStation_63 : decode cX2_addStation 63 = .ok (.iload 6, 2) := by decide +kernel
theorem dX2_addStation_65 : decode cX2_addStation 65 = .ok (.iadd, 1) := by decide +kernel
theorem dX2_addStation_66 : decode cX2_addStation 66 = .ok (.invokevirtual 100, 3) := by decide +kernel
theorem dX2_addStation_69 : decode cX2_addStation 69 = .ok (.istore 8, 2) := by decide +kernel
theorem dX2_addStation_71 : decode cX2_addStation 71 = .ok (.iload 4, 2) := by decide +kernel
theorem dX2_addStation_73 : decode cX2_addStation 73 = .ok (.iload_n 3, 1) := by decide +kernel
theorem dX2_addStation_74 : decode cX2_addStation 74 = .ok (.ior, 1) := by decide +kernel
theorem dX2_addStation_75 : decode cX2_addStation 75 = .ok (.iload 6, 2) := by decide +kernel
theorem dX2_addStation_77 : decode cX2_addStation 77 = .ok (.invokestatic 65, 3) := by decide +kernel
theorem dX2_addStation_80 : decode cX2_addStation 80 = .ok (.ifCond .ne 7, 3) := by decide +kernel
theorem dX2_addStation_83 : decode cX2_addStation 83 = .ok (.iconst 1, 1) := by decide +kernel
theorem dX2_addStation_84 : decode cX2_addStation 84 = .ok (.goto 4, 3) := by decide +kernel
theorem dX2_addStation_87 : decode cX2_addStation 87 = .ok (.iconst 0, 1) := by decide +kernel
theorem dX2_addStation_88 : decode cX2_addStation 88 = .ok (.istore 9, 2) := by decide +kernel
theorem dX2_addStation_90 : decode cX2_addStation 90 = .ok (.iload 9, 2) := by decide +kernel
theorem dX2_addStation_92 : decode cX2_addStation 92 = .ok (.ifCond .eq 42, 3) := by decide +kernel
theorem dX2_addStation_95 : decode cX2_addStation 95 = .ok (.iload 8, 2) := by decide +kernel
theorem dX2_addStation_97 : decode cX2_addStation 97 = .ok (.ifCond .le 37, 3) := by decide +kernel
theorem dX2_addStation_100 : decode cX2_addStation 100 = .ok (.iload 7, 2) := by decide +kernel
theorem dX2_addStation_102 : decode cX2_addStation 102 = .ok (.bipush 32, 2) := by decide +kernel
theorem dX2_addStation_104 : decode cX2_addStation 104 = .ok (.if_icmp .ge 30, 3) := by decide +kernel
theorem dX2_addStation_107 : decode cX2_addStation 107 = .ok (.aload_n 0, 1) := by decide +kernel
theorem dX2_addStation_108 : decode cX2_addStation 108 = .ok (.getfield 15, 3) := by decide +kernel
theorem dX2_addStation_111 : decode cX2_addStation 111 = .ok (.iload 7, 2) := by decide +kernel
theorem dX2_addStation_113 : decode cX2_addStation 113 = .ok (.aload_n 0, 1) := by decide +kernel
theorem dX2_addStation_114 : decode cX2_addStation 114 = .ok (.getfield 15, 3) := by decide +kernel
theorem dX2_addStation_117 : decode cX2_addStation 117 = .ok (.iload 7, 2) := by decide +kernel
theorem dX2_addStation_119 : decode cX2_addStation 119 = .ok (.iaload, 1) := by decide +kernel
theorem dX2_addStation_120 : decode cX2_addStation 120 = .ok (.aload_n 0, 1) := by decide +kernel
theorem dX2_addStation_121 : decode cX2_addStation 121 = .ok (.getfield 15, 3) := by decide +kernel
theorem dX2_addStation_124 : decode cX2_addStation 124 = .ok (.iload 4, 2) := by decide +kernel
theorem dX2_addStation_126 : decode cX2_addStation 126 = .ok (.iaload, 1) := by decide +kernel
theorem dX2_addStation_127 : decode cX2_addStation 127 = .ok (.iload 8, 2) := by decide +kernel
theorem dX2_addStation_129 : decode cX2_addStation 129 = .ok (.iadd, 1) := by decide +kernel
theorem dX2_addStation_130 : decode cX2_addStation 130 = .ok (.invokestatic 89, 3) := by decide +kernel
theorem dX2_addStation_133 : decode cX2_addStation 133 = .ok (.iastore, 1) := by decide +kernel
theorem dX2_addStation_134 : decode cX2_addStation 134 = .ok (.iinc 6 1, 3) := by decide +kernel
theorem dX2_addStation_137 : decode cX2_addStation 137 = .ok (.goto (-98), 3) := by decide +kernel
theorem dX2_addStation_140 : decode cX2_addStation 140 = .ok (.iinc 4 (-1), 3) := by decide +kernel
theorem dX2_addStation_143 : decode cX2_addStation 143 = .ok (.goto (-139), 3) := by decide +kernel
theorem dX2_addStation_146 : decode cX2_addStation 146 = .ok (.return_, 1) := by decide +kernel
abbrev rm_m_X2_addStation : Room := { frames := 2, cells := 0, slots := 0, locals := 43 }
set_option maxHeartbeats 4000000 in
set_option maxRecDepth 100000 in
theorem m_X2_addStation {s0 : State} {l : Launch} {D : va_G} {cy : Nat → ClassId} (G : Gl s0 l D cy) (S : HS) (ea ns nj nm nt nr nc : Nat) (h : CI ea S ns nj nm nt nr nc) (i b e_ : Int32) (a0 b0 c0 : Nat → Int32) : Ctr s0 l D cy yX2_addStation cX2_addStation 10 none rm_m_X2_addStation (scr S a0 b0 c0) [.ref (gG S 2 0), .int i, .int b, .int e_] (PSv S) := by
  refine pro "CavershamShift$Matching" G rfl rfl (Nat.le_of_ble_eq_true rfl) (fun p e s m below meth c ls X w hnm hl => ?_)
  have hx := X.1
  have hb := X.2.1
  have hown := X.2.2.2.1
  have hts := X.2.2.2.2.1
  have hl : lv_has ls 10 [(0, .ref (gG S 2 0)), (1, .int i), (2, .int b), (3, .int e_)] := hl
  have h0 := h
  have h : CI ea (scr S a0 b0 c0) ns nj nm nt nr nc := h0.scr _ _ _
  refine lv_bipush (v := 31) hx hb dX2_addStation_0 (by decide) ?_
  refine lv_topi (fun z1 ez1 => ?_)
  obtain rfl : z1 = (nI 32 + (-1)) := ez1.trans (by decide)
  refine lv_istore (lv' := [(4, .int (nI 32 + (-1))), (0, .ref (gG S 2 0)), (1, .int i), (2, .int b), (3, .int e_)]) hx hb dX2_addStation_2 hl (by decide) rfl (fun ls hl => ?_)
  have L4 : ∀ (N : Nat) (kw : Nat) (qa4 : Nat → Int32) (qb4 : Nat → Int32) (qc4 : Nat → Int32) (H : Heap) (locs : List Loc) (ls : Array Slot), kw < N → (kw ≤ 32) → Wd s0 D cy (scr S qa4 qb4 qc4) s.heap H locs → lv_has ls 10 [(0, .ref (gG S 2 0)), (1, .int i), (2, .int b), (3, .int e_), (4, .int (nI kw + (-1)))] → W p l e rm_m_X2_addStation s m ([.ref (gG S 2 0), .int i, .int b, .int e_] : List Value).toArray below meth c H locs 0 0 (MQ below (GQ s0 D cy (PSv S)) ([.ref (gG S 2 0), .int i, .int b, .int e_] : List Value).toArray s rm_m_X2_addStation.cells rm_m_X2_addStation.slots (A0 s0)) (F0 m 4 ls []) := by
    intro N
    induction N with
    | zero => intros; omega
    | succ N ih4 =>
      intro kw qa4 qb4 qc4 H locs ls hmu hkw w hl
      have h : CI ea (scr S qa4 qb4 qc4) ns nj nm nt nr nc := h0.scr _ _ _
      refine lv_iload hx hb dX2_addStation_4 (lv_at hl 4 rfl) ?_
      refine lv_if_lt (tgt := 146) hx hb dX2_addStation_6 (by decide) (fun hcw => ?_) (fun hcw => ?_)
      · exact rV X w rfl dX2_addStation_146 (by decide) (by decide) (ps_v)
      · obtain ⟨mn, rfl⟩ := m1_ge hcw
        rw [pk_m1] at hl
        have hmn : mn < 32 := hkw
        refine lv_aload_n hx hb dX2_addStation_9 rfl (lv_at hl 0 rfl) ?_
        refine g_2_3 (S := (scr S qa4 qb4 qc4)) (x := (some (gG (scr S qa4 qb4 qc4) 32 3))) X w h.v2 wF_X2_15 (h.f35) dX2_addStation_10 ?_
        refine lv_iload hx hb dX2_addStation_13 (lv_at hl 4 rfl) ?_
        refine aLdI (S := (scr S qa4 qb4 qc4)) (t := 32) (v := mA (scr S qa4 qb4 qc4) 32 3 mn) X w h.a3.1 (by decide) rfl rfl (by rw [h.a3.2]; exact nI_vp hmn (by decide)) (by rw [cl_nI (n := 32) hmn (by decide)]) dX2_addStation_15 ?_
        refine lv_iconst (v := (-1)) hx hb dX2_addStation_16 (by decide) ?_
        have J34 : ∀ (z34_0 : Bool) (H : Heap) (locs : List Loc) (ls : Array Slot), Wd s0 D cy (scr S qa4 qb4 qc4) s.heap H locs → lv_has ls 10 [(0, .ref (gG S 2 0)), (1, .int i), (2, .int b), (3, .int e_), (4, .int (nI mn))] → W p l e rm_m_X2_addStation s m ([.ref (gG S 2 0), .int i, .int b, .int e_] : List Value).toArray below meth c H locs 0 0 (MQ below (GQ s0 D cy (PSv S)) ([.ref (gG S 2 0), .int i, .int b, .int e_] : List Value).toArray s rm_m_X2_addStation.cells rm_m_X2_addStation.slots (A0 s0)) (F0 m 34 ls [.int (b2i z34_0)]) := by
          intro z34_0 H locs ls  w hl
          refine lv_istore (lv' := [(5, .int (b2i z34_0)), (0, .ref (gG S 2 0)), (1, .int i), (2, .int b), (3, .int e_), (4, .int (nI mn))]) hx hb dX2_addStation_34 hl (by decide) rfl (fun ls hl => ?_)
          refine lv_iconst (v := 0) hx hb dX2_addStation_36 (by decide) ?_
          refine lv_istore (lv' := [(6, .int 0), (5, .int (b2i z34_0)), (0, .ref (gG S 2 0)), (1, .int i), (2, .int b), (3, .int e_), (4, .int (nI mn))]) hx hb dX2_addStation_37 hl (by decide) rfl (fun ls hl => ?_)
          have L39 : ∀ (N : Nat) (k39 : Nat) (qa39 : Nat → Int32) (qb39 : Nat → Int32) (qc39 : Nat → Int32) (H : Heap) (locs : List Loc) (ls : Array Slot), 5 - k39 < N → (k39 ≤ 5) → Wd s0 D cy (scr S qa39 qb39 qc39) s.heap H locs → lv_has ls 10 [(6, .int (nI k39)), (5, .int (b2i z34_0)), (0, .ref (gG S 2 0)), (1, .int i), (2, .int b), (3, .int e_), (4, .int (nI mn))] → W p l e rm_m_X2_addStation s m ([.ref (gG S 2 0), .int i, .int b, .int e_] : List Value).toArray below meth c H locs 0 0 (MQ below (GQ s0 D cy (PSv S)) ([.ref (gG S 2 0), .int i, .int b, .int e_] : List Value).toArray s rm_m_X2_addStation.cells rm_m_X2_addStation.slots (A0 s0)) (F0 m 39 ls []) := by
            intro N
            induction N with
            | zero => intros; omega
            | succ N ih39 =>
              intro k39 qa39 qb39 qc39 H locs ls hmu hk_k39 w hl
              have h : CI ea (scr S qa39 qb39 qc39) ns nj nm nt nr nc := h0.scr _ _ _
              refine lv_iload hx hb dX2_addStation_39 (lv_at hl 1 rfl) ?_
              have J140 : ∀  (H : Heap) (locs : List Loc) (ls : Array Slot), Wd s0 D cy (scr S qa39 qb39 qc39) s.heap H locs → lv_has ls 10 [(6, .int (nI k39)), (5, .int (b2i z34_0)), (0, .ref (gG S 2 0)), (1, .int i), (2, .int b), (3, .int e_), (4, .int (nI mn))] → W p l e rm_m_X2_addStation s m ([.ref (gG S 2 0), .int i, .int b, .int e_] : List Value).toArray below meth c H locs 0 0 (MQ below (GQ s0 D cy (PSv S)) ([.ref (gG S 2 0), .int i, .int b, .int e_] : List Value).toArray s rm_m_X2_addStation.cells rm_m_X2_addStation.slots (A0 s0)) (F0 m 140 ls []) := by
                intro  H locs ls  w hl
                refine lv_iinc (v := (nI mn + (-1))) (lv' := [(4, .int (nI mn + (-1))), (6, .int (nI k39)), (5, .int (b2i z34_0)), (0, .ref (gG S 2 0)), (1, .int i), (2, .int b), (3, .int e_)]) hx hb dX2_addStation_140 hl (k := 6) rfl (rfl) (by decide) rfl (fun ls hl => ?_)
                refine lv_goto (tgt := 4) hx hb dX2_addStation_143 (by decide) ?_
                exact ih4 mn qa39 qb39 qc39 _ _ _ (by omega) (by omega) w (lv_sub hl [3, 4, 5, 6, 0] rfl)
              refine lv_if_eq (tgt := 140) hx hb dX2_addStation_41 (by decide) (fun hc2 => ?_) (fun hc2 => ?_)
              · exact J140  _ _ _  w (lv_sub hl [0, 1, 2, 3, 4, 5, 6] rfl)
              · refine lv_iload hx hb dX2_addStation_44 (lv_at hl 0 rfl) ?_
                refine lv_iconst (v := 5) hx hb dX2_addStation_46 (by decide) ?_
                refine lv_icmp_ge (tgt := 140) hx hb dX2_addStation_47 (by decide) (fun hc_k39 => ?_) (fun hc_k39 => ?_)
                · have hge_k39 : 5 ≤ k39 := by
                    skip
                    exact (nI_leI (a := 5) (b := k39) (by omega) (by omega)).mp hc_k39
                  exact J140  _ _ _  w (lv_sub hl [0, 1, 2, 3, 4, 5, 6] rfl)
                · have hlt_k39 : k39 < 5 := by
                    skip
                    exact Nat.lt_of_not_le (fun z => hc_k39 ((nI_leI (a := 5) (b := k39) (by omega) (by omega)).mpr z))
                  refine lv_iload hx hb dX2_addStation_50 (lv_at hl 6 rfl) ?_
                  refine lv_iconst (v := 1) hx hb dX2_addStation_52 (by decide) ?_
                  refine lv_iload hx hb dX2_addStation_53 (lv_at hl 0 rfl) ?_
                  refine lv_ishl hx hb dX2_addStation_55 ?_
                  refine lv_ior hx hb dX2_addStation_56 ?_
                  refine lv_topi (fun z3 ez3 => ?_)
                  obtain rfl : z3 = nI (mn ||| 2 ^ k39) := ez3.trans ((or32 mn hmn k39 hlt_k39).1)
                  refine lv_istore (lv' := [(7, .int (nI (mn ||| 2 ^ k39))), (6, .int (nI k39)), (5, .int (b2i z34_0)), (0, .ref (gG S 2 0)), (1, .int i), (2, .int b), (3, .int e_), (4, .int (nI mn))]) hx hb dX2_addStation_57 hl (by decide) rfl (fun ls hl => ?_)
                  refine lv_aload_n hx hb dX2_addStation_59 rfl (lv_at hl 3 rfl) ?_
                  refine lv_iload_n hx hb dX2_addStation_60 rfl (lv_at hl 4 rfl) ?_
                  refine lv_iconst (v := 5) hx hb dX2_addStation_61 (by decide) ?_
                  refine lv_imul hx hb dX2_addStation_62 ?_
                  refine lv_iload hx hb dX2_addStation_63 (lv_at hl 1 rfl) ?_
                  refine lv_iadd hx hb dX2_addStation_65 ?_
                  refine cV (S := (scr S qa39 qb39 qc39)) (nA := 1) (As := [.int ((i * 5) + (nI k39))]) (rest := []) X w hl h.v2 (m_X2_qualityOfPair G (scr S qa39 qb39 qc39) ea ns nj nm nt nr nc h ((i * 5) + (nI k39))) wY_X2_qualityOfPair wM_X2_100 wIn_X2_qualityOfPair wSe_X2_X2_qualityOfPair wI_X2 (by decide) rfl (by decide +kernel) rfl rfl dX2_addStation_66 ⟨by decide, by decide⟩ (Nat.le_of_ble_eq_true rfl) (⟨Nat.le_of_ble_eq_true rfl, Nat.le_of_ble_eq_true rfl⟩) (fun v5 S1 H locs hp w => ?_)
                  obtain ⟨⟨x4, rfl⟩, rfl⟩ := hp
                  refine lv_istore (lv' := [(8, .int x4), (7, .int (nI (mn ||| 2 ^ k39))), (6, .int (nI k39)), (5, .int (b2i z34_0)), (0, .ref (gG S 2 0)), (1, .int i), (2, .int b), (3, .int e_), (4, .int (nI mn))]) hx hb dX2_addStation_69 hl (by decide) rfl (fun ls hl => ?_)
                  refine lv_iload hx hb dX2_addStation_71 (lv_at hl 8 rfl) ?_
                  refine lv_iload_n hx hb dX2_addStation_73 rfl (lv_at hl 7 rfl) ?_
                  refine lv_ior hx hb dX2_addStation_74 ?_
                  refine lv_iload hx hb dX2_addStation_75 (lv_at hl 2 rfl) ?_
                  refine cSN (S := (scr S qa39 qb39 qc39)) (nA := 2) (As := [.int ((nI mn) ||| e_), .int (nI k39)]) (rest := []) X w hl (m_X10_isIn G (scr S qa39 qb39 qc39) ((nI mn) ||| e_) (nI k39)) wY_X10_isIn wMN_X2_65 wSt_X10_isIn wI_X10 (by decide +kernel) rfl rfl dX2_addStation_77 ⟨by decide, by decide⟩ (Nat.le_of_ble_eq_true rfl) (⟨Nat.le_of_ble_eq_true rfl, Nat.le_of_ble_eq_true rfl⟩) (fun v6 S1 H locs hp w => ?_)
                  obtain ⟨rfl, rfl⟩ := hp
                  have J88 : ∀ (z88_0 : Bool) (H : Heap) (locs : List Loc) (ls : Array Slot), Wd s0 D cy (scr S qa39 qb39 qc39) s.heap H locs → lv_has ls 10 [(8, .int x4), (7, .int (nI (mn ||| 2 ^ k39))), (6, .int (nI k39)), (5, .int (b2i z34_0)), (0, .ref (gG S 2 0)), (1, .int i), (2, .int b), (3, .int e_), (4, .int (nI mn))] → W p l e rm_m_X2_addStation s m ([.ref (gG S 2 0), .int i, .int b, .int e_] : List Value).toArray below meth c H locs 0 0 (MQ below (GQ s0 D cy (PSv S)) ([.ref (gG S 2 0), .int i, .int b, .int e_] : List Value).toArray s rm_m_X2_addStation.cells rm_m_X2_addStation.slots (A0 s0)) (F0 m 88 ls [.int (b2i z88_0)]) := by
                    intro z88_0 H locs ls  w hl
                    refine lv_istore (lv' := [(9, .int (b2i z88_0)), (8, .int x4), (7, .int (nI (mn ||| 2 ^ k39))), (6, .int (nI k39)), (5, .int (b2i z34_0)), (0, .ref (gG S 2 0)), (1, .int i), (2, .int b), (3, .int e_), (4, .int (nI mn))]) hx hb dX2_addStation_88 hl (by decide) rfl (fun ls hl => ?_)
                    refine lv_iload hx hb dX2_addStation_90 (lv_at hl 0 rfl) ?_
                    have J134 : ∀ (ja134 : Nat → Int32) (jb134 : Nat → Int32) (jc134 : Nat → Int32) (H : Heap) (locs : List Loc) (ls : Array Slot), Wd s0 D cy (scr S ja134 jb134 jc134) s.heap H locs → lv_has ls 10 [(9, .int (b2i z88_0)), (8, .int x4), (7, .int (nI (mn ||| 2 ^ k39))), (6, .int (nI k39)), (5, .int (b2i z34_0)), (0, .ref (gG S 2 0)), (1, .int i), (2, .int b), (3, .int e_), (4, .int (nI mn))] → W p l e rm_m_X2_addStation s m ([.ref (gG S 2 0), .int i, .int b, .int e_] : List Value).toArray below meth c H locs 0 0 (MQ below (GQ s0 D cy (PSv S)) ([.ref (gG S 2 0), .int i, .int b, .int e_] : List Value).toArray s rm_m_X2_addStation.cells rm_m_X2_addStation.slots (A0 s0)) (F0 m 134 ls []) := by
                      intro ja134 jb134 jc134 H locs ls  w hl
                      have h : CI ea (scr S ja134 jb134 jc134) ns nj nm nt nr nc := h0.scr _ _ _
                      refine lv_iinc (v := nI (k39 + 1)) (lv' := [(6, .int (nI (k39 + 1))), (9, .int (b2i z88_0)), (8, .int x4), (7, .int (nI (mn ||| 2 ^ k39))), (5, .int (b2i z34_0)), (0, .ref (gG S 2 0)), (1, .int i), (2, .int b), (3, .int e_), (4, .int (nI mn))]) hx hb dX2_addStation_134 hl (k := 3) rfl (nI_1 _) (by decide) rfl (fun ls hl => ?_)
                      refine lv_goto (tgt := 39) hx hb dX2_addStation_137 (by decide) ?_
                      exact ih39 (k39 + 1) ja134 jb134 jc134 _ _ _ (by omega) (hlt_k39) w (lv_sub hl [0, 4, 5, 6, 7, 8, 9] rfl)
                    refine lv_if_eq (tgt := 134) hx hb dX2_addStation_92 (by decide) (fun hc7 => ?_) (fun hc7 => ?_)
                    · exact J134 qa39 qb39 qc39 _ _ _  w (lv_sub hl [0, 1, 2, 3, 4, 5, 6, 7, 8, 9] rfl)
                    · refine lv_iload hx hb dX2_addStation_95 (lv_at hl 1 rfl) ?_
                      refine lv_if_le (tgt := 134) hx hb dX2_addStation_97 (by decide) (fun hc8 => ?_) (fun hc8 => ?_)
                      · exact J134 qa39 qb39 qc39 _ _ _  w (lv_sub hl [0, 1, 2, 3, 4, 5, 6, 7, 8, 9] rfl)
                      · refine lv_iload hx hb dX2_addStation_100 (lv_at hl 2 rfl) ?_
                        refine lv_bipush (v := 32) hx hb dX2_addStation_102 (by decide) ?_
                        refine lv_icmp_ge (tgt := 134) hx hb dX2_addStation_104 (by decide) (fun hc9 => ?_) (fun hc9 => ?_)
                        · exact J134 qa39 qb39 qc39 _ _ _  w (lv_sub hl [0, 1, 2, 3, 4, 5, 6, 7, 8, 9] rfl)
                        · refine lv_aload_n hx hb dX2_addStation_107 rfl (lv_at hl 5 rfl) ?_
                          refine g_2_3 (S := (scr S qa39 qb39 qc39)) (x := (some (gG (scr S qa39 qb39 qc39) 32 3))) X w h.v2 wF_X2_15 (h.f35) dX2_addStation_108 ?_
                          refine lv_iload hx hb dX2_addStation_111 (lv_at hl 2 rfl) ?_
                          refine lv_aload_n hx hb dX2_addStation_113 rfl (lv_at hl 5 rfl) ?_
                          refine g_2_3 (S := (scr S qa39 qb39 qc39)) (x := (some (gG (scr S qa39 qb39 qc39) 32 3))) X w h.v2 wF_X2_15 (h.f35) dX2_addStation_114 ?_
                          refine lv_iload hx hb dX2_addStation_117 (lv_at hl 2 rfl) ?_
                          refine aLdI (S := (scr S qa39 qb39 qc39)) (t := 32) (v := mA (scr S qa39 qb39 qc39) 32 3 (mn ||| 2 ^ k39)) X w h.a3.1 (by decide) rfl rfl (by rw [h.a3.2]; exact nI_vp (or32 mn hmn k39 hlt_k39).2 (by decide)) (by rw [cl_nI (n := 32) (or32 mn hmn k39 hlt_k39).2 (by decide)]) dX2_addStation_119 ?_
                          refine lv_aload_n hx hb dX2_addStation_120 rfl (lv_at hl 5 rfl) ?_
                          refine g_2_3 (S := (scr S qa39 qb39 qc39)) (x := (some (gG (scr S qa39 qb39 qc39) 32 3))) X w h.v2 wF_X2_15 (h.f35) dX2_addStation_121 ?_
                          refine lv_iload hx hb dX2_addStation_124 (lv_at hl 9 rfl) ?_
                          refine aLdI (S := (scr S qa39 qb39 qc39)) (t := 32) (v := mA (scr S qa39 qb39 qc39) 32 3 mn) X w h.a3.1 (by decide) rfl rfl (by rw [h.a3.2]; exact nI_vp hmn (by decide)) (by rw [cl_nI (n := 32) hmn (by decide)]) dX2_addStation_126 ?_
                          refine lv_iload hx hb dX2_addStation_127 (lv_at hl 1 rfl) ?_
                          refine lv_iadd hx hb dX2_addStation_129 ?_
                          refine va_mmax hx hb (X.2.2.1.trans hl.1.symm) hown (hts _ wM_X2_89) (hts _ wSt_J9_max_7cf53) (hts _ wI_J9) (hts _ wY_J9_max_7cf53) (by decide) (Nat.le_of_ble_eq_true rfl) (Nat.le_of_ble_eq_true rfl) (Nat.le_of_ble_eq_true rfl) dX2_addStation_130 ?_
                          refine aStI (S := (scr S qa39 qb39 qc39)) (t := 32) (i := 3) X w h.a3.1 (by decide) rfl rfl (by rw [h.a3.2]; exact nI_vp (or32 mn hmn k39 hlt_k39).2 (by decide)) dX2_addStation_133 (fun H locs w => ?_)
                          rw [scr_3] at w
                          generalize (upd (mA (scr S qa39 qb39 qc39) 32 3) (nI (mn ||| 2 ^ k39)).toNatClampNeg (if (mA (scr S qa39 qb39 qc39) 32 3 (mn ||| 2 ^ k39)) < ((mA (scr S qa39 qb39 qc39) 32 3 mn) + x4) then ((mA (scr S qa39 qb39 qc39) 32 3 mn) + x4) else (mA (scr S qa39 qb39 qc39) 32 3 (mn ||| 2 ^ k39)))) = q10 at w
                          have h : CI ea (scr S qa39 q10 qc39) ns nj nm nt nr nc := h0.scr _ _ _
                          exact J134 qa39 q10 qc39 _ _ _  w (lv_sub hl [0, 1, 2, 3, 4, 5, 6, 7, 8, 9] rfl)
                  refine lv_if_ne (tgt := 87) hx hb dX2_addStation_80 (by decide) (fun hc13 => ?_) (fun hc13 => ?_)
                  · refine lv_iconst (v := 0) hx hb dX2_addStation_87 (by decide) ?_
                    exact J88 false _ _ _  w (lv_sub hl [0, 1, 2, 3, 4, 5, 6, 7, 8] rfl)
                  · refine lv_iconst (v := 1) hx hb dX2_addStation_83 (by decide) ?_
                    refine lv_goto (tgt := 88) hx hb dX2_addStation_84 (by decide) ?_
                    exact J88 true _ _ _  w (lv_sub hl [0, 1, 2, 3, 4, 5, 6, 7, 8] rfl)
          exact L39 _ 0 qa4 qb4 qc4 _ _ _ (Nat.lt_succ_self _) (Nat.zero_le _) w (lv_sub hl [0, 1, 2, 3, 4, 5, 6] rfl)
        refine lv_icmp_eq (tgt := 33) hx hb dX2_addStation_17 (by decide) (fun hc14 => ?_) (fun hc14 => ?_)
        · refine lv_iconst (v := 0) hx hb dX2_addStation_33 (by decide) ?_
          exact J34 false _ _ _  w (lv_sub hl [0, 1, 2, 3, 4] rfl)
        · refine lv_iload hx hb dX2_addStation_20 (lv_at hl 4 rfl) ?_
          refine cS (S := (scr S qa4 qb4 qc4)) (nA := 1) (As := [.int (nI mn)]) (rest := []) X w hl (m_J6_bitCount_0f7a4 G (scr S qa4 qb4 qc4) (nI mn)) wY_J6_bitCount_0f7a4 wM_X2_95 wSt_J6_bitCount_0f7a4 wI_J6 (by decide +kernel) rfl rfl dX2_addStation_22 ⟨by decide, by decide⟩ (Nat.le_of_ble_eq_true rfl) (⟨Nat.le_of_ble_eq_true rfl, Nat.le_of_ble_eq_true rfl⟩) (fun v16 S1 H locs hp w => ?_)
          obtain ⟨⟨x15, rfl⟩, rfl⟩ := hp
          refine lv_iload_n hx hb dX2_addStation_25 rfl (lv_at hl 2 rfl) ?_
          refine lv_icmp_ge (tgt := 33) hx hb dX2_addStation_26 (by decide) (fun hc17 => ?_) (fun hc17 => ?_)
          · refine lv_iconst (v := 0) hx hb dX2_addStation_33 (by decide) ?_
            exact J34 false _ _ _  w (lv_sub hl [0, 1, 2, 3, 4] rfl)
          · refine lv_iconst (v := 1) hx hb dX2_addStation_29 (by decide) ?_
            refine lv_goto (tgt := 34) hx hb dX2_addStation_30 (by decide) ?_
            exact J34 true _ _ _  w (lv_sub hl [0, 1, 2, 3, 4] rfl)
  exact L4 _ 32 a0 b0 c0 _ _ _ (Nat.lt_succ_self _) (Nat.le_refl _) w (lv_sub hl [1, 2, 3, 4, 0] rfl)

theorem n_X2_addStation {s0 : State} {l : Launch} {D : va_G} {cy : Nat → ClassId} (G : Gl s0 l D cy) (S : HS) (ea ns nj nm nt nr nc : Nat) (h : CI ea S ns nj nm nt nr nc) (i b e_ : Int32) : Ctr s0 l D cy yX2_addStation cX2_addStation 10 none rm_m_X2_addStation S [.ref (gG S 2 0), .int i, .int b, .int e_] (PSv S) := by
  have z := m_X2_addStation G S ea ns nj nm nt nr nc h i b e_ (mA S 32 2) (mA S 32 3) (mA S 32 4)
  rw [scr_id] at z
  exact z
theorem dX2_greatestOf_0 : decode cX2_greatestOf 0 = .ok (.aload_n 0, 1) := by decide +kernel
theorem dX2_greatestOf_1 : decode cX2_greatestOf 1 = .ok (.getfield 15, 3) := by decide +kernel
theorem dX2_greatestOf_4 : decode cX2_greatestOf 4 = .ok (.iconst (-1), 1) := by decide +kernel
theorem dX2_greatestOf_5 : decode cX2_greatestOf 5 = .ok (.invokestatic 69, 3) := by decide +kernel
theorem dX2_greatestOf_8 : decode cX2_greatestOf 8 = .ok (.aload_n 0, 1) := by decide +kernel
theorem dX2_greatestOf_9 : decode cX2_greatestOf 9 = .ok (.getfield 15, 3) := by decide +kernel
theorem dX2_greatestOf_12 : decode cX2_greatestOf 12 = .ok (.iconst 0, 1) := by decide +kernel
theorem dX2_greatestOf_13 : decode cX2_greatestOf 13 = .ok (.iconst 0, 1) := by decide +kernel
theorem dX2_greatestOf_14 : decode cX2_greatestOf 14 = .ok (.iastore, 1) := by decide +kernel
theorem dX2_greatestOf_15 : decode cX2_greatestOf 15 = .ok (.iconst 0, 1) := by decide +kernel
theorem dX2_greatestOf_16 : decode cX2_greatestOf 16 = .ok (.istore 4, 2) := by decide +kernel
theorem dX2_greatestOf_18 : decode cX2_greatestOf 18 = .ok (.iload 4, 2) := by decide +kernel
theorem dX2_greatestOf_20 : decode cX2_greatestOf 20 = .ok (.aload_n 0, 1) := by decide +kernel
theorem dX2_greatestOf_21 : decode cX2_greatestOf 21 = .ok (.getfield 21, 3) := by decide +kernel
theorem dX2_greatestOf_24 : decode cX2_greatestOf 24 = .ok (.getfield 75, 3) := by decide +kernel
theorem dX2_greatestOf_27 : decode cX2_greatestOf 27 = .ok (.invokevirtual 79, 3) := by decide +kernel
theorem dX2_greatestOf_30 : decode cX2_greatestOf 30 = .ok (.if_icmp .ge 26, 3) := by decide +kernel
theorem dX2_greatestOf_33 : decode cX2_greatestOf 33 = .ok (.iload_n 2, 1) := by decide +kernel
theorem dX2_greatestOf_34 : decode cX2_greatestOf 34 = .ok (.iload 4, 2) := by decide +kernel
theorem dX2_greatestOf_36 : decode cX2_greatestOf 36 = .ok (.invokestatic 65, 3) := by decide +kernel
theorem dX2_greatestOf_39 : decode cX2_greatestOf 39 = .ok (.ifCond .ne 11, 3) := by decide +kernel
theorem dX2_greatestOf_42 : decode cX2_greatestOf 42 = .ok (.aload_n 0, 1) := by decide +kernel
theorem dX2_greatestOf_43 : decode cX2_greatestOf 43 = .ok (.iload 4, 2) := by decide +kernel
theorem dX2_greatestOf_45 : decode cX2_greatestOf 45 = .ok (.iload_n 1, 1) := by decide +kernel
theorem dX2_greatestOf_46 : decode cX2_greatestOf 46 = .ok (.iload_n 3, 1) := by decide +kernel
theorem dX2_greatestOf_47 : decode cX2_greatestOf 47 = .ok (.invokevirtual 85, 3) := by decide +kernel
theorem dX2_greatestOf_50 : decode cX2_greatestOf 50 = .ok (.iinc 4 1, 3) := by decide +kernel
theorem dX2_greatestOf_53 : decode cX2_greatestOf 53 = .ok (.goto (-35), 3) := by decide +kernel
theorem dX2_greatestOf_56 : decode cX2_greatestOf 56 = .ok (.iconst 0, 1) := by decide +kernel
theorem dX2_greatestOf_57 : decode cX2_greatestOf 57 = .ok (.istore 4, 2) := by decide +kernel
theorem dX2_greatestOf_59 : decode cX2_greatestOf 59 = .ok (.iconst 0, 1) := by decide +kernel
theorem dX2_greatestOf_60 : decode cX2_greatestOf 60 = .ok (.istore 5, 2) := by decide +kernel
theorem dX2_greatestOf_62 : decode cX2_greatestOf 62 = .ok (.iload 5, 2) := by decide +kernel
theorem dX2_greatestOf_64 : decode cX2_greatestOf 64 = .ok (.bipush 32, 2) := by decide +kernel
theorem dX2_greatestOf_66 : decode cX2_greatestOf 66 = .ok (.if_icmp .ge 23, 3) := by decide +kernel
theorem dX2_greatestOf_69 : decode cX2_greatestOf 69 = .ok (.iload 4, 2) := by decide +kernel
theorem dX2_greatestOf_71 : decode cX2_greatestOf 71 = .ok (.aload_n 0, 1) := by decide +kernel
theorem dX2_greatestOf_72 : decode cX2_greatestOf 72 = .ok (.getfield 15, 3) := by decide +kernel
theorem dX2_greatestOf_75 : decode cX2_greatestOf 75 = .ok (.iload 5, 2) := by decide +kernel
theorem dX2_greatestOf_77 : decode cX2_greatestOf 77 = .ok (.iaload, 1) := by decide +kernel
theorem dX2_greatestOf_78 : decode cX2_greatestOf 78 = .ok (.invokestatic 89, 3) := by decide +kernel
theorem dX2_greatestOf_81 : decode cX2_greatestOf 81 = .ok (.istore 4, 2) := by decide +kernel
theorem dX2_greatestOf_83 : decode cX2_greatestOf 83 = .ok (.iinc 5 1, 3) := by decide +kernel
theorem dX2_greatestOf_86 : decode cX2_greatestOf 86 = .ok (.goto (-24), 3) := by decide +kernel
theorem dX2_greatestOf_89 : decode cX2_greatestOf 89 = .ok (.iload 4, 2) := by decide +kernel
theorem dX2_greatestOf_91 : decode cX2_greatestOf 91 = .ok (.ireturn, 1) := by decide +kernel
abbrev rm_m_X2_greatestOf : Room := { frames := 3, cells := 0, slots := 0, locals := 72 }
set_option maxHeartbeats 4000000 in
set_option maxRecDepth 100000 in
theorem m_X2_greatestOf {s0 : State} {l : Launch} {D : va_G} {cy : Nat → ClassId} (G : Gl s0 l D cy) (S : HS) (ea ns nj nm nt nr nc : Nat) (h : CI ea S ns nj nm nt nr nc) (a b d : Int32) (a0 b0 c0 : Nat → Int32) : Ctr s0 l D cy yX2_greatestOf cX2_greatestOf 6 (some .int) rm_m_X2_greatestOf (scr S a0 b0 c0) [.ref (gG S 2 0), .int a, .int b, .int d] (PSi S) := by
  refine pro "CavershamShift$Matching" G rfl rfl (Nat.le_of_ble_eq_true rfl) (fun p e s m below meth c ls X w hnm hl => ?_)
  have hx := X.1
  have hb := X.2.1
  have hown := X.2.2.2.1
  have hts := X.2.2.2.2.1
  have hl : lv_has ls 6 [(0, .ref (gG S 2 0)), (1, .int a), (2, .int b), (3, .int d)] := hl
  have h0 := h
  have h : CI ea (scr S a0 b0 c0) ns nj nm nt nr nc := h0.scr _ _ _
  refine lv_aload_n hx hb dX2_greatestOf_0 rfl (lv_at hl 0 rfl) ?_
  refine g_2_3 (S := (scr S a0 b0 c0)) (x := (some (gG (scr S a0 b0 c0) 32 3))) X w h.v2 wF_X2_15 (h.f35) dX2_greatestOf_1 ?_
  refine lv_iconst (v := (-1)) hx hb dX2_greatestOf_4 (by decide) ?_
  refine cS (S := (scr S a0 b0 c0)) (nA := 2) (As := [.ref (gG (scr S a0 b0 c0) 32 3), .int (-1)]) (rest := []) X w hl (m_J7_fill_53178 G (scr S a0 b0 c0) 3 32 (-1) h.a3.1 h.a3.2 (by decide)) wY_J7_fill_53178 wM_X2_69 wSt_J7_fill_53178 wI_J7 (by decide +kernel) rfl rfl dX2_greatestOf_5 ⟨by decide, by decide⟩ (Nat.le_of_ble_eq_true rfl) (⟨Nat.le_of_ble_eq_true rfl, Nat.le_of_ble_eq_true rfl⟩) (fun v2 S1 H locs hp w => ?_)
  obtain ⟨rfl, f1, hff1, rfl⟩ := hp
  rw [scr_3] at w
  have h : CI ea (scr S a0 f1 c0) ns nj nm nt nr nc := h0.scr _ _ _
  refine lv_aload_n hx hb dX2_greatestOf_8 rfl (lv_at hl 0 rfl) ?_
  refine g_2_3 (S := (scr S a0 f1 c0)) (x := (some (gG (scr S a0 f1 c0) 32 3))) X w h.v2 wF_X2_15 (h.f35) dX2_greatestOf_9 ?_
  refine lv_iconst (v := 0) hx hb dX2_greatestOf_12 (by decide) ?_
  refine lv_iconst (v := 0) hx hb dX2_greatestOf_13 (by decide) ?_
  refine aStI (S := (scr S a0 f1 c0)) (t := 32) (i := 3) X w h.a3.1 (by decide) rfl rfl (by rw [h.a3.2]; exact nI_vp (by decide) (by decide)) dX2_greatestOf_14 (fun H locs w => ?_)
  rw [scr_3] at w
  generalize (upd (mA (scr S a0 f1 c0) 32 3) ((0 : Int32)).toNatClampNeg 0) = q3 at w
  have h : CI ea (scr S a0 q3 c0) ns nj nm nt nr nc := h0.scr _ _ _
  refine lv_iconst (v := 0) hx hb dX2_greatestOf_15 (by decide) ?_
  refine lv_istore (lv' := [(4, .int 0), (0, .ref (gG S 2 0)), (1, .int a), (2, .int b), (3, .int d)]) hx hb dX2_greatestOf_16 hl (by decide) rfl (fun ls hl => ?_)
  have L18 : ∀ (N : Nat) (k18 : Nat) (qa18 : Nat → Int32) (qb18 : Nat → Int32) (qc18 : Nat → Int32) (H : Heap) (locs : List Loc) (ls : Array Slot), ns - k18 < N → (k18 ≤ ns) → Wd s0 D cy (scr S qa18 qb18 qc18) s.heap H locs → lv_has ls 6 [(4, .int (nI k18)), (0, .ref (gG S 2 0)), (1, .int a), (2, .int b), (3, .int d)] → W p l e rm_m_X2_greatestOf s m ([.ref (gG S 2 0), .int a, .int b, .int d] : List Value).toArray below meth c H locs 0 0 (MQ below (GQ s0 D cy (PSi S)) ([.ref (gG S 2 0), .int a, .int b, .int d] : List Value).toArray s rm_m_X2_greatestOf.cells rm_m_X2_greatestOf.slots (A0 s0)) (F0 m 18 ls []) := by
    intro N
    induction N with
    | zero => intros; omega
    | succ N ih18 =>
      intro k18 qa18 qb18 qc18 H locs ls hmu hk_k18 w hl
      have h : CI ea (scr S qa18 qb18 qc18) ns nj nm nt nr nc := h0.scr _ _ _
      refine lv_iload hx hb dX2_greatestOf_18 (lv_at hl 0 rfl) ?_
      refine lv_aload_n hx hb dX2_greatestOf_20 rfl (lv_at hl 1 rfl) ?_
      refine g_2_0 (S := (scr S qa18 qb18 qc18)) (x := (some (gG (scr S qa18 qb18 qc18) 0 0))) X w h.v2 wF_X2_21 (h.f32) dX2_greatestOf_21 ?_
      refine g_0_0 (S := (scr S qa18 qb18 qc18)) (x := (some (gG (scr S qa18 qb18 qc18) 17 0))) X w h.v0 wF_X2_75 (h.f0) dX2_greatestOf_24 ?_
      refine cV (S := (scr S qa18 qb18 qc18)) (nA := 0) (As := []) (rest := [.int (nI k18)]) X w hl h.l_st.1 (m_size G (scr S qa18 qb18 qc18) ea 0 ns h.l_st) wY_Jx4a65c_size_8abf5 wM_X2_79 wIn_Jx4a65c_size_8abf5 wSe_Jx4a65c_Jx4a65c_size_8abf5 wI_Jx4a65c (by decide) rfl (by decide +kernel) rfl rfl dX2_greatestOf_27 ⟨by decide, by decide⟩ (Nat.le_of_ble_eq_true rfl) (⟨Nat.le_of_ble_eq_true rfl, Nat.le_of_ble_eq_true rfl⟩) (fun v6 S1 H locs hp w => ?_)
      obtain ⟨rfl, rfl⟩ := hp
      refine lv_icmp_ge (tgt := 56) hx hb dX2_greatestOf_30 (by decide) (fun hc_k18 => ?_) (fun hc_k18 => ?_)
      · have hge_k18 : ns ≤ k18 := by
          have hb1 := h.b_st
          exact (nI_leI (a := ns) (b := k18) (by omega) (by omega)).mp hc_k18
        refine lv_iconst (v := 0) hx hb dX2_greatestOf_56 (by decide) ?_
        refine lv_istore (lv' := [(4, .int 0), (0, .ref (gG S 2 0)), (1, .int a), (2, .int b), (3, .int d)]) hx hb dX2_greatestOf_57 hl (by decide) rfl (fun ls hl => ?_)
        refine lv_iconst (v := 0) hx hb dX2_greatestOf_59 (by decide) ?_
        refine lv_istore (lv' := [(5, .int 0), (4, .int 0), (0, .ref (gG S 2 0)), (1, .int a), (2, .int b), (3, .int d)]) hx hb dX2_greatestOf_60 hl (by decide) rfl (fun ls hl => ?_)
        have L62 : ∀ (N : Nat) (k62 : Nat) (v62_4 : Int32) (qa62 : Nat → Int32) (qb62 : Nat → Int32) (qc62 : Nat → Int32) (H : Heap) (locs : List Loc) (ls : Array Slot), 32 - k62 < N → (k62 ≤ 32) → Wd s0 D cy (scr S qa62 qb62 qc62) s.heap H locs → lv_has ls 6 [(5, .int (nI k62)), (4, .int v62_4), (0, .ref (gG S 2 0)), (1, .int a), (2, .int b), (3, .int d)] → W p l e rm_m_X2_greatestOf s m ([.ref (gG S 2 0), .int a, .int b, .int d] : List Value).toArray below meth c H locs 0 0 (MQ below (GQ s0 D cy (PSi S)) ([.ref (gG S 2 0), .int a, .int b, .int d] : List Value).toArray s rm_m_X2_greatestOf.cells rm_m_X2_greatestOf.slots (A0 s0)) (F0 m 62 ls []) := by
          intro N
          induction N with
          | zero => intros; omega
          | succ N ih62 =>
            intro k62 v62_4 qa62 qb62 qc62 H locs ls hmu hk_k62 w hl
            have h : CI ea (scr S qa62 qb62 qc62) ns nj nm nt nr nc := h0.scr _ _ _
            refine lv_iload hx hb dX2_greatestOf_62 (lv_at hl 0 rfl) ?_
            refine lv_bipush (v := 32) hx hb dX2_greatestOf_64 (by decide) ?_
            refine lv_icmp_ge (tgt := 89) hx hb dX2_greatestOf_66 (by decide) (fun hc_k62 => ?_) (fun hc_k62 => ?_)
            · have hge_k62 : 32 ≤ k62 := by
                skip
                exact (nI_leI (a := 32) (b := k62) (by omega) (by omega)).mp hc_k62
              refine lv_iload hx hb dX2_greatestOf_89 (lv_at hl 1 rfl) ?_
              exact rI X w rfl dX2_greatestOf_91 (by decide) (by decide) (ps_i)
            · have hlt_k62 : k62 < 32 := by
                skip
                exact Nat.lt_of_not_le (fun z => hc_k62 ((nI_leI (a := 32) (b := k62) (by omega) (by omega)).mpr z))
              refine lv_iload hx hb dX2_greatestOf_69 (lv_at hl 1 rfl) ?_
              refine lv_aload_n hx hb dX2_greatestOf_71 rfl (lv_at hl 2 rfl) ?_
              refine g_2_3 (S := (scr S qa62 qb62 qc62)) (x := (some (gG (scr S qa62 qb62 qc62) 32 3))) X w h.v2 wF_X2_15 (h.f35) dX2_greatestOf_72 ?_
              refine lv_iload hx hb dX2_greatestOf_75 (lv_at hl 0 rfl) ?_
              refine aLdI (S := (scr S qa62 qb62 qc62)) (t := 32) (v := mA (scr S qa62 qb62 qc62) 32 3 k62) X w h.a3.1 (by decide) rfl rfl (by rw [h.a3.2]; exact nI_vp hlt_k62 (by decide)) (by rw [cl_nI (n := 32) hlt_k62 (by decide)]) dX2_greatestOf_77 ?_
              refine va_mmax hx hb (X.2.2.1.trans hl.1.symm) hown (hts _ wM_X2_89) (hts _ wSt_J9_max_7cf53) (hts _ wI_J9) (hts _ wY_J9_max_7cf53) (by decide) (Nat.le_of_ble_eq_true rfl) (Nat.le_of_ble_eq_true rfl) (Nat.le_of_ble_eq_true rfl) dX2_greatestOf_78 ?_
              refine lv_istore (lv' := [(4, .int (if v62_4 < (mA (scr S qa62 qb62 qc62) 32 3 k62) then (mA (scr S qa62 qb62 qc62) 32 3 k62) else v62_4)), (5, .int (nI k62)), (0, .ref (gG S 2 0)), (1, .int a), (2, .int b), (3, .int d)]) hx hb dX2_greatestOf_81 hl (by decide) rfl (fun ls hl => ?_)
              refine lv_iinc (v := nI (k62 + 1)) (lv' := [(5, .int (nI (k62 + 1))), (4, .int (if v62_4 < (mA (scr S qa62 qb62 qc62) 32 3 k62) then (mA (scr S qa62 qb62 qc62) 32 3 k62) else v62_4)), (0, .ref (gG S 2 0)), (1, .int a), (2, .int b), (3, .int d)]) hx hb dX2_greatestOf_83 hl (k := 1) rfl (nI_1 _) (by decide) rfl (fun ls hl => ?_)
              refine lv_goto (tgt := 62) hx hb dX2_greatestOf_86 (by decide) ?_
              exact ih62 (k62 + 1) (if v62_4 < (mA (scr S qa62 qb62 qc62) 32 3 k62) then (mA (scr S qa62 qb62 qc62) 32 3 k62) else v62_4) qa62 qb62 qc62 _ _ _ (by omega) (hlt_k62) w (lv_sub hl [0, 1, 2, 3, 4, 5] rfl)
        exact L62 _ 0 0 qa18 qb18 qc18 _ _ _ (Nat.lt_succ_self _) (Nat.zero_le _) w (lv_sub hl [0, 1, 2, 3, 4, 5] rfl)
      · have hlt_k18 : k18 < ns := by
          have hb1 := h.b_st
          exact Nat.lt_of_not_le (fun z => hc_k18 ((nI_leI (a := ns) (b := k18) (by omega) (by omega)).mpr z))
        refine lv_iload_n hx hb dX2_greatestOf_33 rfl (lv_at hl 3 rfl) ?_
        refine lv_iload hx hb dX2_greatestOf_34 (lv_at hl 0 rfl) ?_
        refine cSN (S := (scr S qa18 qb18 qc18)) (nA := 2) (As := [.int b, .int (nI k18)]) (rest := []) X w hl (m_X10_isIn G (scr S qa18 qb18 qc18) b (nI k18)) wY_X10_isIn wMN_X2_65 wSt_X10_isIn wI_X10 (by decide +kernel) rfl rfl dX2_greatestOf_36 ⟨by decide, by decide⟩ (Nat.le_of_ble_eq_true rfl) (⟨Nat.le_of_ble_eq_true rfl, Nat.le_of_ble_eq_true rfl⟩) (fun v7 S1 H locs hp w => ?_)
        obtain ⟨rfl, rfl⟩ := hp
        have J50 : ∀ (ja50 : Nat → Int32) (jb50 : Nat → Int32) (jc50 : Nat → Int32) (H : Heap) (locs : List Loc) (ls : Array Slot), Wd s0 D cy (scr S ja50 jb50 jc50) s.heap H locs → lv_has ls 6 [(4, .int (nI k18)), (0, .ref (gG S 2 0)), (1, .int a), (2, .int b), (3, .int d)] → W p l e rm_m_X2_greatestOf s m ([.ref (gG S 2 0), .int a, .int b, .int d] : List Value).toArray below meth c H locs 0 0 (MQ below (GQ s0 D cy (PSi S)) ([.ref (gG S 2 0), .int a, .int b, .int d] : List Value).toArray s rm_m_X2_greatestOf.cells rm_m_X2_greatestOf.slots (A0 s0)) (F0 m 50 ls []) := by
          intro ja50 jb50 jc50 H locs ls  w hl
          have h : CI ea (scr S ja50 jb50 jc50) ns nj nm nt nr nc := h0.scr _ _ _
          refine lv_iinc (v := nI (k18 + 1)) (lv' := [(4, .int (nI (k18 + 1))), (0, .ref (gG S 2 0)), (1, .int a), (2, .int b), (3, .int d)]) hx hb dX2_greatestOf_50 hl (k := 0) rfl (nI_1 _) (by decide) rfl (fun ls hl => ?_)
          refine lv_goto (tgt := 18) hx hb dX2_greatestOf_53 (by decide) ?_
          exact ih18 (k18 + 1) ja50 jb50 jc50 _ _ _ (by omega) (hlt_k18) w (lv_sub hl [0, 1, 2, 3, 4] rfl)
        refine lv_if_ne (tgt := 50) hx hb dX2_greatestOf_39 (by decide) (fun hc8 => ?_) (fun hc8 => ?_)
        · exact J50 qa18 qb18 qc18 _ _ _  w (lv_sub hl [0, 1, 2, 3, 4] rfl)
        · refine lv_aload_n hx hb dX2_greatestOf_42 rfl (lv_at hl 1 rfl) ?_
          refine lv_iload hx hb dX2_greatestOf_43 (lv_at hl 0 rfl) ?_
          refine lv_iload_n hx hb dX2_greatestOf_45 rfl (lv_at hl 2 rfl) ?_
          refine lv_iload_n hx hb dX2_greatestOf_46 rfl (lv_at hl 4 rfl) ?_
          refine cV (S := (scr S qa18 qb18 qc18)) (nA := 3) (As := [.int (nI k18), .int a, .int d]) (rest := []) X w hl h.v2 (n_X2_addStation G (scr S qa18 qb18 qc18) ea ns nj nm nt nr nc h (nI k18) a d) wY_X2_addStation wM_X2_85 wIn_X2_addStation wSe_X2_X2_addStation wI_X2 (by decide) rfl (by decide +kernel) rfl rfl dX2_greatestOf_47 ⟨by decide, by decide⟩ (Nat.le_of_ble_eq_true rfl) (⟨Nat.le_of_ble_eq_true rfl, Nat.le_of_ble_eq_true rfl⟩) (fun v13 S1 H locs hp w => ?_)
          obtain ⟨rfl, q10, q11, q12, rfl⟩ := hp
          rw [scr_scr] at w
          have h : CI ea (scr S q10 q11 q12) ns nj nm nt nr nc := h0.scr _ _ _
          exact J50 q10 q11 q12 _ _ _  w (lv_sub hl [0, 1, 2, 3, 4] rfl)
  exact L18 _ 0 a0 q3 c0 _ _ _ (Nat.lt_succ_self _) (Nat.zero_le _) w (lv_sub hl [0, 1, 2, 3, 4] rfl)

theorem n_X2_greatestOf {s0 : State} {l : Launch} {D : va_G} {cy : Nat → ClassId} (G : Gl s0 l D cy) (S : HS) (ea ns nj nm nt nr nc : Nat) (h : CI ea S ns nj nm nt nr nc) (a b d : Int32) : Ctr s0 l D cy yX2_greatestOf cX2_greatestOf 6 (some .int) rm_m_X2_greatestOf S [.ref (gG S 2 0), .int a, .int b, .int d] (PSi S) := by
  have z := m_X2_greatestOf G S ea ns nj nm nt nr nc h a b d (mA S 32 2) (mA S 32 3) (mA S 32 4)
  rw [scr_id] at z
  exact z
theorem dX2_greatestSum_0 : decode cX2_greatestSum 0 = .ok (.aload_n 0, 1) := by decide +kernel
theorem dX2_greatestSum_1 : decode cX2_greatestSum 1 = .ok (.iload_n 1, 1) := by decide +kernel
theorem dX2_greatestSum_2 : decode cX2_greatestSum 2 = .ok (.invokevirtual 29, 3) := by decide +kernel
theorem dX2_greatestSum_5 : decode cX2_greatestSum 5 = .ok (.aload_n 0, 1) := by decide +kernel
theorem dX2_greatestSum_6 : decode cX2_greatestSum 6 = .ok (.iconst 3, 1) := by decide +kernel
theorem dX2_greatestSum_7 : decode cX2_greatestSum 7 = .ok (.iconst 0, 1) := by decide +kernel
theorem dX2_greatestSum_8 : decode cX2_greatestSum 8 = .ok (.iconst 0, 1) := by decide +kernel
theorem dX2_greatestSum_9 : decode cX2_greatestSum 9 = .ok (.invokevirtual 33, 3) := by decide +kernel
theorem dX2_greatestSum_12 : decode cX2_greatestSum 12 = .ok (.ireturn, 1) := by decide +kernel
abbrev rm_m_X2_greatestSum : Room := { frames := 6, cells := 0, slots := 0, locals := 138 }
set_option maxHeartbeats 4000000 in
set_option maxRecDepth 100000 in
theorem m_X2_greatestSum {s0 : State} {l : Launch} {D : va_G} {cy : Nat → ClassId} (G : Gl s0 l D cy) (S : HS) (ea ns nj nm nt nr nc : Nat) (h : CI ea S ns nj nm nt nr nc) (a : Int32) (a0 b0 c0 : Nat → Int32) : Ctr s0 l D cy yX2_greatestSum cX2_greatestSum 2 (some .int) rm_m_X2_greatestSum (scr S a0 b0 c0) [.ref (gG S 2 0), .int a] (PSi S) := by
  refine pro "CavershamShift$Matching" G rfl rfl (Nat.le_of_ble_eq_true rfl) (fun p e s m below meth c ls X w hnm hl => ?_)
  have hx := X.1
  have hb := X.2.1
  have hown := X.2.2.2.1
  have hts := X.2.2.2.2.1
  have hl : lv_has ls 2 [(0, .ref (gG S 2 0)), (1, .int a)] := hl
  have h0 := h
  have h : CI ea (scr S a0 b0 c0) ns nj nm nt nr nc := h0.scr _ _ _
  refine lv_aload_n hx hb dX2_greatestSum_0 rfl (lv_at hl 0 rfl) ?_
  refine lv_iload_n hx hb dX2_greatestSum_1 rfl (lv_at hl 1 rfl) ?_
  refine cV (S := (scr S a0 b0 c0)) (nA := 1) (As := [.int a]) (rest := []) X w hl h.v2 (n_X2_readQualities G (scr S a0 b0 c0) ea ns nj nm nt nr nc h a) wY_X2_readQualities wM_X2_29 wIn_X2_readQualities wSe_X2_X2_readQualities wI_X2 (by decide) rfl (by decide +kernel) rfl rfl dX2_greatestSum_2 ⟨by decide, by decide⟩ (Nat.le_of_ble_eq_true rfl) (⟨Nat.le_of_ble_eq_true rfl, Nat.le_of_ble_eq_true rfl⟩) (fun v5 S1 H locs hp w => ?_)
  obtain ⟨rfl, q2, q3, q4, rfl⟩ := hp
  rw [scr_scr] at w
  have h : CI ea (scr S q2 q3 q4) ns nj nm nt nr nc := h0.scr _ _ _
  refine lv_aload_n hx hb dX2_greatestSum_5 rfl (lv_at hl 0 rfl) ?_
  refine lv_iconst (v := 3) hx hb dX2_greatestSum_6 (by decide) ?_
  refine lv_iconst (v := 0) hx hb dX2_greatestSum_7 (by decide) ?_
  refine lv_iconst (v := 0) hx hb dX2_greatestSum_8 (by decide) ?_
  refine cV (S := (scr S q2 q3 q4)) (nA := 3) (As := [.int 3, .int 0, .int 0]) (rest := []) X w hl h.v2 (n_X2_greatestOf G (scr S q2 q3 q4) ea ns nj nm nt nr nc h 3 0 0) wY_X2_greatestOf wM_X2_33 wIn_X2_greatestOf wSe_X2_X2_greatestOf wI_X2 (by decide) rfl (by decide +kernel) rfl rfl dX2_greatestSum_9 ⟨by decide, by decide⟩ (Nat.le_of_ble_eq_true rfl) (⟨Nat.le_of_ble_eq_true rfl, Nat.le_of_ble_eq_true rfl⟩) (fun v10 S1 H locs hp w => ?_)
  obtain ⟨⟨x6, rfl⟩, q7, q8, q9, rfl⟩ := hp
  rw [scr_scr] at w
  have h : CI ea (scr S q7 q8 q9) ns nj nm nt nr nc := h0.scr _ _ _
  exact rI X w rfl dX2_greatestSum_12 (by decide) (by decide) (ps_i)

theorem n_X2_greatestSum {s0 : State} {l : Launch} {D : va_G} {cy : Nat → ClassId} (G : Gl s0 l D cy) (S : HS) (ea ns nj nm nt nr nc : Nat) (h : CI ea S ns nj nm nt nr nc) (a : Int32) : Ctr s0 l D cy yX2_greatestSum cX2_greatestSum 2 (some .int) rm_m_X2_greatestSum S [.ref (gG S 2 0), .int a] (PSi S) := by
  have z := m_X2_greatestSum G S ea ns nj nm nt nr nc h a (mA S 32 2) (mA S 32 3) (mA S 32 4)
  rw [scr_id] at z
  exact z
theorem dX2_smallestPair_0 : decode cX2_smallestPair 0 = .ok (.iconst 0, 1) := by decide +kernel
theorem dX2_smallestPair_1 : decode cX2_smallestPair 1 = .ok (.istore 5, 2) := by decide +kernel
theorem dX2_smallestPair_3 : decode cX2_smallestPair 3 = .ok (.iload 5, 2) := by decide +kernel
theorem dX2_smallestPair_5 : decode cX2_smallestPair 5 = .ok (.bipush 40, 2) := by decide +kernel
theorem dX2_smallestPair_7 : decode cX2_smallestPair 7 = .ok (.if_icmp .ge 99, 3) := by decide +kernel
theorem dX2_smallestPair_10 : decode cX2_smallestPair 10 = .ok (.iload 5, 2) := by decide +kernel
theorem dX2_smallestPair_12 : decode cX2_smallestPair 12 = .ok (.iconst 5, 1) := by decide +kernel
theorem dX2_smallestPair_13 : decode cX2_smallestPair 13 = .ok (.idiv, 1) := by decide +kernel
theorem dX2_smallestPair_14 : decode cX2_smallestPair 14 = .ok (.istore 6, 2) := by decide +kernel
theorem dX2_smallestPair_16 : decode cX2_smallestPair 16 = .ok (.iload 5, 2) := by decide +kernel
theorem dX2_smallestPair_18 : decode cX2_smallestPair 18 = .ok (.iconst 5, 1) := by decide +kernel
theorem dX2_smallestPair_19 : decode cX2_smallestPair 19 = .ok (.irem, 1) := by decide +kernel
theorem dX2_smallestPair_20 : decode cX2_smallestPair 20 = .ok (.istore 7, 2) := by decide +kernel
theorem dX2_smallestPair_22 : decode cX2_smallestPair 22 = .ok (.iload_n 3, 1) := by decide +kernel
theorem dX2_smallestPair_23 : decode cX2_smallestPair 23 = .ok (.iload 6, 2) := by decide +kernel
theorem dX2_smallestPair_25 : decode cX2_smallestPair 25 = .ok (.invokestatic 65, 3) := by decide +kernel
theorem dX2_smallestPair_28 : decode cX2_smallestPair 28 = .ok (.ifCond .ne 17, 3) := by decide +kernel
theorem dX2_smallestPair_31 : decode cX2_smallestPair 31 = .ok (.iload 4, 2) := by decide +kernel
theorem dX2_smallestPair_33 : decode cX2_smallestPair 33 = .ok (.iload 7, 2) := by decide +kernel
theorem dX2_smallestPair_35 : decode cX2_smallestPair 35 = .ok (.invokestatic 65, 3) := by decide +kernel
theorem dX2_smallestPair_38 : decode cX2_smallestPair 38 = .ok (.ifCond .ne 7, 3) := by decide +kernel
theorem dX2_smallestPair_41 : decode cX2_smallestPair 41 = .ok (.iconst 1, 1) := by decide +kernel
theorem dX2_smallestPair_42 : decode cX2_smallestPair 42 = .ok (.goto 4, 3) := by decide +kernel
theorem dX2_smallestPair_45 : decode cX2_smallestPair 45 = .ok (.iconst 0, 1) := by decide +kernel
theorem dX2_smallestPair_46 : decode cX2_smallestPair 46 = .ok (.istore 8, 2) := by decide +kernel
theorem dX2_smallestPair_48 : decode cX2_smallestPair 48 = .ok (.iload 8, 2) := by decide +kernel
theorem dX2_smallestPair_50 : decode cX2_smallestPair 50 = .ok (.ifCond .eq 50, 3) := by decide +kernel
theorem dX2_smallestPair_53 : decode cX2_smallestPair 53 = .ok (.aload_n 0, 1) := by decide +kernel
theorem dX2_smallestPair_54 : decode cX2_smallestPair 54 = .ok (.getfield 11, 3) := by decide +kernel
theorem dX2_smallestPair_57 : decode cX2_smallestPair 57 = .ok (.iload 5, 2) := by decide +kernel
theorem dX2_smallestPair_59 : decode cX2_smallestPair 59 = .ok (.iaload, 1) := by decide +kernel
theorem dX2_smallestPair_60 : decode cX2_smallestPair 60 = .ok (.ifCond .le 40, 3) := by decide +kernel
theorem dX2_smallestPair_63 : decode cX2_smallestPair 63 = .ok (.aload_n 0, 1) := by decide +kernel
theorem dX2_smallestPair_64 : decode cX2_smallestPair 64 = .ok (.iload_n 1, 1) := by decide +kernel
theorem dX2_smallestPair_65 : decode cX2_smallestPair 65 = .ok (.iload_n 3, 1) := by decide +kernel
theorem dX2_smallestPair_66 : decode cX2_smallestPair 66 = .ok (.iconst 1, 1) := by decide +kernel
theorem dX2_smallestPair_67 : decode cX2_smallestPair 67 = .ok (.iload 6, 2) := by decide +kernel
theorem dX2_smallestPair_69 : decode cX2_smallestPair 69 = .ok (.ishl, 1) := by decide +kernel
theorem dX2_smallestPair_70 : decode cX2_smallestPair 70 = .ok (.ior, 1) := by decide +kernel
theorem dX2_smallestPair_71 : decode cX2_smallestPair 71 = .ok (.iload 4, 2) := by decide +kernel
theorem dX2_smallestPair_73 : decode cX2_smallestPair 73 = .ok (.iconst 1, 1) := by decide +kernel
theorem dX2_smallestPair_74 : decode cX2_smallestPair 74 = .ok (.iload 7, 2) := by decide +kernel
theorem dX2_smallestPair_76 : decode cX2_smallestPair 76 = .ok (.ishl, 1) := by decide +kernel
theorem dX2_smallestPair_77 : decode cX2_smallestPair 77 = .ok (.ior, 1) := by decide +kernel
theorem dX2_smallestPair_78 : decode cX2_smallestPair 78 = .ok (.invokevirtual 33, 3) := by decide +kernel
theorem dX2_smallestPair_81 : decode cX2_smallestPair 81 = .ok (.istore 9, 2) := by decide +kernel
theorem dX2_smallestPair_83 : decode cX2_smallestPair 83 = .ok (.aload_n 0, 1) := by decide +kernel
theorem dX2_smallestPair_84 : decode cX2_smallestPair 84 = .ok (.getfield 11, 3) := by decide +kernel
theorem dX2_smallestPair_87 : decode cX2_smallestPair 87 = .ok (.iload 5, 2) := by decide +kernel
theorem dX2_smallestPair_89 : decode cX2_smallestPair 89 = .ok (.iaload, 1) := by decide +kernel
theorem dX2_smallestPair_90 : decode cX2_smallestPair 90 = .ok (.iload 9, 2) := by decide +kernel
theorem dX2_smallestPair_92 : decode cX2_smallestPair 92 = .ok (.iadd, 1) := by decide +kernel
theorem dX2_smallestPair_93 : decode cX2_smallestPair 93 = .ok (.iload_n 2, 1) := by decide +kernel
theorem dX2_smallestPair_94 : decode cX2_smallestPair 94 = .ok (.if_icmp .ne 6, 3) := by decide +kernel
theorem dX2_smallestPair_97 : decode cX2_smallestPair 97 = .ok (.iload 5, 2) := by decide +kernel
theorem dX2_smallestPair_99 : decode cX2_smallestPair 99 = .ok (.ireturn, 1) := by decide +kernel
theorem dX2_smallestPair_100 : decode cX2_smallestPair 100 = .ok (.iinc 5 1, 3) := by decide +kernel
theorem dX2_smallestPair_103 : decode cX2_smallestPair 103 = .ok (.goto (-100), 3) := by decide +kernel
theorem dX2_smallestPair_106 : decode cX2_smallestPair 106 = .ok (.iconst (-1), 1) := by decide +kernel
theorem dX2_smallestPair_107 : decode cX2_smallestPair 107 = .ok (.ireturn, 1) := by decide +kernel
abbrev rm_m_X2_smallestPair : Room := { frames := 4, cells := 0, slots := 0, locals := 97 }
set_option maxHeartbeats 4000000 in
set_option maxRecDepth 100000 in
theorem m_X2_smallestPair {s0 : State} {l : Launch} {D : va_G} {cy : Nat → ClassId} (G : Gl s0 l D cy) (S : HS) (ea ns nj nm nt nr nc : Nat) (h : CI ea S ns nj nm nt nr nc) (a b d e_ : Int32) (a0 b0 c0 : Nat → Int32) : Ctr s0 l D cy yX2_smallestPair cX2_smallestPair 10 (some .int) rm_m_X2_smallestPair (scr S a0 b0 c0) [.ref (gG S 2 0), .int a, .int b, .int d, .int e_] (PSi S) := by
  refine pro "CavershamShift$Matching" G rfl rfl (Nat.le_of_ble_eq_true rfl) (fun p e s m below meth c ls X w hnm hl => ?_)
  have hx := X.1
  have hb := X.2.1
  have hown := X.2.2.2.1
  have hts := X.2.2.2.2.1
  have hl : lv_has ls 10 [(0, .ref (gG S 2 0)), (1, .int a), (2, .int b), (3, .int d), (4, .int e_)] := hl
  have h0 := h
  have h : CI ea (scr S a0 b0 c0) ns nj nm nt nr nc := h0.scr _ _ _
  refine lv_iconst (v := 0) hx hb dX2_smallestPair_0 (by decide) ?_
  refine lv_istore (lv' := [(5, .int 0), (0, .ref (gG S 2 0)), (1, .int a), (2, .int b), (3, .int d), (4, .int e_)]) hx hb dX2_smallestPair_1 hl (by decide) rfl (fun ls hl => ?_)
  have L3 : ∀ (N : Nat) (k3 : Nat) (qa3 : Nat → Int32) (qb3 : Nat → Int32) (qc3 : Nat → Int32) (H : Heap) (locs : List Loc) (ls : Array Slot), 40 - k3 < N → (k3 ≤ 40) → Wd s0 D cy (scr S qa3 qb3 qc3) s.heap H locs → lv_has ls 10 [(5, .int (nI k3)), (0, .ref (gG S 2 0)), (1, .int a), (2, .int b), (3, .int d), (4, .int e_)] → W p l e rm_m_X2_smallestPair s m ([.ref (gG S 2 0), .int a, .int b, .int d, .int e_] : List Value).toArray below meth c H locs 0 0 (MQ below (GQ s0 D cy (PSi S)) ([.ref (gG S 2 0), .int a, .int b, .int d, .int e_] : List Value).toArray s rm_m_X2_smallestPair.cells rm_m_X2_smallestPair.slots (A0 s0)) (F0 m 3 ls []) := by
    intro N
    induction N with
    | zero => intros; omega
    | succ N ih3 =>
      intro k3 qa3 qb3 qc3 H locs ls hmu hk_k3 w hl
      have h : CI ea (scr S qa3 qb3 qc3) ns nj nm nt nr nc := h0.scr _ _ _
      refine lv_iload hx hb dX2_smallestPair_3 (lv_at hl 0 rfl) ?_
      refine lv_bipush (v := 40) hx hb dX2_smallestPair_5 (by decide) ?_
      refine lv_icmp_ge (tgt := 106) hx hb dX2_smallestPair_7 (by decide) (fun hc_k3 => ?_) (fun hc_k3 => ?_)
      · have hge_k3 : 40 ≤ k3 := by
          skip
          exact (nI_leI (a := 40) (b := k3) (by omega) (by omega)).mp hc_k3
        refine lv_iconst (v := (-1)) hx hb dX2_smallestPair_106 (by decide) ?_
        exact rI X w rfl dX2_smallestPair_107 (by decide) (by decide) (ps_i)
      · have hlt_k3 : k3 < 40 := by
          skip
          exact Nat.lt_of_not_le (fun z => hc_k3 ((nI_leI (a := 40) (b := k3) (by omega) (by omega)).mpr z))
        refine lv_iload hx hb dX2_smallestPair_10 (lv_at hl 0 rfl) ?_
        refine lv_iconst (v := 5) hx hb dX2_smallestPair_12 (by decide) ?_
        refine lv_idiv hx hb dX2_smallestPair_13 (by decide) ?_
        refine lv_istore (lv' := [(6, .int ((nI k3) / 5)), (5, .int (nI k3)), (0, .ref (gG S 2 0)), (1, .int a), (2, .int b), (3, .int d), (4, .int e_)]) hx hb dX2_smallestPair_14 hl (by decide) rfl (fun ls hl => ?_)
        refine lv_iload hx hb dX2_smallestPair_16 (lv_at hl 1 rfl) ?_
        refine lv_iconst (v := 5) hx hb dX2_smallestPair_18 (by decide) ?_
        refine lv_irem hx hb dX2_smallestPair_19 (by decide) ?_
        refine lv_istore (lv' := [(7, .int ((nI k3) - (nI k3) / 5 * 5)), (6, .int ((nI k3) / 5)), (5, .int (nI k3)), (0, .ref (gG S 2 0)), (1, .int a), (2, .int b), (3, .int d), (4, .int e_)]) hx hb dX2_smallestPair_20 hl (by decide) rfl (fun ls hl => ?_)
        refine lv_iload_n hx hb dX2_smallestPair_22 rfl (lv_at hl 6 rfl) ?_
        refine lv_iload hx hb dX2_smallestPair_23 (lv_at hl 1 rfl) ?_
        refine cSN (S := (scr S qa3 qb3 qc3)) (nA := 2) (As := [.int d, .int ((nI k3) / 5)]) (rest := []) X w hl (m_X10_isIn G (scr S qa3 qb3 qc3) d ((nI k3) / 5)) wY_X10_isIn wMN_X2_65 wSt_X10_isIn wI_X10 (by decide +kernel) rfl rfl dX2_smallestPair_25 ⟨by decide, by decide⟩ (Nat.le_of_ble_eq_true rfl) (⟨Nat.le_of_ble_eq_true rfl, Nat.le_of_ble_eq_true rfl⟩) (fun v1 S1 H locs hp w => ?_)
        obtain ⟨rfl, rfl⟩ := hp
        have J46 : ∀ (z46_0 : Bool) (H : Heap) (locs : List Loc) (ls : Array Slot), Wd s0 D cy (scr S qa3 qb3 qc3) s.heap H locs → lv_has ls 10 [(7, .int ((nI k3) - (nI k3) / 5 * 5)), (6, .int ((nI k3) / 5)), (5, .int (nI k3)), (0, .ref (gG S 2 0)), (1, .int a), (2, .int b), (3, .int d), (4, .int e_)] → W p l e rm_m_X2_smallestPair s m ([.ref (gG S 2 0), .int a, .int b, .int d, .int e_] : List Value).toArray below meth c H locs 0 0 (MQ below (GQ s0 D cy (PSi S)) ([.ref (gG S 2 0), .int a, .int b, .int d, .int e_] : List Value).toArray s rm_m_X2_smallestPair.cells rm_m_X2_smallestPair.slots (A0 s0)) (F0 m 46 ls [.int (b2i z46_0)]) := by
          intro z46_0 H locs ls  w hl
          refine lv_istore (lv' := [(8, .int (b2i z46_0)), (7, .int ((nI k3) - (nI k3) / 5 * 5)), (6, .int ((nI k3) / 5)), (5, .int (nI k3)), (0, .ref (gG S 2 0)), (1, .int a), (2, .int b), (3, .int d), (4, .int e_)]) hx hb dX2_smallestPair_46 hl (by decide) rfl (fun ls hl => ?_)
          refine lv_iload hx hb dX2_smallestPair_48 (lv_at hl 0 rfl) ?_
          refine lv_if_eq (tgt := 100) hx hb dX2_smallestPair_50 (by decide) (fun hc2 => ?_) (fun hc2 => ?_)
          · refine lv_iinc (v := nI (k3 + 1)) (lv' := [(5, .int (nI (k3 + 1))), (8, .int (b2i z46_0)), (7, .int ((nI k3) - (nI k3) / 5 * 5)), (6, .int ((nI k3) / 5)), (0, .ref (gG S 2 0)), (1, .int a), (2, .int b), (3, .int d), (4, .int e_)]) hx hb dX2_smallestPair_100 hl (k := 3) rfl (nI_1 _) (by decide) rfl (fun ls hl => ?_)
            refine lv_goto (tgt := 3) hx hb dX2_smallestPair_103 (by decide) ?_
            exact ih3 (k3 + 1) qa3 qb3 qc3 _ _ _ (by omega) (hlt_k3) w (lv_sub hl [0, 4, 5, 6, 7, 8] rfl)
          · refine lv_aload_n hx hb dX2_smallestPair_53 rfl (lv_at hl 4 rfl) ?_
            refine g_2_2 (S := (scr S qa3 qb3 qc3)) (x := (some (gG (scr S qa3 qb3 qc3) 32 2))) X w h.v2 wF_X2_11 (h.f34) dX2_smallestPair_54 ?_
            refine lv_iload hx hb dX2_smallestPair_57 (lv_at hl 3 rfl) ?_
            refine aLdI (S := (scr S qa3 qb3 qc3)) (t := 32) (v := mA (scr S qa3 qb3 qc3) 32 2 k3) X w h.a2.1 (by decide) rfl rfl (by rw [h.a2.2]; exact nI_vp hlt_k3 (by decide)) (by rw [cl_nI (n := 40) hlt_k3 (by decide)]) dX2_smallestPair_59 ?_
            refine lv_if_le (tgt := 100) hx hb dX2_smallestPair_60 (by decide) (fun hc3 => ?_) (fun hc3 => ?_)
            · refine lv_iinc (v := nI (k3 + 1)) (lv' := [(5, .int (nI (k3 + 1))), (8, .int (b2i z46_0)), (7, .int ((nI k3) - (nI k3) / 5 * 5)), (6, .int ((nI k3) / 5)), (0, .ref (gG S 2 0)), (1, .int a), (2, .int b), (3, .int d), (4, .int e_)]) hx hb dX2_smallestPair_100 hl (k := 3) rfl (nI_1 _) (by decide) rfl (fun ls hl => ?_)
              refine lv_goto (tgt := 3) hx hb dX2_smallestPair_103 (by decide) ?_
              exact ih3 (k3 + 1) qa3 qb3 qc3 _ _ _ (by omega) (hlt_k3) w (lv_sub hl [0, 4, 5, 6, 7, 8] rfl)
            · refine lv_aload_n hx hb dX2_smallestPair_63 rfl (lv_at hl 4 rfl) ?_
              refine lv_iload_n hx hb dX2_smallestPair_64 rfl (lv_at hl 5 rfl) ?_
              refine lv_iload_n hx hb dX2_smallestPair_65 rfl (lv_at hl 7 rfl) ?_
              refine lv_iconst (v := 1) hx hb dX2_smallestPair_66 (by decide) ?_
              refine lv_iload hx hb dX2_smallestPair_67 (lv_at hl 2 rfl) ?_
              refine lv_ishl hx hb dX2_smallestPair_69 ?_
              refine lv_ior hx hb dX2_smallestPair_70 ?_
              refine lv_iload hx hb dX2_smallestPair_71 (lv_at hl 8 rfl) ?_
              refine lv_iconst (v := 1) hx hb dX2_smallestPair_73 (by decide) ?_
              refine lv_iload hx hb dX2_smallestPair_74 (lv_at hl 1 rfl) ?_
              refine lv_ishl hx hb dX2_smallestPair_76 ?_
              refine lv_ior hx hb dX2_smallestPair_77 ?_
              refine cV (S := (scr S qa3 qb3 qc3)) (nA := 3) (As := [.int a, .int (d ||| (1 <<< (((nI k3) / 5) &&& 31))), .int (e_ ||| (1 <<< (((nI k3) - (nI k3) / 5 * 5) &&& 31)))]) (rest := []) X w hl h.v2 (n_X2_greatestOf G (scr S qa3 qb3 qc3) ea ns nj nm nt nr nc h a (d ||| (1 <<< (((nI k3) / 5) &&& 31))) (e_ ||| (1 <<< (((nI k3) - (nI k3) / 5 * 5) &&& 31)))) wY_X2_greatestOf wM_X2_33 wIn_X2_greatestOf wSe_X2_X2_greatestOf wI_X2 (by decide) rfl (by decide +kernel) rfl rfl dX2_smallestPair_78 ⟨by decide, by decide⟩ (Nat.le_of_ble_eq_true rfl) (⟨Nat.le_of_ble_eq_true rfl, Nat.le_of_ble_eq_true rfl⟩) (fun v8 S1 H locs hp w => ?_)
              obtain ⟨⟨x4, rfl⟩, q5, q6, q7, rfl⟩ := hp
              rw [scr_scr] at w
              have h : CI ea (scr S q5 q6 q7) ns nj nm nt nr nc := h0.scr _ _ _
              refine lv_istore (lv' := [(9, .int x4), (8, .int (b2i z46_0)), (7, .int ((nI k3) - (nI k3) / 5 * 5)), (6, .int ((nI k3) / 5)), (5, .int (nI k3)), (0, .ref (gG S 2 0)), (1, .int a), (2, .int b), (3, .int d), (4, .int e_)]) hx hb dX2_smallestPair_81 hl (by decide) rfl (fun ls hl => ?_)
              refine lv_aload_n hx hb dX2_smallestPair_83 rfl (lv_at hl 5 rfl) ?_
              refine g_2_2 (S := (scr S q5 q6 q7)) (x := (some (gG (scr S q5 q6 q7) 32 2))) X w h.v2 wF_X2_11 (h.f34) dX2_smallestPair_84 ?_
              refine lv_iload hx hb dX2_smallestPair_87 (lv_at hl 4 rfl) ?_
              refine aLdI (S := (scr S q5 q6 q7)) (t := 32) (v := mA (scr S q5 q6 q7) 32 2 k3) X w h.a2.1 (by decide) rfl rfl (by rw [h.a2.2]; exact nI_vp hlt_k3 (by decide)) (by rw [cl_nI (n := 40) hlt_k3 (by decide)]) dX2_smallestPair_89 ?_
              refine lv_iload hx hb dX2_smallestPair_90 (lv_at hl 0 rfl) ?_
              refine lv_iadd hx hb dX2_smallestPair_92 ?_
              refine lv_iload_n hx hb dX2_smallestPair_93 rfl (lv_at hl 7 rfl) ?_
              refine lv_icmp_ne (tgt := 100) hx hb dX2_smallestPair_94 (by decide) (fun hc9 => ?_) (fun hc9 => ?_)
              · refine lv_iinc (v := nI (k3 + 1)) (lv' := [(5, .int (nI (k3 + 1))), (9, .int x4), (8, .int (b2i z46_0)), (7, .int ((nI k3) - (nI k3) / 5 * 5)), (6, .int ((nI k3) / 5)), (0, .ref (gG S 2 0)), (1, .int a), (2, .int b), (3, .int d), (4, .int e_)]) hx hb dX2_smallestPair_100 hl (k := 4) rfl (nI_1 _) (by decide) rfl (fun ls hl => ?_)
                refine lv_goto (tgt := 3) hx hb dX2_smallestPair_103 (by decide) ?_
                exact ih3 (k3 + 1) q5 q6 q7 _ _ _ (by omega) (hlt_k3) w (lv_sub hl [0, 5, 6, 7, 8, 9] rfl)
              · refine lv_iload hx hb dX2_smallestPair_97 (lv_at hl 4 rfl) ?_
                exact rI X w rfl dX2_smallestPair_99 (by decide) (by decide) (ps_i)
        refine lv_if_ne (tgt := 45) hx hb dX2_smallestPair_28 (by decide) (fun hc10 => ?_) (fun hc10 => ?_)
        · refine lv_iconst (v := 0) hx hb dX2_smallestPair_45 (by decide) ?_
          exact J46 false _ _ _  w (lv_sub hl [0, 1, 2, 3, 4, 5, 6, 7] rfl)
        · refine lv_iload hx hb dX2_smallestPair_31 (lv_at hl 7 rfl) ?_
          refine lv_iload hx hb dX2_smallestPair_33 (lv_at hl 0 rfl) ?_
          refine cSN (S := (scr S qa3 qb3 qc3)) (nA := 2) (As := [.int e_, .int ((nI k3) - (nI k3) / 5 * 5)]) (rest := []) X w hl (m_X10_isIn G (scr S qa3 qb3 qc3) e_ ((nI k3) - (nI k3) / 5 * 5)) wY_X10_isIn wMN_X2_65 wSt_X10_isIn wI_X10 (by decide +kernel) rfl rfl dX2_smallestPair_35 ⟨by decide, by decide⟩ (Nat.le_of_ble_eq_true rfl) (⟨Nat.le_of_ble_eq_true rfl, Nat.le_of_ble_eq_true rfl⟩) (fun v11 S1 H locs hp w => ?_)
          obtain ⟨rfl, rfl⟩ := hp
          refine lv_if_ne (tgt := 45) hx hb dX2_smallestPair_38 (by decide) (fun hc12 => ?_) (fun hc12 => ?_)
          · refine lv_iconst (v := 0) hx hb dX2_smallestPair_45 (by decide) ?_
            exact J46 false _ _ _  w (lv_sub hl [0, 1, 2, 3, 4, 5, 6, 7] rfl)
          · refine lv_iconst (v := 1) hx hb dX2_smallestPair_41 (by decide) ?_
            refine lv_goto (tgt := 46) hx hb dX2_smallestPair_42 (by decide) ?_
            exact J46 true _ _ _  w (lv_sub hl [0, 1, 2, 3, 4, 5, 6, 7] rfl)
  exact L3 _ 0 a0 b0 c0 _ _ _ (Nat.lt_succ_self _) (Nat.zero_le _) w (lv_sub hl [0, 1, 2, 3, 4, 5] rfl)

theorem n_X2_smallestPair {s0 : State} {l : Launch} {D : va_G} {cy : Nat → ClassId} (G : Gl s0 l D cy) (S : HS) (ea ns nj nm nt nr nc : Nat) (h : CI ea S ns nj nm nt nr nc) (a b d e_ : Int32) : Ctr s0 l D cy yX2_smallestPair cX2_smallestPair 10 (some .int) rm_m_X2_smallestPair S [.ref (gG S 2 0), .int a, .int b, .int d, .int e_] (PSi S) := by
  have z := m_X2_smallestPair G S ea ns nj nm nt nr nc h a b d e_ (mA S 32 2) (mA S 32 3) (mA S 32 4)
  rw [scr_id] at z
  exact z
theorem dX2_choose_0 : decode cX2_choose 0 = .ok (.aload_n 0, 1) := by decide +kernel
theorem dX2_choose_1 : decode cX2_choose 1 = .ok (.iload_n 1, 1) := by decide +kernel
theorem dX2_choose_2 : decode cX2_choose 2 = .ok (.invokevirtual 29, 3) := by decide +kernel
theorem dX2_choose_5 : decode cX2_choose 5 = .ok (.aload_n 0, 1) := by decide +kernel
theorem dX2_choose_6 : decode cX2_choose 6 = .ok (.iconst 3, 1) := by decide +kernel
theorem dX2_choose_7 : decode cX2_choose 7 = .ok (.iconst 0, 1) := by decide +kernel
theorem dX2_choose_8 : decode cX2_choose 8 = .ok (.iconst 0, 1) := by decide +kernel
theorem dX2_choose_9 : decode cX2_choose 9 = .ok (.invokevirtual 33, 3) := by decide +kernel
theorem dX2_choose_12 : decode cX2_choose 12 = .ok (.istore_n 2, 1) := by decide +kernel
theorem dX2_choose_13 : decode cX2_choose 13 = .ok (.iconst 0, 1) := by decide +kernel
theorem dX2_choose_14 : decode cX2_choose 14 = .ok (.istore_n 3, 1) := by decide +kernel
theorem dX2_choose_15 : decode cX2_choose 15 = .ok (.iconst 0, 1) := by decide +kernel
theorem dX2_choose_16 : decode cX2_choose 16 = .ok (.istore 4, 2) := by decide +kernel
theorem dX2_choose_18 : decode cX2_choose 18 = .ok (.iconst 0, 1) := by decide +kernel
theorem dX2_choose_19 : decode cX2_choose 19 = .ok (.istore 5, 2) := by decide +kernel
theorem dX2_choose_21 : decode cX2_choose 21 = .ok (.iload 5, 2) := by decide +kernel
theorem dX2_choose_23 : decode cX2_choose 23 = .ok (.iconst 3, 1) := by decide +kernel
theorem dX2_choose_24 : decode cX2_choose 24 = .ok (.if_icmp .ge 73, 3) := by decide +kernel
theorem dX2_choose_27 : decode cX2_choose 27 = .ok (.aload_n 0, 1) := by decide +kernel
theorem dX2_choose_28 : decode cX2_choose 28 = .ok (.iconst 2, 1) := by decide +kernel
theorem dX2_choose_29 : decode cX2_choose 29 = .ok (.iload 5, 2) := by decide +kernel
theorem dX2_choose_31 : decode cX2_choose 31 = .ok (.isub, 1) := by decide +kernel
theorem dX2_choose_32 : decode cX2_choose 32 = .ok (.iload_n 2, 1) := by decide +kernel
theorem dX2_choose_33 : decode cX2_choose 33 = .ok (.iload_n 3, 1) := by decide +kernel
theorem dX2_choose_34 : decode cX2_choose 34 = .ok (.iload 4, 2) := by decide +kernel
theorem dX2_choose_36 : decode cX2_choose 36 = .ok (.invokevirtual 37, 3) := by decide +kernel
theorem dX2_choose_39 : decode cX2_choose 39 = .ok (.istore 6, 2) := by decide +kernel
theorem dX2_choose_41 : decode cX2_choose 41 = .ok (.aload_n 0, 1) := by decide +kernel
theorem dX2_choose_42 : decode cX2_choose 42 = .ok (.getfield 18, 3) := by decide +kernel
theorem dX2_choose_45 : decode cX2_choose 45 = .ok (.iload 5, 2) := by decide +kernel
theorem dX2_choose_47 : decode cX2_choose 47 = .ok (.iload 6, 2) := by decide +kernel
theorem dX2_choose_49 : decode cX2_choose 49 = .ok (.iastore, 1) := by decide +kernel
theorem dX2_choose_50 : decode cX2_choose 50 = .ok (.iload 6, 2) := by decide +kernel
theorem dX2_choose_52 : decode cX2_choose 52 = .ok (.iconst 0, 1) := by decide +kernel
theorem dX2_choose_53 : decode cX2_choose 53 = .ok (.bipush 39, 2) := by decide +kernel
theorem dX2_choose_55 : decode cX2_choose 55 = .ok (.invokestatic 41, 3) := by decide +kernel
theorem dX2_choose_58 : decode cX2_choose 58 = .ok (.ifCond .ne 33, 3) := by decide +kernel
theorem dX2_choose_61 : decode cX2_choose 61 = .ok (.iload_n 2, 1) := by decide +kernel
theorem dX2_choose_62 : decode cX2_choose 62 = .ok (.aload_n 0, 1) := by decide +kernel
theorem dX2_choose_63 : decode cX2_choose 63 = .ok (.getfield 11, 3) := by decide +kernel
theorem dX2_choose_66 : decode cX2_choose 66 = .ok (.iload 6, 2) := by decide +kernel
theorem dX2_choose_68 : decode cX2_choose 68 = .ok (.iaload, 1) := by decide +kernel
theorem dX2_choose_69 : decode cX2_choose 69 = .ok (.isub, 1) := by decide +kernel
theorem dX2_choose_70 : decode cX2_choose 70 = .ok (.istore_n 2, 1) := by decide +kernel
theorem dX2_choose_71 : decode cX2_choose 71 = .ok (.iload_n 3, 1) := by decide +kernel
theorem dX2_choose_72 : decode cX2_choose 72 = .ok (.iconst 1, 1) := by decide +kernel
theorem dX2_choose_73 : decode cX2_choose 73 = .ok (.iload 6, 2) := by decide +kernel
theorem dX2_choose_75 : decode cX2_choose 75 = .ok (.iconst 5, 1) := by decide +kernel
theorem dX2_choose_76 : decode cX2_choose 76 = .ok (.idiv, 1) := by decide +kernel
theorem dX2_choose_77 : decode cX2_choose 77 = .ok (.ishl, 1) := by decide +kernel
theorem dX2_choose_78 : decode cX2_choose 78 = .ok (.ior, 1) := by decide +kernel
theorem dX2_choose_79 : decode cX2_choose 79 = .ok (.istore_n 3, 1) := by decide +kernel
theorem dX2_choose_80 : decode cX2_choose 80 = .ok (.iload 4, 2) := by decide +kernel
theorem dX2_choose_82 : decode cX2_choose 82 = .ok (.iconst 1, 1) := by decide +kernel
theorem dX2_choose_83 : decode cX2_choose 83 = .ok (.iload 6, 2) := by decide +kernel
theorem dX2_choose_85 : decode cX2_choose 85 = .ok (.iconst 5, 1) := by decide +kernel
theorem dX2_choose_86 : decode cX2_choose 86 = .ok (.irem, 1) := by decide +kernel
theorem dX2_choose_87 : decode cX2_choose 87 = .ok (.ishl, 1) := by decide +kernel
theorem dX2_choose_88 : decode cX2_choose 88 = .ok (.ior, 1) := by decide +kernel
theorem dX2_choose_89 : decode cX2_choose 89 = .ok (.istore 4, 2) := by decide +kernel
theorem dX2_choose_91 : decode cX2_choose 91 = .ok (.iinc 5 1, 3) := by decide +kernel
theorem dX2_choose_94 : decode cX2_choose 94 = .ok (.goto (-73), 3) := by decide +kernel
theorem dX2_choose_97 : decode cX2_choose 97 = .ok (.return_, 1) := by decide +kernel
abbrev rm_m_X2_choose : Room := { frames := 6, cells := 0, slots := 0, locals := 138 }
set_option maxHeartbeats 4000000 in
set_option maxRecDepth 100000 in
theorem m_X2_choose {s0 : State} {l : Launch} {D : va_G} {cy : Nat → ClassId} (G : Gl s0 l D cy) (S : HS) (ea ns nj nm nt nr nc : Nat) (h : CI ea S ns nj nm nt nr nc) (a : Int32) (a0 b0 c0 : Nat → Int32) : Ctr s0 l D cy yX2_choose cX2_choose 7 none rm_m_X2_choose (scr S a0 b0 c0) [.ref (gG S 2 0), .int a] (PSv S) := by
  refine pro "CavershamShift$Matching" G rfl rfl (Nat.le_of_ble_eq_true rfl) (fun p e s m below meth c ls X w hnm hl => ?_)
  have hx := X.1
  have hb := X.2.1
  have hown := X.2.2.2.1
  have hts := X.2.2.2.2.1
  have hl : lv_has ls 7 [(0, .ref (gG S 2 0)), (1, .int a)] := hl
  have h0 := h
  have h : CI ea (scr S a0 b0 c0) ns nj nm nt nr nc := h0.scr _ _ _
  refine lv_aload_n hx hb dX2_choose_0 rfl (lv_at hl 0 rfl) ?_
  refine lv_iload_n hx hb dX2_choose_1 rfl (lv_at hl 1 rfl) ?_
  refine cV (S := (scr S a0 b0 c0)) (nA := 1) (As := [.int a]) (rest := []) X w hl h.v2 (n_X2_readQualities G (scr S a0 b0 c0) ea ns nj nm nt nr nc h a) wY_X2_readQualities wM_X2_29 wIn_X2_readQualities wSe_X2_X2_readQualities wI_X2 (by decide) rfl (by decide +kernel) rfl rfl dX2_choose_2 ⟨by decide, by decide⟩ (Nat.le_of_ble_eq_true rfl) (⟨Nat.le_of_ble_eq_true rfl, Nat.le_of_ble_eq_true rfl⟩) (fun v5 S1 H locs hp w => ?_)
  obtain ⟨rfl, q2, q3, q4, rfl⟩ := hp
  rw [scr_scr] at w
  have h : CI ea (scr S q2 q3 q4) ns nj nm nt nr nc := h0.scr _ _ _
  refine lv_aload_n hx hb dX2_choose_5 rfl (lv_at hl 0 rfl) ?_
  refine lv_iconst (v := 3) hx hb dX2_choose_6 (by decide) ?_
  refine lv_iconst (v := 0) hx hb dX2_choose_7 (by decide) ?_
  refine lv_iconst (v := 0) hx hb dX2_choose_8 (by decide) ?_
  refine cV (S := (scr S q2 q3 q4)) (nA := 3) (As := [.int 3, .int 0, .int 0]) (rest := []) X w hl h.v2 (n_X2_greatestOf G (scr S q2 q3 q4) ea ns nj nm nt nr nc h 3 0 0) wY_X2_greatestOf wM_X2_33 wIn_X2_greatestOf wSe_X2_X2_greatestOf wI_X2 (by decide) rfl (by decide +kernel) rfl rfl dX2_choose_9 ⟨by decide, by decide⟩ (Nat.le_of_ble_eq_true rfl) (⟨Nat.le_of_ble_eq_true rfl, Nat.le_of_ble_eq_true rfl⟩) (fun v10 S1 H locs hp w => ?_)
  obtain ⟨⟨x6, rfl⟩, q7, q8, q9, rfl⟩ := hp
  rw [scr_scr] at w
  have h : CI ea (scr S q7 q8 q9) ns nj nm nt nr nc := h0.scr _ _ _
  refine lv_istore_n (lv' := [(2, .int x6), (0, .ref (gG S 2 0)), (1, .int a)]) hx hb dX2_choose_12 rfl hl (by decide) rfl (fun ls hl => ?_)
  refine lv_iconst (v := 0) hx hb dX2_choose_13 (by decide) ?_
  refine lv_istore_n (lv' := [(3, .int 0), (2, .int x6), (0, .ref (gG S 2 0)), (1, .int a)]) hx hb dX2_choose_14 rfl hl (by decide) rfl (fun ls hl => ?_)
  refine lv_iconst (v := 0) hx hb dX2_choose_15 (by decide) ?_
  refine lv_istore (lv' := [(4, .int 0), (3, .int 0), (2, .int x6), (0, .ref (gG S 2 0)), (1, .int a)]) hx hb dX2_choose_16 hl (by decide) rfl (fun ls hl => ?_)
  refine lv_iconst (v := 0) hx hb dX2_choose_18 (by decide) ?_
  refine lv_istore (lv' := [(5, .int 0), (4, .int 0), (3, .int 0), (2, .int x6), (0, .ref (gG S 2 0)), (1, .int a)]) hx hb dX2_choose_19 hl (by decide) rfl (fun ls hl => ?_)
  have L21 : ∀ (N : Nat) (k21 : Nat) (v21_4 : Int32) (v21_3 : Int32) (v21_2 : Int32) (qa21 : Nat → Int32) (qb21 : Nat → Int32) (qc21 : Nat → Int32) (H : Heap) (locs : List Loc) (ls : Array Slot), 3 - k21 < N → (k21 ≤ 3) → Wd s0 D cy (scr S qa21 qb21 qc21) s.heap H locs → lv_has ls 7 [(5, .int (nI k21)), (4, .int v21_4), (3, .int v21_3), (2, .int v21_2), (0, .ref (gG S 2 0)), (1, .int a)] → W p l e rm_m_X2_choose s m ([.ref (gG S 2 0), .int a] : List Value).toArray below meth c H locs 0 0 (MQ below (GQ s0 D cy (PSv S)) ([.ref (gG S 2 0), .int a] : List Value).toArray s rm_m_X2_choose.cells rm_m_X2_choose.slots (A0 s0)) (F0 m 21 ls []) := by
    intro N
    induction N with
    | zero => intros; omega
    | succ N ih21 =>
      intro k21 v21_4 v21_3 v21_2 qa21 qb21 qc21 H locs ls hmu hk_k21 w hl
      have h : CI ea (scr S qa21 qb21 qc21) ns nj nm nt nr nc := h0.scr _ _ _
      refine lv_iload hx hb dX2_choose_21 (lv_at hl 0 rfl) ?_
      refine lv_iconst (v := 3) hx hb dX2_choose_23 (by decide) ?_
      refine lv_icmp_ge (tgt := 97) hx hb dX2_choose_24 (by decide) (fun hc_k21 => ?_) (fun hc_k21 => ?_)
      · have hge_k21 : 3 ≤ k21 := by
          skip
          exact (nI_leI (a := 3) (b := k21) (by omega) (by omega)).mp hc_k21
        exact rV X w rfl dX2_choose_97 (by decide) (by decide) (ps_v)
      · have hlt_k21 : k21 < 3 := by
          skip
          exact Nat.lt_of_not_le (fun z => hc_k21 ((nI_leI (a := 3) (b := k21) (by omega) (by omega)).mpr z))
        refine lv_aload_n hx hb dX2_choose_27 rfl (lv_at hl 4 rfl) ?_
        refine lv_iconst (v := 2) hx hb dX2_choose_28 (by decide) ?_
        refine lv_iload hx hb dX2_choose_29 (lv_at hl 0 rfl) ?_
        refine lv_isub hx hb dX2_choose_31 ?_
        refine lv_iload_n hx hb dX2_choose_32 rfl (lv_at hl 3 rfl) ?_
        refine lv_iload_n hx hb dX2_choose_33 rfl (lv_at hl 2 rfl) ?_
        refine lv_iload hx hb dX2_choose_34 (lv_at hl 1 rfl) ?_
        refine cV (S := (scr S qa21 qb21 qc21)) (nA := 4) (As := [.int (2 - (nI k21)), .int v21_2, .int v21_3, .int v21_4]) (rest := []) X w hl h.v2 (n_X2_smallestPair G (scr S qa21 qb21 qc21) ea ns nj nm nt nr nc h (2 - (nI k21)) v21_2 v21_3 v21_4) wY_X2_smallestPair wM_X2_37 wIn_X2_smallestPair wSe_X2_X2_smallestPair wI_X2 (by decide) rfl (by decide +kernel) rfl rfl dX2_choose_36 ⟨by decide, by decide⟩ (Nat.le_of_ble_eq_true rfl) (⟨Nat.le_of_ble_eq_true rfl, Nat.le_of_ble_eq_true rfl⟩) (fun v15 S1 H locs hp w => ?_)
        obtain ⟨⟨x11, rfl⟩, q12, q13, q14, rfl⟩ := hp
        rw [scr_scr] at w
        have h : CI ea (scr S q12 q13 q14) ns nj nm nt nr nc := h0.scr _ _ _
        refine lv_istore (lv' := [(6, .int x11), (5, .int (nI k21)), (4, .int v21_4), (3, .int v21_3), (2, .int v21_2), (0, .ref (gG S 2 0)), (1, .int a)]) hx hb dX2_choose_39 hl (by decide) rfl (fun ls hl => ?_)
        refine lv_aload_n hx hb dX2_choose_41 rfl (lv_at hl 5 rfl) ?_
        refine g_2_4 (S := (scr S q12 q13 q14)) (x := (some (gG (scr S q12 q13 q14) 32 4))) X w h.v2 wF_X2_18 (h.f36) dX2_choose_42 ?_
        refine lv_iload hx hb dX2_choose_45 (lv_at hl 1 rfl) ?_
        refine lv_iload hx hb dX2_choose_47 (lv_at hl 0 rfl) ?_
        refine aStI (S := (scr S q12 q13 q14)) (t := 32) (i := 4) X w h.a4.1 (by decide) rfl rfl (by rw [h.a4.2]; exact nI_vp hlt_k21 (by decide)) dX2_choose_49 (fun H locs w => ?_)
        rw [scr_4] at w
        generalize (upd (mA (scr S q12 q13 q14) 32 4) (nI k21).toNatClampNeg x11) = q16 at w
        have h : CI ea (scr S q12 q13 q16) ns nj nm nt nr nc := h0.scr _ _ _
        refine lv_iload hx hb dX2_choose_50 (lv_at hl 0 rfl) ?_
        refine lv_iconst (v := 0) hx hb dX2_choose_52 (by decide) ?_
        refine lv_bipush (v := 39) hx hb dX2_choose_53 (by decide) ?_
        refine cSN (S := (scr S q12 q13 q16)) (nA := 3) (As := [.int x11, .int 0, .int 39]) (rest := []) X w hl (m_X10_isOutside G (scr S q12 q13 q16) x11 0 39) wY_X10_isOutside wMN_X2_41 wSt_X10_isOutside wI_X10 (by decide +kernel) rfl rfl dX2_choose_55 ⟨by decide, by decide⟩ (Nat.le_of_ble_eq_true rfl) (⟨Nat.le_of_ble_eq_true rfl, Nat.le_of_ble_eq_true rfl⟩) (fun v19 S1 H locs hp w => ?_)
        obtain ⟨rfl, rfl⟩ := hp
        have J91 : ∀ (y91_6 : Int32) (y91_4 : Int32) (y91_3 : Int32) (y91_2 : Int32) (H : Heap) (locs : List Loc) (ls : Array Slot), Wd s0 D cy (scr S q12 q13 q16) s.heap H locs → lv_has ls 7 [(6, .int y91_6), (5, .int (nI k21)), (4, .int y91_4), (3, .int y91_3), (2, .int y91_2), (0, .ref (gG S 2 0)), (1, .int a)] → W p l e rm_m_X2_choose s m ([.ref (gG S 2 0), .int a] : List Value).toArray below meth c H locs 0 0 (MQ below (GQ s0 D cy (PSv S)) ([.ref (gG S 2 0), .int a] : List Value).toArray s rm_m_X2_choose.cells rm_m_X2_choose.slots (A0 s0)) (F0 m 91 ls []) := by
          intro y91_6 y91_4 y91_3 y91_2 H locs ls  w hl
          refine lv_iinc (v := nI (k21 + 1)) (lv' := [(5, .int (nI (k21 + 1))), (6, .int y91_6), (4, .int y91_4), (3, .int y91_3), (2, .int y91_2), (0, .ref (gG S 2 0)), (1, .int a)]) hx hb dX2_choose_91 hl (k := 1) rfl (nI_1 _) (by decide) rfl (fun ls hl => ?_)
          refine lv_goto (tgt := 21) hx hb dX2_choose_94 (by decide) ?_
          exact ih21 (k21 + 1) y91_4 y91_3 y91_2 q12 q13 q16 _ _ _ (by omega) (hlt_k21) w (lv_sub hl [0, 2, 3, 4, 5, 6] rfl)
        refine lv_if_ne (tgt := 91) hx hb dX2_choose_58 (by decide) (fun hc20 => ?_) (fun hc20 => ?_)
        · exact J91 x11 v21_4 v21_3 v21_2 _ _ _  w (lv_sub hl [0, 1, 2, 3, 4, 5, 6] rfl)
        · obtain ⟨j21, hlj21, hvj21⟩ := out_in (n := 40) (by decide) (by rw [show (nI 40 - 1 : Int32) = 39 by decide]; exact b2i_f hc20)
          rw [hvj21] at hl
          refine lv_iload_n hx hb dX2_choose_61 rfl (lv_at hl 4 rfl) ?_
          refine lv_aload_n hx hb dX2_choose_62 rfl (lv_at hl 5 rfl) ?_
          refine g_2_2 (S := (scr S q12 q13 q16)) (x := (some (gG (scr S q12 q13 q16) 32 2))) X w h.v2 wF_X2_11 (h.f34) dX2_choose_63 ?_
          refine lv_iload hx hb dX2_choose_66 (lv_at hl 0 rfl) ?_
          refine aLdI (S := (scr S q12 q13 q16)) (t := 32) (v := mA (scr S q12 q13 q16) 32 2 j21) X w h.a2.1 (by decide) rfl rfl (by rw [h.a2.2]; exact nI_vp hlj21 (by decide)) (by rw [cl_nI (n := 40) hlj21 (by decide)]) dX2_choose_68 ?_
          refine lv_isub hx hb dX2_choose_69 ?_
          refine lv_istore_n (lv' := [(2, .int (v21_2 - (mA (scr S q12 q13 q16) 32 2 j21))), (6, .int (nI j21)), (5, .int (nI k21)), (4, .int v21_4), (3, .int v21_3), (0, .ref (gG S 2 0)), (1, .int a)]) hx hb dX2_choose_70 rfl hl (by decide) rfl (fun ls hl => ?_)
          refine lv_iload_n hx hb dX2_choose_71 rfl (lv_at hl 4 rfl) ?_
          refine lv_iconst (v := 1) hx hb dX2_choose_72 (by decide) ?_
          refine lv_iload hx hb dX2_choose_73 (lv_at hl 1 rfl) ?_
          refine lv_iconst (v := 5) hx hb dX2_choose_75 (by decide) ?_
          refine lv_idiv hx hb dX2_choose_76 (by decide) ?_
          refine lv_ishl hx hb dX2_choose_77 ?_
          refine lv_ior hx hb dX2_choose_78 ?_
          refine lv_istore_n (lv' := [(3, .int (v21_3 ||| (1 <<< (((nI j21) / 5) &&& 31)))), (2, .int (v21_2 - (mA (scr S q12 q13 q16) 32 2 j21))), (6, .int (nI j21)), (5, .int (nI k21)), (4, .int v21_4), (0, .ref (gG S 2 0)), (1, .int a)]) hx hb dX2_choose_79 rfl hl (by decide) rfl (fun ls hl => ?_)
          refine lv_iload hx hb dX2_choose_80 (lv_at hl 4 rfl) ?_
          refine lv_iconst (v := 1) hx hb dX2_choose_82 (by decide) ?_
          refine lv_iload hx hb dX2_choose_83 (lv_at hl 2 rfl) ?_
          refine lv_iconst (v := 5) hx hb dX2_choose_85 (by decide) ?_
          refine lv_irem hx hb dX2_choose_86 (by decide) ?_
          refine lv_ishl hx hb dX2_choose_87 ?_
          refine lv_ior hx hb dX2_choose_88 ?_
          refine lv_istore (lv' := [(4, .int (v21_4 ||| (1 <<< (((nI j21) - (nI j21) / 5 * 5) &&& 31)))), (3, .int (v21_3 ||| (1 <<< (((nI j21) / 5) &&& 31)))), (2, .int (v21_2 - (mA (scr S q12 q13 q16) 32 2 j21))), (6, .int (nI j21)), (5, .int (nI k21)), (0, .ref (gG S 2 0)), (1, .int a)]) hx hb dX2_choose_89 hl (by decide) rfl (fun ls hl => ?_)
          exact J91 (nI j21) (v21_4 ||| (1 <<< (((nI j21) - (nI j21) / 5 * 5) &&& 31))) (v21_3 ||| (1 <<< (((nI j21) / 5) &&& 31))) (v21_2 - (mA (scr S q12 q13 q16) 32 2 j21)) _ _ _  w (lv_sub hl [3, 4, 0, 1, 2, 5, 6] rfl)
  exact L21 _ 0 0 0 x6 q7 q8 q9 _ _ _ (Nat.lt_succ_self _) (Nat.zero_le _) w (lv_sub hl [0, 1, 2, 3, 4, 5] rfl)

theorem n_X2_choose {s0 : State} {l : Launch} {D : va_G} {cy : Nat → ClassId} (G : Gl s0 l D cy) (S : HS) (ea ns nj nm nt nr nc : Nat) (h : CI ea S ns nj nm nt nr nc) (a : Int32) : Ctr s0 l D cy yX2_choose cX2_choose 7 none rm_m_X2_choose S [.ref (gG S 2 0), .int a] (PSv S) := by
  have z := m_X2_choose G S ea ns nj nm nt nr nc h a (mA S 32 2) (mA S 32 3) (mA S 32 4)
  rw [scr_id] at z
  exact z
