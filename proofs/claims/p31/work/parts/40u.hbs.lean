theorem RK.scr {S A : HS} {ns nj nm nt nr nc : Nat} {a b c : Nat → Int32} (h : RK S A ns nj nm nt nr nc) : RK (scr S a b c) (A) ns nj nm nt nr nc := by
  exact ⟨h.rc, h.ok, h.mo, h.re, h.pr, h.rp, h.wi, h.tu, h.qu, h.q1, h.q2, h.q3, h.q4, h.q6, h.q7, h.q8, h.q9, h.rz⟩
theorem mA_scr2 {S : HS} {a b c : Nat → Int32} : mA (scr S a b c) 32 2 = a := by simp [scr, mA, sA, up2]
theorem mA_scr3 {S : HS} {a b c : Nat → Int32} : mA (scr S a b c) 32 3 = b := by simp [scr, mA, sA, up2]
theorem mA_scr4 {S : HS} {a b c : Nat → Int32} : mA (scr S a b c) 32 4 = c := by simp [scr, mA, sA, up2]
theorem nx_or (a b : Nat) : nI a ||| nI b = nI (a ||| b) := by
  apply Int32.toBitVec_inj.1
  show BitVec.ofNat 32 a ||| BitVec.ofNat 32 b = BitVec.ofNat 32 (a ||| b)
  apply BitVec.eq_of_getLsbD_eq
  intro i hi
  simp [hi]
theorem sIn_tb : ∀ b, b < 256 → ∀ j, j < 8 → sIn (nI b) (nI j) = b.testBit j := by decide +kernel
theorem sh_8 : ∀ k, k < 8 → ((1 : Int32) <<< (nI k &&& 31)) = nI (2 ^ k) ∧ 2 ^ k < 256 := by decide +kernel
theorem or_256 {b k : Nat} (hb : b < 256) (hk : k < 8) : (nI b ||| ((1 : Int32) <<< (nI k &&& 31))) = nI (b ||| 2 ^ k) ∧ b ||| 2 ^ k < 256 := ⟨by rw [(sh_8 k hk).1, nx_or], Nat.or_lt_two_pow (n := 8) hb (sh_8 k hk).2⟩
def tB (e : Nat) : Nat → Bool := fun j => e.testBit j
theorem tk_or {e m : Nat} : tk (tB e) m = tB (e ||| 2 ^ m) := by
  funext j
  show (e.testBit j || decide (j = m)) = (e ||| 2 ^ m).testBit j
  rw [Nat.testBit_or, Nat.testBit_two_pow, show decide (m = j) = decide (j = m) from decide_eq_decide.mpr eq_comm]
theorem tB_0 : tB 0 = nF := by
  funext j
  exact Nat.zero_testBit j
/-- the quality of a pair, 0 where there is none -/
def bQ (A : HS) (ns nj nm : Nat) (a : Int32) (s m : Nat) : Nat := if s < ns ∧ m < nm then (rQual A ns nj m s a).toNatClampNeg else 0
section BQ
variable {A : HS} {ns nj nm s m : Nat} {a : Int32}
theorem bQ_18 : bQ A ns nj nm a s m ≤ 18 := by
  unfold bQ
  split
  · obtain ⟨q, hq, e⟩ := rQual_b (A := A) (ns := ns) (nj := nj) (m := m) (i := s) (a := a)
    rw [e, nI_clamp (by omega)]; exact hq
  · exact Nat.zero_le _
theorem bQ_v (hs : s < ns) (hm : m < nm) : rQual A ns nj m s a = nI (bQ A ns nj nm a s m) := by
  obtain ⟨q, hq, e⟩ := rQual_b (A := A) (ns := ns) (nj := nj) (m := m) (i := s) (a := a)
  unfold bQ
  rw [if_pos ⟨hs, hm⟩, e, nI_clamp (by omega)]
theorem bQ_s (h : ¬ s < ns) : (0 : Int32) = nI (bQ A ns nj nm a s m) := by
  unfold bQ
  rw [if_neg (fun z => h z.1)]; rfl
theorem bQ_m (h : ¬ m < nm) : (0 : Int32) = nI (bQ A ns nj nm a s m) := by
  unfold bQ
  rw [if_neg (fun z => h z.2)]; rfl
theorem bQ_ns (h : ns ≤ s) : bQ A ns nj nm a s m = 0 := by
  unfold bQ
  rw [if_neg (fun z => by omega)]
end BQ
/-- row 2 has the qualities -/
def QAr (A : HS) (ns nj nm : Nat) (a : Int32) (f : Nat → Int32) : Prop := ∀ q, q < 40 → f q = nI (bQ A ns nj nm a (q / 5) (q % 5))
theorem pk_d5 {k : Nat} (h : k < 40) : nI k / 5 = nI (k / 5) := pk_div (d := 5) (by omega) (by decide) (by decide)
theorem pk_r5 {k : Nat} (h : k < 40) : nI k - nI k / 5 * 5 = nI (k % 5) := pk_rem (d := 5) (by omega) (by decide) (by decide)

abbrev rm_e_X2_readQualities : Room := { frames := 5, cells := 0, slots := 0, locals := 114 }
set_option maxHeartbeats 4000000 in
set_option maxRecDepth 100000 in
theorem e_X2_readQualities {s0 : State} {l : Launch} {D : va_G} {cy : Nat → ClassId} (G : Gl s0 l D cy) (S : HS) (ea ns nj nm nt nr nc : Nat) (h : CI ea S ns nj nm nt nr nc) (A : HS) (hA : RK S A ns nj nm nt nr nc) (a : Int32) (a0 b0 c0 : Nat → Int32) : Ctr s0 l D cy yX2_readQualities cX2_readQualities 5 none rm_e_X2_readQualities (scr S a0 b0 c0) [.ref (gG S 2 0), .int a] (fun v S' => none = v ∧ ∃ f, QAr A ns nj nm a f ∧ S' = scr S f b0 c0) := by
  refine pro "CavershamShift$Matching" G rfl rfl (Nat.le_of_ble_eq_true rfl) (fun p e s m below meth c ls X w hnm hl => ?_)
  have hx := X.1
  have hb := X.2.1
  have hown := X.2.2.2.1
  have hts := X.2.2.2.2.1
  have hl : lv_has ls 5 [(0, .ref (gG S 2 0)), (1, .int a)] := hl
  have h0 := h
  have hA0 := hA
  have h : CI ea (scr S a0 b0 c0) ns nj nm nt nr nc := h0.scr _ _ _
  have hA : RK (scr S a0 b0 c0) A ns nj nm nt nr nc := hA0.scr
  refine lv_iconst (v := 0) hx hb dX2_readQualities_0 (by decide) ?_
  refine lv_istore_n (lv' := [(2, .int 0), (0, .ref (gG S 2 0)), (1, .int a)]) hx hb dX2_readQualities_1 rfl hl (by decide) rfl (fun ls hl => ?_)
  have L2 : ∀ (N : Nat) (k2 : Nat) (qa2 : Nat → Int32) (H : Heap) (locs : List Loc) (ls : Array Slot), 40 - k2 < N → (k2 ≤ 40) → (∀ q, q < k2 → qa2 q = nI (bQ A ns nj nm a (q / 5) (q % 5))) → Wd s0 D cy (scr S qa2 b0 c0) s.heap H locs → lv_has ls 5 [(0, .ref (gG S 2 0)), (1, .int a), (2, .int (nI k2))] → W p l e rm_e_X2_readQualities s m ([.ref (gG S 2 0), .int a] : List Value).toArray below meth c H locs 0 0 (MQ below (GQ s0 D cy (fun v S' => none = v ∧ ∃ f, QAr A ns nj nm a f ∧ S' = scr S f b0 c0)) ([.ref (gG S 2 0), .int a] : List Value).toArray s rm_e_X2_readQualities.cells rm_e_X2_readQualities.slots (A0 s0)) (F0 m 2 ls []) := by
    intro N
    induction N with
    | zero => intros; omega
    | succ N ih2 =>
      intro k2 qa2 H locs ls hmu hk_k2 hqa w hl
      have h : CI ea (scr S qa2 b0 c0) ns nj nm nt nr nc := h0.scr _ _ _
      have hA : RK (scr S qa2 b0 c0) A ns nj nm nt nr nc := hA0.scr
      refine lv_iload_n hx hb dX2_readQualities_2 rfl (lv_at hl 2 rfl) ?_
      refine lv_bipush (v := 40) hx hb dX2_readQualities_3 (by decide) ?_
      refine lv_icmp_ge (tgt := 67) hx hb dX2_readQualities_5 (by decide) (fun hz_k2 => ?_) (fun hz_k2 => ?_)
      · have hge_k2 : 40 ≤ k2 := (nI_leI (a := 40) (b := k2) (by decide) (by omega)).mp hz_k2
        exact rV X w rfl dX2_readQualities_67 (by decide) (by decide) (⟨rfl, qa2, fun q hq => hqa q (by omega), rfl⟩)
      · have hlt_k2 : k2 < 40 := Nat.lt_of_not_le (fun z => hz_k2 ((nI_leI (a := 40) (b := k2) (by decide) (by omega)).mpr z))
        refine lv_aload_n hx hb dX2_readQualities_8 rfl (lv_at hl 0 rfl) ?_
        refine g_2_0 (S := (scr S qa2 b0 c0)) (x := (some (gG (scr S qa2 b0 c0) 0 0))) X w h.v2 wF_X2_21 (h.f32) dX2_readQualities_9 ?_
        refine lv_iload_n hx hb dX2_readQualities_12 rfl (lv_at hl 2 rfl) ?_
        refine lv_iconst (v := 5) hx hb dX2_readQualities_13 (by decide) ?_
        refine lv_idiv hx hb dX2_readQualities_14 (by decide) ?_
        refine lv_topi (fun z1 ez1 => ?_)
        obtain rfl : z1 = nI (k2 / 5) := ez1.trans (pk_d5 hlt_k2)
        by_cases hs5 : k2 / 5 < ns
        · skip
          refine cV (S := (scr S qa2 b0 c0)) (nA := 1) (As := [.int (nI (k2 / 5))]) (rest := []) X w hl h.v0 (m_X0_stationAt G (scr S qa2 b0 c0) ea ns nj nm nt nr nc h (nI (k2 / 5))) wY_X0_stationAt wM_X2_49 wIn_X0_stationAt wSe_X0_X0_stationAt wI_X0 (by decide) rfl (by decide +kernel) rfl rfl dX2_readQualities_15 ⟨by decide, by decide⟩ (Nat.le_of_ble_eq_true rfl) (⟨Nat.le_of_ble_eq_true rfl, Nat.le_of_ble_eq_true rfl⟩) (fun v2 S1 H locs hp w => ?_)
          obtain ⟨hp, rfl⟩ := hp
          obtain ⟨jx, hjx, ejx, rfl⟩ := hp.resolve_left (fun z => by rw [so_j hs5 (Nat.le_trans h.b_st (by decide))] at z; exact absurd z.2 (by decide))
          obtain rfl : k2 / 5 = jx := (nI_eq (by omega) (by have := h.b_st; omega)).mp ejx
          refine lv_astore_n (lv' := [(3, .ref (gG (scr S qa2 b0 c0) 8 (k2 / 5))), (0, .ref (gG S 2 0)), (1, .int a), (2, .int (nI k2))]) hx hb dX2_readQualities_18 rfl hl (by decide) rfl (fun ls hl => ?_)
          refine lv_aload_n hx hb dX2_readQualities_19 rfl (lv_at hl 1 rfl) ?_
          refine g_2_1 (S := (scr S qa2 b0 c0)) (x := (some (gG (scr S qa2 b0 c0) 7 0))) X w h.v2 wF_X2_25 (h.f33) dX2_readQualities_20 ?_
          refine lv_iload_n hx hb dX2_readQualities_23 rfl (lv_at hl 3 rfl) ?_
          refine lv_iconst (v := 5) hx hb dX2_readQualities_24 (by decide) ?_
          refine lv_irem hx hb dX2_readQualities_25 (by decide) ?_
          refine lv_topi (fun z3 ez3 => ?_)
          obtain rfl : z3 = nI (k2 % 5) := ez3.trans (pk_r5 hlt_k2)
          by_cases hm5 : k2 % 5 < nm
          · skip
            refine cV (S := (scr S qa2 b0 c0)) (nA := 1) (As := [.int (nI (k2 % 5))]) (rest := []) X w hl h.v7 (m_X7_monitorAt G (scr S qa2 b0 c0) ea ns nj nm nt nr nc h (nI (k2 % 5))) wY_X7_monitorAt wM_X2_55 wIn_X7_monitorAt wSe_X7_X7_monitorAt wI_X7 (by decide) rfl (by decide +kernel) rfl rfl dX2_readQualities_26 ⟨by decide, by decide⟩ (Nat.le_of_ble_eq_true rfl) (⟨Nat.le_of_ble_eq_true rfl, Nat.le_of_ble_eq_true rfl⟩) (fun v4 S1 H locs hp w => ?_)
            obtain ⟨hp, rfl⟩ := hp
            obtain ⟨jx, hjx, ejx, rfl⟩ := hp.resolve_left (fun z => by rw [so_j hm5 (Nat.le_trans h.b_mo (by decide))] at z; exact absurd z.2 (by decide))
            obtain rfl : k2 % 5 = jx := (nI_eq (by omega) (by have := h.b_mo; omega)).mp ejx
            refine lv_astore (lv' := [(4, .ref (gG (scr S qa2 b0 c0) 3 (k2 % 5))), (3, .ref (gG (scr S qa2 b0 c0) 8 (k2 / 5))), (0, .ref (gG S 2 0)), (1, .int a), (2, .int (nI k2))]) hx hb dX2_readQualities_29 hl (by decide) rfl (fun ls hl => ?_)
            refine lv_aload_n hx hb dX2_readQualities_31 rfl (lv_at hl 2 rfl) ?_
            refine g_2_2 (S := (scr S qa2 b0 c0)) (x := (some (gG (scr S qa2 b0 c0) 32 2))) X w h.v2 wF_X2_11 (h.f34) dX2_readQualities_32 ?_
            refine lv_iload_n hx hb dX2_readQualities_35 rfl (lv_at hl 4 rfl) ?_
            refine lv_aload_n hx hb dX2_readQualities_36 rfl (lv_at hl 1 rfl) ?_
            refine lv_ifnull hx hb dX2_readQualities_37 ?_
            refine lv_aload hx hb dX2_readQualities_40 (lv_at hl 0 rfl) ?_
            refine lv_ifnonnull (tgt := 49) hx hb dX2_readQualities_42 (by decide) ?_
            refine lv_aload_n hx hb dX2_readQualities_49 rfl (lv_at hl 2 rfl) ?_
            refine g_2_1 (S := (scr S qa2 b0 c0)) (x := (some (gG (scr S qa2 b0 c0) 7 0))) X w h.v2 wF_X2_25 (h.f33) dX2_readQualities_50 ?_
            refine lv_aload hx hb dX2_readQualities_53 (lv_at hl 0 rfl) ?_
            refine lv_aload_n hx hb dX2_readQualities_55 rfl (lv_at hl 1 rfl) ?_
            refine lv_iload_n hx hb dX2_readQualities_56 rfl (lv_at hl 3 rfl) ?_
            refine cV (S := (scr S qa2 b0 c0)) (nA := 3) (As := [.ref (gG (scr S qa2 b0 c0) 3 (k2 % 5)), .ref (gG (scr S qa2 b0 c0) 8 (k2 / 5)), .int a]) (rest := [.int (nI k2), .ref (gG (scr S qa2 b0 c0) 32 2)]) X w hl h.v7 (a_X7_qualityOf G (scr S qa2 b0 c0) ea ns nj nm nt nr nc h A hA (k2 % 5) (k2 / 5) hm5 hs5 a) wY_X7_qualityOf wM_X2_61 wIn_X7_qualityOf wSe_X7_X7_qualityOf wI_X7 (by decide) rfl (by decide +kernel) rfl rfl dX2_readQualities_57 ⟨by decide, by decide⟩ (Nat.le_of_ble_eq_true rfl) (⟨Nat.le_of_ble_eq_true rfl, Nat.le_of_ble_eq_true rfl⟩) (fun v5 S1 H locs hp w => ?_)
            obtain ⟨rfl, rfl⟩ := hp
            refine aStI (S := (scr S qa2 b0 c0)) (t := 32) (i := 2) X w h.a2.1 (by decide) rfl rfl (by rw [h.a2.2]; exact nI_vp hlt_k2 (by decide)) dX2_readQualities_60 (fun H locs w => ?_)
            rw [scr_2] at w
            obtain ⟨q6, hq6⟩ : ∃ f9 : Nat → Int32, f9 = (upd (mA (scr S qa2 b0 c0) 32 2) (nI k2).toNatClampNeg (rQual A ns nj (k2 % 5) (k2 / 5) a)) := ⟨_, rfl⟩
            rw [← hq6] at w
            have hq6 : q6 = upd qa2 k2 (rQual A ns nj (k2 % 5) (k2 / 5) a) := by rw [hq6, mA_scr2, nI_clamp (by first | omega | exact Nat.lt_of_lt_of_le hlt_k2 (by decide))]
            have hv9 : (rQual A ns nj (k2 % 5) (k2 / 5) a) = nI (bQ A ns nj nm a (k2 / 5) (k2 % 5)) := by first | exact bQ_v hs5 hm5 | exact bQ_s hs5 | exact bQ_m hm5
            have hqn : ∀ q, q < k2 + 1 → q6 q = nI (bQ A ns nj nm a (q / 5) (q % 5)) := fun q hq => by
              rw [hq6]
              by_cases d : q = k2
              · rw [d, upd_s]; exact hv9
              · rw [upd_o d]; exact hqa q (by omega)
            have h : CI ea (scr S q6 b0 c0) ns nj nm nt nr nc := h0.scr _ _ _
            have hA : RK (scr S q6 b0 c0) A ns nj nm nt nr nc := hA0.scr
            refine lv_iinc (v := nI (k2 + 1)) (lv' := [(2, .int (nI (k2 + 1))), (4, .ref (gG (scr S qa2 b0 c0) 3 (k2 % 5))), (3, .ref (gG (scr S qa2 b0 c0) 8 (k2 / 5))), (0, .ref (gG S 2 0)), (1, .int a)]) hx hb dX2_readQualities_61 hl (k := 4) rfl (nI_1 _) (by decide) rfl (fun ls hl => ?_)
            refine lv_goto (tgt := 2) hx hb dX2_readQualities_64 (by decide) ?_
            exact ih2 (k2 + 1) q6 _ _ _ (by omega) (by omega) (hqn) w (lv_sub hl [3, 4, 0] rfl)
          · skip
            refine cV (S := (scr S qa2 b0 c0)) (nA := 1) (As := [.int (nI (k2 % 5))]) (rest := []) X w hl h.v7 (m_X7_monitorAt G (scr S qa2 b0 c0) ea ns nj nm nt nr nc h (nI (k2 % 5))) wY_X7_monitorAt wM_X2_55 wIn_X7_monitorAt wSe_X7_X7_monitorAt wI_X7 (by decide) rfl (by decide +kernel) rfl rfl dX2_readQualities_26 ⟨by decide, by decide⟩ (Nat.le_of_ble_eq_true rfl) (⟨Nat.le_of_ble_eq_true rfl, Nat.le_of_ble_eq_true rfl⟩) (fun v7 S1 H locs hp w => ?_)
            obtain ⟨hp, rfl⟩ := hp
            obtain ⟨rfl, -⟩ := hp.resolve_right (fun ⟨jx, hjx, ejx, _⟩ => hm5 (by rw [(nI_eq (by omega) (by have := h.b_mo; omega)).mp ejx]; exact hjx))
            refine lv_astoreN (lv' := [(4, .null), (3, .ref (gG (scr S qa2 b0 c0) 8 (k2 / 5))), (0, .ref (gG S 2 0)), (1, .int a), (2, .int (nI k2))]) hx hb dX2_readQualities_29 hl (by decide) rfl (fun ls hl => ?_)
            refine lv_aload_n hx hb dX2_readQualities_31 rfl (lv_at hl 2 rfl) ?_
            refine g_2_2 (S := (scr S qa2 b0 c0)) (x := (some (gG (scr S qa2 b0 c0) 32 2))) X w h.v2 wF_X2_11 (h.f34) dX2_readQualities_32 ?_
            refine lv_iload_n hx hb dX2_readQualities_35 rfl (lv_at hl 4 rfl) ?_
            refine lv_aload_n hx hb dX2_readQualities_36 rfl (lv_at hl 1 rfl) ?_
            refine lv_ifnull hx hb dX2_readQualities_37 ?_
            refine lv_aloadN hx hb dX2_readQualities_40 (lv_at hl 0 rfl) ?_
            refine lv_ifnonnullN hx hb dX2_readQualities_42 ?_
            refine lv_iconst (v := 0) hx hb dX2_readQualities_45 (by decide) ?_
            refine lv_goto (tgt := 60) hx hb dX2_readQualities_46 (by decide) ?_
            refine aStI (S := (scr S qa2 b0 c0)) (t := 32) (i := 2) X w h.a2.1 (by decide) rfl rfl (by rw [h.a2.2]; exact nI_vp hlt_k2 (by decide)) dX2_readQualities_60 (fun H locs w => ?_)
            rw [scr_2] at w
            obtain ⟨q8, hq8⟩ : ∃ f9 : Nat → Int32, f9 = (upd (mA (scr S qa2 b0 c0) 32 2) (nI k2).toNatClampNeg 0) := ⟨_, rfl⟩
            rw [← hq8] at w
            have hq8 : q8 = upd qa2 k2 0 := by rw [hq8, mA_scr2, nI_clamp (by first | omega | exact Nat.lt_of_lt_of_le hlt_k2 (by decide))]
            have hv9 : 0 = nI (bQ A ns nj nm a (k2 / 5) (k2 % 5)) := by first | exact bQ_v hs5 hm5 | exact bQ_s hs5 | exact bQ_m hm5
            have hqn : ∀ q, q < k2 + 1 → q8 q = nI (bQ A ns nj nm a (q / 5) (q % 5)) := fun q hq => by
              rw [hq8]
              by_cases d : q = k2
              · rw [d, upd_s]; exact hv9
              · rw [upd_o d]; exact hqa q (by omega)
            have h : CI ea (scr S q8 b0 c0) ns nj nm nt nr nc := h0.scr _ _ _
            have hA : RK (scr S q8 b0 c0) A ns nj nm nt nr nc := hA0.scr
            refine lv_iinc (v := nI (k2 + 1)) (lv' := [(2, .int (nI (k2 + 1))), (4, .null), (3, .ref (gG (scr S qa2 b0 c0) 8 (k2 / 5))), (0, .ref (gG S 2 0)), (1, .int a)]) hx hb dX2_readQualities_61 hl (k := 4) rfl (nI_1 _) (by decide) rfl (fun ls hl => ?_)
            refine lv_goto (tgt := 2) hx hb dX2_readQualities_64 (by decide) ?_
            exact ih2 (k2 + 1) q8 _ _ _ (by omega) (by omega) (hqn) w (lv_sub hl [3, 4, 0] rfl)
        · skip
          refine cV (S := (scr S qa2 b0 c0)) (nA := 1) (As := [.int (nI (k2 / 5))]) (rest := []) X w hl h.v0 (m_X0_stationAt G (scr S qa2 b0 c0) ea ns nj nm nt nr nc h (nI (k2 / 5))) wY_X0_stationAt wM_X2_49 wIn_X0_stationAt wSe_X0_X0_stationAt wI_X0 (by decide) rfl (by decide +kernel) rfl rfl dX2_readQualities_15 ⟨by decide, by decide⟩ (Nat.le_of_ble_eq_true rfl) (⟨Nat.le_of_ble_eq_true rfl, Nat.le_of_ble_eq_true rfl⟩) (fun v9 S1 H locs hp w => ?_)
          obtain ⟨hp, rfl⟩ := hp
          obtain ⟨rfl, -⟩ := hp.resolve_right (fun ⟨jx, hjx, ejx, _⟩ => hs5 (by rw [(nI_eq (by omega) (by have := h.b_st; omega)).mp ejx]; exact hjx))
          refine lv_astore_nN (lv' := [(3, .null), (0, .ref (gG S 2 0)), (1, .int a), (2, .int (nI k2))]) hx hb dX2_readQualities_18 rfl hl (by decide) rfl (fun ls hl => ?_)
          refine lv_aload_n hx hb dX2_readQualities_19 rfl (lv_at hl 1 rfl) ?_
          refine g_2_1 (S := (scr S qa2 b0 c0)) (x := (some (gG (scr S qa2 b0 c0) 7 0))) X w h.v2 wF_X2_25 (h.f33) dX2_readQualities_20 ?_
          refine lv_iload_n hx hb dX2_readQualities_23 rfl (lv_at hl 3 rfl) ?_
          refine lv_iconst (v := 5) hx hb dX2_readQualities_24 (by decide) ?_
          refine lv_irem hx hb dX2_readQualities_25 (by decide) ?_
          refine lv_topi (fun z10 ez10 => ?_)
          obtain rfl : z10 = nI (k2 % 5) := ez10.trans (pk_r5 hlt_k2)
          by_cases hm5 : k2 % 5 < nm
          · skip
            refine cV (S := (scr S qa2 b0 c0)) (nA := 1) (As := [.int (nI (k2 % 5))]) (rest := []) X w hl h.v7 (m_X7_monitorAt G (scr S qa2 b0 c0) ea ns nj nm nt nr nc h (nI (k2 % 5))) wY_X7_monitorAt wM_X2_55 wIn_X7_monitorAt wSe_X7_X7_monitorAt wI_X7 (by decide) rfl (by decide +kernel) rfl rfl dX2_readQualities_26 ⟨by decide, by decide⟩ (Nat.le_of_ble_eq_true rfl) (⟨Nat.le_of_ble_eq_true rfl, Nat.le_of_ble_eq_true rfl⟩) (fun v11 S1 H locs hp w => ?_)
            obtain ⟨hp, rfl⟩ := hp
            obtain ⟨jx, hjx, ejx, rfl⟩ := hp.resolve_left (fun z => by rw [so_j hm5 (Nat.le_trans h.b_mo (by decide))] at z; exact absurd z.2 (by decide))
            obtain rfl : k2 % 5 = jx := (nI_eq (by omega) (by have := h.b_mo; omega)).mp ejx
            refine lv_astore (lv' := [(4, .ref (gG (scr S qa2 b0 c0) 3 (k2 % 5))), (3, .null), (0, .ref (gG S 2 0)), (1, .int a), (2, .int (nI k2))]) hx hb dX2_readQualities_29 hl (by decide) rfl (fun ls hl => ?_)
            refine lv_aload_n hx hb dX2_readQualities_31 rfl (lv_at hl 2 rfl) ?_
            refine g_2_2 (S := (scr S qa2 b0 c0)) (x := (some (gG (scr S qa2 b0 c0) 32 2))) X w h.v2 wF_X2_11 (h.f34) dX2_readQualities_32 ?_
            refine lv_iload_n hx hb dX2_readQualities_35 rfl (lv_at hl 4 rfl) ?_
            refine lv_aload_nN hx hb dX2_readQualities_36 rfl (lv_at hl 1 rfl) ?_
            refine lv_ifnullN (tgt := 45) hx hb dX2_readQualities_37 (by decide) ?_
            refine lv_iconst (v := 0) hx hb dX2_readQualities_45 (by decide) ?_
            refine lv_goto (tgt := 60) hx hb dX2_readQualities_46 (by decide) ?_
            refine aStI (S := (scr S qa2 b0 c0)) (t := 32) (i := 2) X w h.a2.1 (by decide) rfl rfl (by rw [h.a2.2]; exact nI_vp hlt_k2 (by decide)) dX2_readQualities_60 (fun H locs w => ?_)
            rw [scr_2] at w
            obtain ⟨q12, hq12⟩ : ∃ f9 : Nat → Int32, f9 = (upd (mA (scr S qa2 b0 c0) 32 2) (nI k2).toNatClampNeg 0) := ⟨_, rfl⟩
            rw [← hq12] at w
            have hq12 : q12 = upd qa2 k2 0 := by rw [hq12, mA_scr2, nI_clamp (by first | omega | exact Nat.lt_of_lt_of_le hlt_k2 (by decide))]
            have hv9 : 0 = nI (bQ A ns nj nm a (k2 / 5) (k2 % 5)) := by first | exact bQ_v hs5 hm5 | exact bQ_s hs5 | exact bQ_m hm5
            have hqn : ∀ q, q < k2 + 1 → q12 q = nI (bQ A ns nj nm a (q / 5) (q % 5)) := fun q hq => by
              rw [hq12]
              by_cases d : q = k2
              · rw [d, upd_s]; exact hv9
              · rw [upd_o d]; exact hqa q (by omega)
            have h : CI ea (scr S q12 b0 c0) ns nj nm nt nr nc := h0.scr _ _ _
            have hA : RK (scr S q12 b0 c0) A ns nj nm nt nr nc := hA0.scr
            refine lv_iinc (v := nI (k2 + 1)) (lv' := [(2, .int (nI (k2 + 1))), (4, .ref (gG (scr S qa2 b0 c0) 3 (k2 % 5))), (3, .null), (0, .ref (gG S 2 0)), (1, .int a)]) hx hb dX2_readQualities_61 hl (k := 4) rfl (nI_1 _) (by decide) rfl (fun ls hl => ?_)
            refine lv_goto (tgt := 2) hx hb dX2_readQualities_64 (by decide) ?_
            exact ih2 (k2 + 1) q12 _ _ _ (by omega) (by omega) (hqn) w (lv_sub hl [3, 4, 0] rfl)
          · skip
            refine cV (S := (scr S qa2 b0 c0)) (nA := 1) (As := [.int (nI (k2 % 5))]) (rest := []) X w hl h.v7 (m_X7_monitorAt G (scr S qa2 b0 c0) ea ns nj nm nt nr nc h (nI (k2 % 5))) wY_X7_monitorAt wM_X2_55 wIn_X7_monitorAt wSe_X7_X7_monitorAt wI_X7 (by decide) rfl (by decide +kernel) rfl rfl dX2_readQualities_26 ⟨by decide, by decide⟩ (Nat.le_of_ble_eq_true rfl) (⟨Nat.le_of_ble_eq_true rfl, Nat.le_of_ble_eq_true rfl⟩) (fun v13 S1 H locs hp w => ?_)
            obtain ⟨hp, rfl⟩ := hp
            obtain ⟨rfl, -⟩ := hp.resolve_right (fun ⟨jx, hjx, ejx, _⟩ => hm5 (by rw [(nI_eq (by omega) (by have := h.b_mo; omega)).mp ejx]; exact hjx))
            refine lv_astoreN (lv' := [(4, .null), (3, .null), (0, .ref (gG S 2 0)), (1, .int a), (2, .int (nI k2))]) hx hb dX2_readQualities_29 hl (by decide) rfl (fun ls hl => ?_)
            refine lv_aload_n hx hb dX2_readQualities_31 rfl (lv_at hl 2 rfl) ?_
            refine g_2_2 (S := (scr S qa2 b0 c0)) (x := (some (gG (scr S qa2 b0 c0) 32 2))) X w h.v2 wF_X2_11 (h.f34) dX2_readQualities_32 ?_
            refine lv_iload_n hx hb dX2_readQualities_35 rfl (lv_at hl 4 rfl) ?_
            refine lv_aload_nN hx hb dX2_readQualities_36 rfl (lv_at hl 1 rfl) ?_
            refine lv_ifnullN (tgt := 45) hx hb dX2_readQualities_37 (by decide) ?_
            refine lv_iconst (v := 0) hx hb dX2_readQualities_45 (by decide) ?_
            refine lv_goto (tgt := 60) hx hb dX2_readQualities_46 (by decide) ?_
            refine aStI (S := (scr S qa2 b0 c0)) (t := 32) (i := 2) X w h.a2.1 (by decide) rfl rfl (by rw [h.a2.2]; exact nI_vp hlt_k2 (by decide)) dX2_readQualities_60 (fun H locs w => ?_)
            rw [scr_2] at w
            obtain ⟨q14, hq14⟩ : ∃ f9 : Nat → Int32, f9 = (upd (mA (scr S qa2 b0 c0) 32 2) (nI k2).toNatClampNeg 0) := ⟨_, rfl⟩
            rw [← hq14] at w
            have hq14 : q14 = upd qa2 k2 0 := by rw [hq14, mA_scr2, nI_clamp (by first | omega | exact Nat.lt_of_lt_of_le hlt_k2 (by decide))]
            have hv9 : 0 = nI (bQ A ns nj nm a (k2 / 5) (k2 % 5)) := by first | exact bQ_v hs5 hm5 | exact bQ_s hs5 | exact bQ_m hm5
            have hqn : ∀ q, q < k2 + 1 → q14 q = nI (bQ A ns nj nm a (q / 5) (q % 5)) := fun q hq => by
              rw [hq14]
              by_cases d : q = k2
              · rw [d, upd_s]; exact hv9
              · rw [upd_o d]; exact hqa q (by omega)
            have h : CI ea (scr S q14 b0 c0) ns nj nm nt nr nc := h0.scr _ _ _
            have hA : RK (scr S q14 b0 c0) A ns nj nm nt nr nc := hA0.scr
            refine lv_iinc (v := nI (k2 + 1)) (lv' := [(2, .int (nI (k2 + 1))), (4, .null), (3, .null), (0, .ref (gG S 2 0)), (1, .int a)]) hx hb dX2_readQualities_61 hl (k := 4) rfl (nI_1 _) (by decide) rfl (fun ls hl => ?_)
            refine lv_goto (tgt := 2) hx hb dX2_readQualities_64 (by decide) ?_
            exact ih2 (k2 + 1) q14 _ _ _ (by omega) (by omega) (hqn) w (lv_sub hl [3, 4, 0] rfl)
  exact L2 _ 0 a0 _ _ _ (Nat.lt_succ_self _) (by omega) (fun q hq => absurd hq (Nat.not_lt_zero q)) w (lv_sub hl [1, 2, 0] rfl)

abbrev rm_e_X2_qualityOfPair : Room := { frames := 1, cells := 0, slots := 0, locals := 22 }
set_option maxHeartbeats 4000000 in
set_option maxRecDepth 100000 in
theorem e_X2_qualityOfPair {s0 : State} {l : Launch} {D : va_G} {cy : Nat → ClassId} (G : Gl s0 l D cy) (S : HS) (ea ns nj nm nt nr nc : Nat) (h : CI ea S ns nj nm nt nr nc) (A : HS) (hA : RK S A ns nj nm nt nr nc) (q : Nat) (hq : q < 40) (a0 b0 c0 : Nat → Int32) : Ctr s0 l D cy yX2_qualityOfPair cX2_qualityOfPair 2 (some .int) rm_e_X2_qualityOfPair (scr S a0 b0 c0) [.ref (gG S 2 0), .int (nI q)] (PU (scr S a0 b0 c0) (some (.int (a0 q)))) := by
  refine pro "CavershamShift$Matching" G rfl rfl (Nat.le_of_ble_eq_true rfl) (fun p e s m below meth c ls X w hnm hl => ?_)
  have hx := X.1
  have hb := X.2.1
  have hown := X.2.2.2.1
  have hts := X.2.2.2.2.1
  have hl : lv_has ls 2 [(0, .ref (gG S 2 0)), (1, .int (nI q))] := hl
  have h0 := h
  have hA0 := hA
  have h : CI ea (scr S a0 b0 c0) ns nj nm nt nr nc := h0.scr _ _ _
  have hA : RK (scr S a0 b0 c0) A ns nj nm nt nr nc := hA0.scr
  refine lv_iload_n hx hb dX2_qualityOfPair_0 rfl (lv_at hl 1 rfl) ?_
  refine lv_iconst (v := 0) hx hb dX2_qualityOfPair_1 (by decide) ?_
  refine lv_bipush (v := 39) hx hb dX2_qualityOfPair_2 (by decide) ?_
  refine cSN (S := (scr S a0 b0 c0)) (nA := 3) (As := [.int (nI q), .int 0, .int 39]) (rest := []) X w hl (m_X10_isOutside G (scr S a0 b0 c0) (nI q) 0 39) wY_X10_isOutside wMN_X2_41 wSt_X10_isOutside wI_X10 (by decide +kernel) rfl rfl dX2_qualityOfPair_4 ⟨by decide, by decide⟩ (Nat.le_of_ble_eq_true rfl) (⟨Nat.le_of_ble_eq_true rfl, Nat.le_of_ble_eq_true rfl⟩) (fun v1 S1 H locs hp w => ?_)
  obtain ⟨rfl, rfl⟩ := hp
  refine lv_if_eq (tgt := 14) hx hb dX2_qualityOfPair_7 (by decide) (fun hc7 => ?_) (fun hc7 => ?_)
  · refine lv_aload_n hx hb dX2_qualityOfPair_14 rfl (lv_at hl 0 rfl) ?_
    refine g_2_2 (S := (scr S a0 b0 c0)) (x := (some (gG (scr S a0 b0 c0) 32 2))) X w h.v2 wF_X2_11 (h.f34) dX2_qualityOfPair_15 ?_
    refine lv_iload_n hx hb dX2_qualityOfPair_18 rfl (lv_at hl 1 rfl) ?_
    refine aLdI (S := (scr S a0 b0 c0)) (t := 32) (v := (a0 q)) X w h.a2.1 (by decide) rfl rfl (by rw [h.a2.2]; exact nI_vp hq (by decide)) (by rw [mA_scr2, nI_clamp (by omega)]) dX2_qualityOfPair_19 ?_
    exact rI X w rfl dX2_qualityOfPair_20 (by decide) (by decide) (pu_i rfl)
  · exact absurd (b2i_t hc7) (by rw [show sOut (nI q) 0 39 = false from so_jn (n := 40) hq (by decide)]; decide)

theorem bcx : ∀ w9, w9 < 32 → nI (bc w9) = (((((((((nI w9) - ((((nI w9).toUInt32 >>> ((1 : Int32).toUInt32 &&& Int32.toUInt32 31)).toInt32) &&& 1431655765)) &&& 858993459) + (((((nI w9) - ((((nI w9).toUInt32 >>> ((1 : Int32).toUInt32 &&& Int32.toUInt32 31)).toInt32) &&& 1431655765)).toUInt32 >>> ((2 : Int32).toUInt32 &&& Int32.toUInt32 31)).toInt32) &&& 858993459)) + ((((((nI w9) - ((((nI w9).toUInt32 >>> ((1 : Int32).toUInt32 &&& Int32.toUInt32 31)).toInt32) &&& 1431655765)) &&& 858993459) + (((((nI w9) - ((((nI w9).toUInt32 >>> ((1 : Int32).toUInt32 &&& Int32.toUInt32 31)).toInt32) &&& 1431655765)).toUInt32 >>> ((2 : Int32).toUInt32 &&& Int32.toUInt32 31)).toInt32) &&& 858993459)).toUInt32 >>> ((4 : Int32).toUInt32 &&& Int32.toUInt32 31)).toInt32)) &&& 252645135) + ((((((((nI w9) - ((((nI w9).toUInt32 >>> ((1 : Int32).toUInt32 &&& Int32.toUInt32 31)).toInt32) &&& 1431655765)) &&& 858993459) + (((((nI w9) - ((((nI w9).toUInt32 >>> ((1 : Int32).toUInt32 &&& Int32.toUInt32 31)).toInt32) &&& 1431655765)).toUInt32 >>> ((2 : Int32).toUInt32 &&& Int32.toUInt32 31)).toInt32) &&& 858993459)) + ((((((nI w9) - ((((nI w9).toUInt32 >>> ((1 : Int32).toUInt32 &&& Int32.toUInt32 31)).toInt32) &&& 1431655765)) &&& 858993459) + (((((nI w9) - ((((nI w9).toUInt32 >>> ((1 : Int32).toUInt32 &&& Int32.toUInt32 31)).toInt32) &&& 1431655765)).toUInt32 >>> ((2 : Int32).toUInt32 &&& Int32.toUInt32 31)).toInt32) &&& 858993459)).toUInt32 >>> ((4 : Int32).toUInt32 &&& Int32.toUInt32 31)).toInt32)) &&& 252645135).toUInt32 >>> ((8 : Int32).toUInt32 &&& Int32.toUInt32 31)).toInt32)) + (((((((((nI w9) - ((((nI w9).toUInt32 >>> ((1 : Int32).toUInt32 &&& Int32.toUInt32 31)).toInt32) &&& 1431655765)) &&& 858993459) + (((((nI w9) - ((((nI w9).toUInt32 >>> ((1 : Int32).toUInt32 &&& Int32.toUInt32 31)).toInt32) &&& 1431655765)).toUInt32 >>> ((2 : Int32).toUInt32 &&& Int32.toUInt32 31)).toInt32) &&& 858993459)) + ((((((nI w9) - ((((nI w9).toUInt32 >>> ((1 : Int32).toUInt32 &&& Int32.toUInt32 31)).toInt32) &&& 1431655765)) &&& 858993459) + (((((nI w9) - ((((nI w9).toUInt32 >>> ((1 : Int32).toUInt32 &&& Int32.toUInt32 31)).toInt32) &&& 1431655765)).toUInt32 >>> ((2 : Int32).toUInt32 &&& Int32.toUInt32 31)).toInt32) &&& 858993459)).toUInt32 >>> ((4 : Int32).toUInt32 &&& Int32.toUInt32 31)).toInt32)) &&& 252645135) + ((((((((nI w9) - ((((nI w9).toUInt32 >>> ((1 : Int32).toUInt32 &&& Int32.toUInt32 31)).toInt32) &&& 1431655765)) &&& 858993459) + (((((nI w9) - ((((nI w9).toUInt32 >>> ((1 : Int32).toUInt32 &&& Int32.toUInt32 31)).toInt32) &&& 1431655765)).toUInt32 >>> ((2 : Int32).toUInt32 &&& Int32.toUInt32 31)).toInt32) &&& 858993459)) + ((((((nI w9) - ((((nI w9).toUInt32 >>> ((1 : Int32).toUInt32 &&& Int32.toUInt32 31)).toInt32) &&& 1431655765)) &&& 858993459) + (((((nI w9) - ((((nI w9).toUInt32 >>> ((1 : Int32).toUInt32 &&& Int32.toUInt32 31)).toInt32) &&& 1431655765)).toUInt32 >>> ((2 : Int32).toUInt32 &&& Int32.toUInt32 31)).toInt32) &&& 858993459)).toUInt32 >>> ((4 : Int32).toUInt32 &&& Int32.toUInt32 31)).toInt32)) &&& 252645135).toUInt32 >>> ((8 : Int32).toUInt32 &&& Int32.toUInt32 31)).toInt32)).toUInt32 >>> ((16 : Int32).toUInt32 &&& Int32.toUInt32 31)).toInt32)) &&& 63) := by decide +kernel
abbrev rm_e_bitCount : Room := { frames := 0, cells := 0, slots := 0, locals := 0 }
set_option maxHeartbeats 4000000 in
set_option maxRecDepth 100000 in
theorem e_bitCount {s0 : State} {l : Launch} {D : va_G} {cy : Nat → ClassId} (G : Gl s0 l D cy) (S : HS) (w9 : Nat) (hw9 : w9 < 32) : Ctr s0 l D cy yJ6_bitCount_0f7a4 cJ6_bitCount_0f7a4 1 (some .int) rm_e_bitCount S [.int (nI w9)] (PU S (some (.int (nI (bc w9))))) := by
  refine pro "java/lang/Integer" G rfl rfl (Nat.le_of_ble_eq_true rfl) (fun p e s m below meth c ls X w hnm hl => ?_)
  have hx := X.1
  have hb := X.2.1
  have hown := X.2.2.2.1
  have hts := X.2.2.2.2.1
  have hl : lv_has ls 1 [(0, .int (nI w9))] := hl
  refine lv_iload_n hx hb dJ6_bitCount_0f7a4_0 rfl (lv_at hl 0 rfl) ?_
  refine lv_iload_n hx hb dJ6_bitCount_0f7a4_1 rfl (lv_at hl 0 rfl) ?_
  refine lv_iconst (v := 1) hx hb dJ6_bitCount_0f7a4_2 (by decide) ?_
  refine lv_iushr hx hb dJ6_bitCount_0f7a4_3 rfl ?_
  refine lv_ldcw hx hb hown (hts _ wK_J6_265) dJ6_bitCount_0f7a4_4 ?_
  refine lv_iand hx hb dJ6_bitCount_0f7a4_7 ?_
  refine lv_isub hx hb dJ6_bitCount_0f7a4_8 ?_
  refine lv_istore_n (lv' := [(0, .int ((nI w9) - ((((nI w9).toUInt32 >>> ((1 : Int32).toUInt32 &&& Int32.toUInt32 31)).toInt32) &&& 1431655765)))]) hx hb dJ6_bitCount_0f7a4_9 rfl hl (by decide) rfl (fun ls hl => ?_)
  refine lv_iload_n hx hb dJ6_bitCount_0f7a4_10 rfl (lv_at hl 0 rfl) ?_
  refine lv_ldcw hx hb hown (hts _ wK_J6_266) dJ6_bitCount_0f7a4_11 ?_
  refine lv_iand hx hb dJ6_bitCount_0f7a4_14 ?_
  refine lv_iload_n hx hb dJ6_bitCount_0f7a4_15 rfl (lv_at hl 0 rfl) ?_
  refine lv_iconst (v := 2) hx hb dJ6_bitCount_0f7a4_16 (by decide) ?_
  refine lv_iushr hx hb dJ6_bitCount_0f7a4_17 rfl ?_
  refine lv_ldcw hx hb hown (hts _ wK_J6_266) dJ6_bitCount_0f7a4_18 ?_
  refine lv_iand hx hb dJ6_bitCount_0f7a4_21 ?_
  refine lv_iadd hx hb dJ6_bitCount_0f7a4_22 ?_
  refine lv_istore_n (lv' := [(0, .int ((((nI w9) - ((((nI w9).toUInt32 >>> ((1 : Int32).toUInt32 &&& Int32.toUInt32 31)).toInt32) &&& 1431655765)) &&& 858993459) + (((((nI w9) - ((((nI w9).toUInt32 >>> ((1 : Int32).toUInt32 &&& Int32.toUInt32 31)).toInt32) &&& 1431655765)).toUInt32 >>> ((2 : Int32).toUInt32 &&& Int32.toUInt32 31)).toInt32) &&& 858993459)))]) hx hb dJ6_bitCount_0f7a4_23 rfl hl (by decide) rfl (fun ls hl => ?_)
  refine lv_iload_n hx hb dJ6_bitCount_0f7a4_24 rfl (lv_at hl 0 rfl) ?_
  refine lv_iload_n hx hb dJ6_bitCount_0f7a4_25 rfl (lv_at hl 0 rfl) ?_
  refine lv_iconst (v := 4) hx hb dJ6_bitCount_0f7a4_26 (by decide) ?_
  refine lv_iushr hx hb dJ6_bitCount_0f7a4_27 rfl ?_
  refine lv_iadd hx hb dJ6_bitCount_0f7a4_28 ?_
  refine lv_ldcw hx hb hown (hts _ wK_J6_267) dJ6_bitCount_0f7a4_29 ?_
  refine lv_iand hx hb dJ6_bitCount_0f7a4_32 ?_
  refine lv_istore_n (lv' := [(0, .int ((((((nI w9) - ((((nI w9).toUInt32 >>> ((1 : Int32).toUInt32 &&& Int32.toUInt32 31)).toInt32) &&& 1431655765)) &&& 858993459) + (((((nI w9) - ((((nI w9).toUInt32 >>> ((1 : Int32).toUInt32 &&& Int32.toUInt32 31)).toInt32) &&& 1431655765)).toUInt32 >>> ((2 : Int32).toUInt32 &&& Int32.toUInt32 31)).toInt32) &&& 858993459)) + ((((((nI w9) - ((((nI w9).toUInt32 >>> ((1 : Int32).toUInt32 &&& Int32.toUInt32 31)).toInt32) &&& 1431655765)) &&& 858993459) + (((((nI w9) - ((((nI w9).toUInt32 >>> ((1 : Int32).toUInt32 &&& Int32.toUInt32 31)).toInt32) &&& 1431655765)).toUInt32 >>> ((2 : Int32).toUInt32 &&& Int32.toUInt32 31)).toInt32) &&& 858993459)).toUInt32 >>> ((4 : Int32).toUInt32 &&& Int32.toUInt32 31)).toInt32)) &&& 252645135))]) hx hb dJ6_bitCount_0f7a4_33 rfl hl (by decide) rfl (fun ls hl => ?_)
  refine lv_iload_n hx hb dJ6_bitCount_0f7a4_34 rfl (lv_at hl 0 rfl) ?_
  refine lv_iload_n hx hb dJ6_bitCount_0f7a4_35 rfl (lv_at hl 0 rfl) ?_
  refine lv_bipush (v := 8) hx hb dJ6_bitCount_0f7a4_36 (by decide) ?_
  refine lv_iushr hx hb dJ6_bitCount_0f7a4_38 rfl ?_
  refine lv_iadd hx hb dJ6_bitCount_0f7a4_39 ?_
  refine lv_istore_n (lv' := [(0, .int (((((((nI w9) - ((((nI w9).toUInt32 >>> ((1 : Int32).toUInt32 &&& Int32.toUInt32 31)).toInt32) &&& 1431655765)) &&& 858993459) + (((((nI w9) - ((((nI w9).toUInt32 >>> ((1 : Int32).toUInt32 &&& Int32.toUInt32 31)).toInt32) &&& 1431655765)).toUInt32 >>> ((2 : Int32).toUInt32 &&& Int32.toUInt32 31)).toInt32) &&& 858993459)) + ((((((nI w9) - ((((nI w9).toUInt32 >>> ((1 : Int32).toUInt32 &&& Int32.toUInt32 31)).toInt32) &&& 1431655765)) &&& 858993459) + (((((nI w9) - ((((nI w9).toUInt32 >>> ((1 : Int32).toUInt32 &&& Int32.toUInt32 31)).toInt32) &&& 1431655765)).toUInt32 >>> ((2 : Int32).toUInt32 &&& Int32.toUInt32 31)).toInt32) &&& 858993459)).toUInt32 >>> ((4 : Int32).toUInt32 &&& Int32.toUInt32 31)).toInt32)) &&& 252645135) + ((((((((nI w9) - ((((nI w9).toUInt32 >>> ((1 : Int32).toUInt32 &&& Int32.toUInt32 31)).toInt32) &&& 1431655765)) &&& 858993459) + (((((nI w9) - ((((nI w9).toUInt32 >>> ((1 : Int32).toUInt32 &&& Int32.toUInt32 31)).toInt32) &&& 1431655765)).toUInt32 >>> ((2 : Int32).toUInt32 &&& Int32.toUInt32 31)).toInt32) &&& 858993459)) + ((((((nI w9) - ((((nI w9).toUInt32 >>> ((1 : Int32).toUInt32 &&& Int32.toUInt32 31)).toInt32) &&& 1431655765)) &&& 858993459) + (((((nI w9) - ((((nI w9).toUInt32 >>> ((1 : Int32).toUInt32 &&& Int32.toUInt32 31)).toInt32) &&& 1431655765)).toUInt32 >>> ((2 : Int32).toUInt32 &&& Int32.toUInt32 31)).toInt32) &&& 858993459)).toUInt32 >>> ((4 : Int32).toUInt32 &&& Int32.toUInt32 31)).toInt32)) &&& 252645135).toUInt32 >>> ((8 : Int32).toUInt32 &&& Int32.toUInt32 31)).toInt32)))]) hx hb dJ6_bitCount_0f7a4_40 rfl hl (by decide) rfl (fun ls hl => ?_)
  refine lv_iload_n hx hb dJ6_bitCount_0f7a4_41 rfl (lv_at hl 0 rfl) ?_
  refine lv_iload_n hx hb dJ6_bitCount_0f7a4_42 rfl (lv_at hl 0 rfl) ?_
  refine lv_bipush (v := 16) hx hb dJ6_bitCount_0f7a4_43 (by decide) ?_
  refine lv_iushr hx hb dJ6_bitCount_0f7a4_45 rfl ?_
  refine lv_iadd hx hb dJ6_bitCount_0f7a4_46 ?_
  refine lv_istore_n (lv' := [(0, .int ((((((((nI w9) - ((((nI w9).toUInt32 >>> ((1 : Int32).toUInt32 &&& Int32.toUInt32 31)).toInt32) &&& 1431655765)) &&& 858993459) + (((((nI w9) - ((((nI w9).toUInt32 >>> ((1 : Int32).toUInt32 &&& Int32.toUInt32 31)).toInt32) &&& 1431655765)).toUInt32 >>> ((2 : Int32).toUInt32 &&& Int32.toUInt32 31)).toInt32) &&& 858993459)) + ((((((nI w9) - ((((nI w9).toUInt32 >>> ((1 : Int32).toUInt32 &&& Int32.toUInt32 31)).toInt32) &&& 1431655765)) &&& 858993459) + (((((nI w9) - ((((nI w9).toUInt32 >>> ((1 : Int32).toUInt32 &&& Int32.toUInt32 31)).toInt32) &&& 1431655765)).toUInt32 >>> ((2 : Int32).toUInt32 &&& Int32.toUInt32 31)).toInt32) &&& 858993459)).toUInt32 >>> ((4 : Int32).toUInt32 &&& Int32.toUInt32 31)).toInt32)) &&& 252645135) + ((((((((nI w9) - ((((nI w9).toUInt32 >>> ((1 : Int32).toUInt32 &&& Int32.toUInt32 31)).toInt32) &&& 1431655765)) &&& 858993459) + (((((nI w9) - ((((nI w9).toUInt32 >>> ((1 : Int32).toUInt32 &&& Int32.toUInt32 31)).toInt32) &&& 1431655765)).toUInt32 >>> ((2 : Int32).toUInt32 &&& Int32.toUInt32 31)).toInt32) &&& 858993459)) + ((((((nI w9) - ((((nI w9).toUInt32 >>> ((1 : Int32).toUInt32 &&& Int32.toUInt32 31)).toInt32) &&& 1431655765)) &&& 858993459) + (((((nI w9) - ((((nI w9).toUInt32 >>> ((1 : Int32).toUInt32 &&& Int32.toUInt32 31)).toInt32) &&& 1431655765)).toUInt32 >>> ((2 : Int32).toUInt32 &&& Int32.toUInt32 31)).toInt32) &&& 858993459)).toUInt32 >>> ((4 : Int32).toUInt32 &&& Int32.toUInt32 31)).toInt32)) &&& 252645135).toUInt32 >>> ((8 : Int32).toUInt32 &&& Int32.toUInt32 31)).toInt32)) + (((((((((nI w9) - ((((nI w9).toUInt32 >>> ((1 : Int32).toUInt32 &&& Int32.toUInt32 31)).toInt32) &&& 1431655765)) &&& 858993459) + (((((nI w9) - ((((nI w9).toUInt32 >>> ((1 : Int32).toUInt32 &&& Int32.toUInt32 31)).toInt32) &&& 1431655765)).toUInt32 >>> ((2 : Int32).toUInt32 &&& Int32.toUInt32 31)).toInt32) &&& 858993459)) + ((((((nI w9) - ((((nI w9).toUInt32 >>> ((1 : Int32).toUInt32 &&& Int32.toUInt32 31)).toInt32) &&& 1431655765)) &&& 858993459) + (((((nI w9) - ((((nI w9).toUInt32 >>> ((1 : Int32).toUInt32 &&& Int32.toUInt32 31)).toInt32) &&& 1431655765)).toUInt32 >>> ((2 : Int32).toUInt32 &&& Int32.toUInt32 31)).toInt32) &&& 858993459)).toUInt32 >>> ((4 : Int32).toUInt32 &&& Int32.toUInt32 31)).toInt32)) &&& 252645135) + ((((((((nI w9) - ((((nI w9).toUInt32 >>> ((1 : Int32).toUInt32 &&& Int32.toUInt32 31)).toInt32) &&& 1431655765)) &&& 858993459) + (((((nI w9) - ((((nI w9).toUInt32 >>> ((1 : Int32).toUInt32 &&& Int32.toUInt32 31)).toInt32) &&& 1431655765)).toUInt32 >>> ((2 : Int32).toUInt32 &&& Int32.toUInt32 31)).toInt32) &&& 858993459)) + ((((((nI w9) - ((((nI w9).toUInt32 >>> ((1 : Int32).toUInt32 &&& Int32.toUInt32 31)).toInt32) &&& 1431655765)) &&& 858993459) + (((((nI w9) - ((((nI w9).toUInt32 >>> ((1 : Int32).toUInt32 &&& Int32.toUInt32 31)).toInt32) &&& 1431655765)).toUInt32 >>> ((2 : Int32).toUInt32 &&& Int32.toUInt32 31)).toInt32) &&& 858993459)).toUInt32 >>> ((4 : Int32).toUInt32 &&& Int32.toUInt32 31)).toInt32)) &&& 252645135).toUInt32 >>> ((8 : Int32).toUInt32 &&& Int32.toUInt32 31)).toInt32)).toUInt32 >>> ((16 : Int32).toUInt32 &&& Int32.toUInt32 31)).toInt32)))]) hx hb dJ6_bitCount_0f7a4_47 rfl hl (by decide) rfl (fun ls hl => ?_)
  refine lv_iload_n hx hb dJ6_bitCount_0f7a4_48 rfl (lv_at hl 0 rfl) ?_
  refine lv_bipush (v := 63) hx hb dJ6_bitCount_0f7a4_49 (by decide) ?_
  refine lv_iand hx hb dJ6_bitCount_0f7a4_51 ?_
  exact rI X w rfl dJ6_bitCount_0f7a4_52 (by decide) (by decide) (pu_i (bcx w9 hw9))

