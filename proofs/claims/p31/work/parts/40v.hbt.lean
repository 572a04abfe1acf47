theorem Rp_tk {Q : Nat → Nat → Nat} {K n w v : Nat} {S M : Nat → Bool} (h : S n = true) : Rp Q K S M n w v ↔ Rp Q K S M (n + 1) w v := ⟨Or.inl, fun z => z.elim id (fun y => by rw [h] at y; exact absurd y.1 (by decide))⟩
theorem kw_0 {kw : Nat} (hk : kw ≤ 32) (h : nI kw + (-1) < 0) : kw = 0 := by
  cases kw with
  | zero => rfl
  | succ m => rw [pk_m1] at h; exact absurd h (nI_pos (n := m) (by omega))
theorem Chr_0 {Q : Nat → Nat → Nat} {K : Nat} {S M : Nat → Bool} {f : Nat → Int32} (h : ∀ w, w < 32 → f w = if w = 0 then 0 else -1) : Chr f (Rp Q K S M 0) := fun w hw => by
  rw [h w hw]
  by_cases c : w = 0
  · rw [if_pos c]
    exact Or.inr ⟨0, by decide, rfl, ⟨c, rfl⟩, fun v' z => Nat.le_of_eq z.2⟩
  · rw [if_neg c]; exact Or.inl ⟨rfl, fun v z => c z.1⟩
theorem bc_5 : ∀ w, w < 32 → bc w ≤ 5 := by decide +kernel
theorem in_2b {mn eM k : Nat} (h1 : mn < 32) (h2 : eM < 32) (hk : k < 5) : sIn (nI mn ||| nI eM) (nI k) = (mn.testBit k || tB eM k) := by
  rw [nx_or, sIn_tb _ (Nat.lt_trans (Nat.or_lt_two_pow (n := 5) h1 h2) (by decide)) k (by omega), Nat.testBit_or]; rfl

abbrev rm_e_X2_addStation : Room := { frames := 2, cells := 0, slots := 0, locals := 43 }
set_option maxHeartbeats 4000000 in
set_option maxRecDepth 100000 in
theorem e_X2_addStation {s0 : State} {l : Launch} {D : va_G} {cy : Nat → ClassId} (G : Gl s0 l D cy) (S : HS) (ea ns nj nm nt nr nc : Nat) (h : CI ea S ns nj nm nt nr nc) (A : HS) (hA : RK S A ns nj nm nt nr nc) (n K eM : Nat) (hn : n < 8) (hK : K ≤ 3) (hM : eM < 32) (S9 : Nat → Bool) (hS9 : S9 n = false) (a : Int32) (a0 b0 c0 : Nat → Int32) (hqa : QAr A ns nj nm a a0) (hch : Chr b0 (Rp (bQ A ns nj nm a) K S9 (tB eM) n)) : Ctr s0 l D cy yX2_addStation cX2_addStation 10 none rm_e_X2_addStation (scr S a0 b0 c0) [.ref (gG S 2 0), .int (nI n), .int (nI K), .int (nI eM)] (fun v S' => none = v ∧ ∃ f, Chr f (Rp (bQ A ns nj nm a) K S9 (tB eM) (n + 1)) ∧ S' = scr S a0 f c0) := by
  refine pro "CavershamShift$Matching" G rfl rfl (Nat.le_of_ble_eq_true rfl) (fun p e s m below meth c ls X w hnm hl => ?_)
  have hx := X.1
  have hb := X.2.1
  have hown := X.2.2.2.1
  have hts := X.2.2.2.2.1
  have hl : lv_has ls 10 [(0, .ref (gG S 2 0)), (1, .int (nI n)), (2, .int (nI K)), (3, .int (nI eM))] := hl
  have h0 := h
  have hA0 := hA
  have h : CI ea (scr S a0 b0 c0) ns nj nm nt nr nc := h0.scr _ _ _
  have hA : RK (scr S a0 b0 c0) A ns nj nm nt nr nc := hA0.scr
  refine lv_bipush (v := 31) hx hb dX2_addStation_0 (by decide) ?_
  refine lv_topi (fun z1 ez1 => ?_)
  obtain rfl : z1 = (nI 32 + (-1)) := ez1.trans (by decide)
  refine lv_istore (lv' := [(4, .int (nI 32 + (-1))), (0, .ref (gG S 2 0)), (1, .int (nI n)), (2, .int (nI K)), (3, .int (nI eM))]) hx hb dX2_addStation_2 hl (by decide) rfl (fun ls hl => ?_)
  have L4 : ∀ (N : Nat) (kw : Nat) (qb4 : Nat → Int32) (H : Heap) (locs : List Loc) (ls : Array Slot), kw < N → (kw ≤ 32) → (Chr qb4 (Rq (bQ A ns nj nm a) K S9 (tB eM) n (fun w' _ => kw ≤ w'))) → Wd s0 D cy (scr S a0 qb4 c0) s.heap H locs → lv_has ls 10 [(0, .ref (gG S 2 0)), (1, .int (nI n)), (2, .int (nI K)), (3, .int (nI eM)), (4, .int (nI kw + (-1)))] → W p l e rm_e_X2_addStation s m ([.ref (gG S 2 0), .int (nI n), .int (nI K), .int (nI eM)] : List Value).toArray below meth c H locs 0 0 (MQ below (GQ s0 D cy (fun v S' => none = v ∧ ∃ f, Chr f (Rp (bQ A ns nj nm a) K S9 (tB eM) (n + 1)) ∧ S' = scr S a0 f c0)) ([.ref (gG S 2 0), .int (nI n), .int (nI K), .int (nI eM)] : List Value).toArray s rm_e_X2_addStation.cells rm_e_X2_addStation.slots (A0 s0)) (F0 m 4 ls []) := by
    intro N
    induction N with
    | zero => intros; omega
    | succ N ih4 =>
      intro kw qb4 H locs ls hmu hkw hc4 w hl
      have h : CI ea (scr S a0 qb4 c0) ns nj nm nt nr nc := h0.scr _ _ _
      have hA : RK (scr S a0 qb4 c0) A ns nj nm nt nr nc := hA0.scr
      refine lv_iload hx hb dX2_addStation_4 (lv_at hl 4 rfl) ?_
      refine lv_if_lt (tgt := 146) hx hb dX2_addStation_6 (by decide) (fun hcw => ?_) (fun hcw => ?_)
      · exact rV X w rfl dX2_addStation_146 (by decide) (by decide) (⟨rfl, qb4, Chr_iff (by rw [kw_0 hkw hcw] at hc4; exact hc4) (fun w v => Rq_end hS9), rfl⟩)
      · obtain ⟨mn, rfl⟩ := m1_ge hcw
        rw [pk_m1] at hl
        have hmn : mn < 32 := hkw
        refine lv_aload_n hx hb dX2_addStation_9 rfl (lv_at hl 0 rfl) ?_
        refine g_2_3 (S := (scr S a0 qb4 c0)) (x := (some (gG (scr S a0 qb4 c0) 32 3))) X w h.v2 wF_X2_15 (h.f35) dX2_addStation_10 ?_
        refine lv_iload hx hb dX2_addStation_13 (lv_at hl 4 rfl) ?_
        refine aLdI (S := (scr S a0 qb4 c0)) (t := 32) (v := (qb4 mn)) X w h.a3.1 (by decide) rfl rfl (by rw [h.a3.2]; exact nI_vp hmn (by decide)) (by rw [mA_scr3, nI_clamp (by omega)]) dX2_addStation_15 ?_
        refine lv_iconst (v := (-1)) hx hb dX2_addStation_16 (by decide) ?_
        refine lv_icmp_eq (tgt := 33) hx hb dX2_addStation_17 (by decide) (fun h17 => ?_) (fun h17 => ?_)
        · have hc5 : Chr qb4 (Rq (bQ A ns nj nm a) K S9 (tB eM) n (fun w' _ => mn ≤ w')) := Chr_iff hc4 (fun w v => Rq_skip (fun z => by
            obtain ⟨-, v9, hv9⟩ := z
            rcases hc4 mn hmn with y | ⟨u, hu, eu, -⟩
            · exact y.2 v9 (Or.inl hv9)
            · exact nI_neg1 (by omega) (eu.symm.trans h17)))
          refine lv_iconst (v := 0) hx hb dX2_addStation_33 (by decide) ?_
          refine lv_istore (lv' := [(5, .int 0), (0, .ref (gG S 2 0)), (1, .int (nI n)), (2, .int (nI K)), (3, .int (nI eM)), (4, .int (nI mn))]) hx hb dX2_addStation_34 hl (by decide) rfl (fun ls hl => ?_)
          refine lv_iconst (v := 0) hx hb dX2_addStation_36 (by decide) ?_
          refine lv_istore (lv' := [(6, .int 0), (5, .int 0), (0, .ref (gG S 2 0)), (1, .int (nI n)), (2, .int (nI K)), (3, .int (nI eM)), (4, .int (nI mn))]) hx hb dX2_addStation_37 hl (by decide) rfl (fun ls hl => ?_)
          refine lv_iload hx hb dX2_addStation_39 (lv_at hl 1 rfl) ?_
          refine lv_if_eq (tgt := 140) hx hb dX2_addStation_41 (by decide) (fun hc2 => ?_) (fun hc2 => ?_)
          · refine lv_iinc (v := (nI mn + (-1))) (lv' := [(4, .int (nI mn + (-1))), (6, .int 0), (5, .int 0), (0, .ref (gG S 2 0)), (1, .int (nI n)), (2, .int (nI K)), (3, .int (nI eM))]) hx hb dX2_addStation_140 hl (k := 6) rfl (rfl) (by decide) rfl (fun ls hl => ?_)
            refine lv_goto (tgt := 4) hx hb dX2_addStation_143 (by decide) ?_
            exact ih4 mn qb4 _ _ _ (by omega) (by omega) (hc5) w (lv_sub hl [3, 4, 5, 6, 0] rfl)
          · exact absurd hc2 (by decide)
        · have hex : ∃ v9, Rp (bQ A ns nj nm a) K S9 (tB eM) n mn v9 := by
            obtain ⟨u, -, -, hu, -⟩ := (hc4 mn hmn).resolve_left (fun y => h17 y.1)
            exact ⟨u, Rq_self (m0 := 0) (Rq_in.mp hu)⟩
          refine lv_iload hx hb dX2_addStation_20 (lv_at hl 4 rfl) ?_
          refine cS (S := (scr S a0 qb4 c0)) (nA := 1) (As := [.int (nI mn)]) (rest := []) X w hl (e_bitCount G (scr S a0 qb4 c0) mn hmn) wY_J6_bitCount_0f7a4 wM_X2_95 wSt_J6_bitCount_0f7a4 wI_J6 (by decide +kernel) rfl rfl dX2_addStation_22 ⟨by decide, by decide⟩ (Nat.le_of_ble_eq_true rfl) (⟨Nat.le_of_ble_eq_true rfl, Nat.le_of_ble_eq_true rfl⟩) (fun v3 S1 H locs hp w => ?_)
          obtain ⟨rfl, rfl⟩ := hp
          refine lv_iload_n hx hb dX2_addStation_25 rfl (lv_at hl 2 rfl) ?_
          refine lv_icmp_ge (tgt := 33) hx hb dX2_addStation_26 (by decide) (fun h26 => ?_) (fun h26 => ?_)
          · have hc5 : Chr qb4 (Rq (bQ A ns nj nm a) K S9 (tB eM) n (fun w' _ => mn ≤ w')) := Chr_iff hc4 (fun w v => Rq_skip (fun z => by
              have y := (nI_leI (a := K) (b := bc mn) (by omega) (by have := bc_5 mn hmn; omega)).mp h26
              omega))
            refine lv_iconst (v := 0) hx hb dX2_addStation_33 (by decide) ?_
            refine lv_istore (lv' := [(5, .int 0), (0, .ref (gG S 2 0)), (1, .int (nI n)), (2, .int (nI K)), (3, .int (nI eM)), (4, .int (nI mn))]) hx hb dX2_addStation_34 hl (by decide) rfl (fun ls hl => ?_)
            refine lv_iconst (v := 0) hx hb dX2_addStation_36 (by decide) ?_
            refine lv_istore (lv' := [(6, .int 0), (5, .int 0), (0, .ref (gG S 2 0)), (1, .int (nI n)), (2, .int (nI K)), (3, .int (nI eM)), (4, .int (nI mn))]) hx hb dX2_addStation_37 hl (by decide) rfl (fun ls hl => ?_)
            refine lv_iload hx hb dX2_addStation_39 (lv_at hl 1 rfl) ?_
            refine lv_if_eq (tgt := 140) hx hb dX2_addStation_41 (by decide) (fun hc4 => ?_) (fun hc4 => ?_)
            · refine lv_iinc (v := (nI mn + (-1))) (lv' := [(4, .int (nI mn + (-1))), (6, .int 0), (5, .int 0), (0, .ref (gG S 2 0)), (1, .int (nI n)), (2, .int (nI K)), (3, .int (nI eM))]) hx hb dX2_addStation_140 hl (k := 6) rfl (rfl) (by decide) rfl (fun ls hl => ?_)
              refine lv_goto (tgt := 4) hx hb dX2_addStation_143 (by decide) ?_
              exact ih4 mn qb4 _ _ _ (by omega) (by omega) (hc5) w (lv_sub hl [3, 4, 5, 6, 0] rfl)
            · exact absurd hc4 (by decide)
          · have hbK : bc mn < K := Nat.lt_of_not_le (fun z => h26 ((nI_leI (a := K) (b := bc mn) (by omega) (by have := bc_5 mn hmn; omega)).mpr z))
            refine lv_iconst (v := 1) hx hb dX2_addStation_29 (by decide) ?_
            refine lv_goto (tgt := 34) hx hb dX2_addStation_30 (by decide) ?_
            refine lv_istore (lv' := [(5, .int 1), (0, .ref (gG S 2 0)), (1, .int (nI n)), (2, .int (nI K)), (3, .int (nI eM)), (4, .int (nI mn))]) hx hb dX2_addStation_34 hl (by decide) rfl (fun ls hl => ?_)
            refine lv_iconst (v := 0) hx hb dX2_addStation_36 (by decide) ?_
            refine lv_istore (lv' := [(6, .int 0), (5, .int 1), (0, .ref (gG S 2 0)), (1, .int (nI n)), (2, .int (nI K)), (3, .int (nI eM)), (4, .int (nI mn))]) hx hb dX2_addStation_37 hl (by decide) rfl (fun ls hl => ?_)
            have L39 : ∀ (N : Nat) (k39 : Nat) (qb39 : Nat → Int32) (H : Heap) (locs : List Loc) (ls : Array Slot), 5 - k39 < N → (k39 ≤ 5) → (Chr qb39 (Rq (bQ A ns nj nm a) K S9 (tB eM) n (bP mn k39))) → Wd s0 D cy (scr S a0 qb39 c0) s.heap H locs → lv_has ls 10 [(0, .ref (gG S 2 0)), (1, .int (nI n)), (2, .int (nI K)), (3, .int (nI eM)), (4, .int (nI mn)), (5, .int 1), (6, .int (nI k39))] → W p l e rm_e_X2_addStation s m ([.ref (gG S 2 0), .int (nI n), .int (nI K), .int (nI eM)] : List Value).toArray below meth c H locs 0 0 (MQ below (GQ s0 D cy (fun v S' => none = v ∧ ∃ f, Chr f (Rp (bQ A ns nj nm a) K S9 (tB eM) (n + 1)) ∧ S' = scr S a0 f c0)) ([.ref (gG S 2 0), .int (nI n), .int (nI K), .int (nI eM)] : List Value).toArray s rm_e_X2_addStation.cells rm_e_X2_addStation.slots (A0 s0)) (F0 m 39 ls []) := by
              intro N
              induction N with
              | zero => intros; omega
              | succ N ih39 =>
                intro k39 qb39 H locs ls hmu hk_k39 hc39 w hl
                have h : CI ea (scr S a0 qb39 c0) ns nj nm nt nr nc := h0.scr _ _ _
                have hA : RK (scr S a0 qb39 c0) A ns nj nm nt nr nc := hA0.scr
                refine lv_iload hx hb dX2_addStation_39 (lv_at hl 5 rfl) ?_
                refine lv_if_eq (tgt := 140) hx hb dX2_addStation_41 (by decide) (fun hc5 => ?_) (fun hc5 => ?_)
                · exact absurd hc5 (by decide)
                · refine lv_iload hx hb dX2_addStation_44 (lv_at hl 6 rfl) ?_
                  refine lv_iconst (v := 5) hx hb dX2_addStation_46 (by decide) ?_
                  refine lv_icmp_ge (tgt := 140) hx hb dX2_addStation_47 (by decide) (fun hz_k39 => ?_) (fun hz_k39 => ?_)
                  · have hge_k39 : 5 ≤ k39 := (nI_leI (a := 5) (b := k39) (by decide) (by omega)).mp hz_k39
                    have hc5 : Chr qb39 (Rq (bQ A ns nj nm a) K S9 (tB eM) n (fun w' _ => mn ≤ w')) := by
                      rw [show k39 = 5 by omega] at hc39
                      exact Chr_iff hc39 (fun w v => Rq_out)
                    refine lv_iinc (v := (nI mn + (-1))) (lv' := [(4, .int (nI mn + (-1))), (0, .ref (gG S 2 0)), (1, .int (nI n)), (2, .int (nI K)), (3, .int (nI eM)), (5, .int 1), (6, .int (nI k39))]) hx hb dX2_addStation_140 hl (k := 4) rfl (rfl) (by decide) rfl (fun ls hl => ?_)
                    refine lv_goto (tgt := 4) hx hb dX2_addStation_143 (by decide) ?_
                    exact ih4 mn qb39 _ _ _ (by omega) (by omega) (hc5) w (lv_sub hl [1, 2, 3, 4, 0] rfl)
                  · have hlt_k39 : k39 < 5 := Nat.lt_of_not_le (fun z => hz_k39 ((nI_leI (a := 5) (b := k39) (by decide) (by omega)).mpr z))
                    refine lv_iload hx hb dX2_addStation_50 (lv_at hl 4 rfl) ?_
                    refine lv_iconst (v := 1) hx hb dX2_addStation_52 (by decide) ?_
                    refine lv_iload hx hb dX2_addStation_53 (lv_at hl 6 rfl) ?_
                    refine lv_ishl hx hb dX2_addStation_55 ?_
                    refine lv_ior hx hb dX2_addStation_56 ?_
                    refine lv_topi (fun z6 ez6 => ?_)
                    obtain rfl : z6 = nI (mn ||| 2 ^ k39) := ez6.trans ((or32 mn hmn k39 hlt_k39).1)
                    refine lv_istore (lv' := [(7, .int (nI (mn ||| 2 ^ k39))), (0, .ref (gG S 2 0)), (1, .int (nI n)), (2, .int (nI K)), (3, .int (nI eM)), (4, .int (nI mn)), (5, .int 1), (6, .int (nI k39))]) hx hb dX2_addStation_57 hl (by decide) rfl (fun ls hl => ?_)
                    refine lv_aload_n hx hb dX2_addStation_59 rfl (lv_at hl 1 rfl) ?_
                    refine lv_iload_n hx hb dX2_addStation_60 rfl (lv_at hl 2 rfl) ?_
                    refine lv_iconst (v := 5) hx hb dX2_addStation_61 (by decide) ?_
                    refine lv_imul hx hb dX2_addStation_62 ?_
                    refine lv_iload hx hb dX2_addStation_63 (lv_at hl 7 rfl) ?_
                    refine lv_iadd hx hb dX2_addStation_65 ?_
                    refine lv_topi (fun z7 ez7 => ?_)
                    obtain rfl : z7 = nI (n * 5 + k39) := ez7.trans (by rw [show (5 : Int32) = nI 5 from rfl, pk_mul, nI_add])
                    refine cV (S := (scr S a0 qb39 c0)) (nA := 1) (As := [.int (nI (n * 5 + k39))]) (rest := []) X w hl h.v2 (e_X2_qualityOfPair G S ea ns nj nm nt nr nc h0 A hA0 (n * 5 + k39) (by omega) a0 qb39 c0) wY_X2_qualityOfPair wM_X2_100 wIn_X2_qualityOfPair wSe_X2_X2_qualityOfPair wI_X2 (by decide) rfl (by decide +kernel) rfl rfl dX2_addStation_66 ⟨by decide, by decide⟩ (Nat.le_of_ble_eq_true rfl) (⟨Nat.le_of_ble_eq_true rfl, Nat.le_of_ble_eq_true rfl⟩) (fun v8 S1 H locs hp w => ?_)
                    obtain ⟨rfl, rfl⟩ := hp
                    refine lv_topi (fun z9 ez9 => ?_)
                    obtain rfl : z9 = nI (bQ A ns nj nm a n k39) := ez9.trans (by rw [hqa (n * 5 + k39) (by omega), (dm5 hlt_k39).1, (dm5 hlt_k39).2])
                    refine lv_istore (lv' := [(8, .int (nI (bQ A ns nj nm a n k39))), (7, .int (nI (mn ||| 2 ^ k39))), (0, .ref (gG S 2 0)), (1, .int (nI n)), (2, .int (nI K)), (3, .int (nI eM)), (4, .int (nI mn)), (5, .int 1), (6, .int (nI k39))]) hx hb dX2_addStation_69 hl (by decide) rfl (fun ls hl => ?_)
                    refine lv_iload hx hb dX2_addStation_71 (lv_at hl 6 rfl) ?_
                    refine lv_iload_n hx hb dX2_addStation_73 rfl (lv_at hl 5 rfl) ?_
                    refine lv_ior hx hb dX2_addStation_74 ?_
                    refine lv_iload hx hb dX2_addStation_75 (lv_at hl 8 rfl) ?_
                    refine cSN (S := (scr S a0 qb39 c0)) (nA := 2) (As := [.int ((nI mn) ||| (nI eM)), .int (nI k39)]) (rest := []) X w hl (m_X10_isIn G (scr S a0 qb39 c0) ((nI mn) ||| (nI eM)) (nI k39)) wY_X10_isIn wMN_X2_65 wSt_X10_isIn wI_X10 (by decide +kernel) rfl rfl dX2_addStation_77 ⟨by decide, by decide⟩ (Nat.le_of_ble_eq_true rfl) (⟨Nat.le_of_ble_eq_true rfl, Nat.le_of_ble_eq_true rfl⟩) (fun v10 S1 H locs hp w => ?_)
                    obtain ⟨rfl, rfl⟩ := hp
                    refine lv_topi (fun z11 ez11 => ?_)
                    obtain rfl : z11 = (b2i (mn.testBit k39 || tB eM k39)) := ez11.trans (by rw [in_2b hmn hM hlt_k39])
                    refine lv_if_ne (tgt := 87) hx hb dX2_addStation_80 (by decide) (fun h80 => ?_) (fun h80 => ?_)
                    · have hcn : Chr qb39 (Rq (bQ A ns nj nm a) K S9 (tB eM) n (bP mn (k39 + 1))) := Chr_iff hc39 (fun w v => Rq_no (fun z => by have y := b2i_t h80; rw [z.1, z.2.2.1] at y; exact absurd y (by decide)))
                      refine lv_iconst (v := 0) hx hb dX2_addStation_87 (by decide) ?_
                      refine lv_istore (lv' := [(9, .int 0), (8, .int (nI (bQ A ns nj nm a n k39))), (7, .int (nI (mn ||| 2 ^ k39))), (0, .ref (gG S 2 0)), (1, .int (nI n)), (2, .int (nI K)), (3, .int (nI eM)), (4, .int (nI mn)), (5, .int 1), (6, .int (nI k39))]) hx hb dX2_addStation_88 hl (by decide) rfl (fun ls hl => ?_)
                      refine lv_iload hx hb dX2_addStation_90 (lv_at hl 0 rfl) ?_
                      refine lv_if_eq (tgt := 134) hx hb dX2_addStation_92 (by decide) (fun hc12 => ?_) (fun hc12 => ?_)
                      · refine lv_iinc (v := nI (k39 + 1)) (lv' := [(6, .int (nI (k39 + 1))), (9, .int 0), (8, .int (nI (bQ A ns nj nm a n k39))), (7, .int (nI (mn ||| 2 ^ k39))), (0, .ref (gG S 2 0)), (1, .int (nI n)), (2, .int (nI K)), (3, .int (nI eM)), (4, .int (nI mn)), (5, .int 1)]) hx hb dX2_addStation_134 hl (k := 9) rfl (nI_1 _) (by decide) rfl (fun ls hl => ?_)
                        refine lv_goto (tgt := 39) hx hb dX2_addStation_137 (by decide) ?_
                        exact ih39 (k39 + 1) qb39 _ _ _ (by omega) (by omega) (hcn) w (lv_sub hl [4, 5, 6, 7, 8, 9, 0] rfl)
                      · exact absurd hc12 (by decide)
                    · have h8x := b2i_f h80
                      rw [Bool.or_eq_false_iff] at h8x
                      obtain ⟨hfm, hfM⟩ := h8x
                      refine lv_iconst (v := 1) hx hb dX2_addStation_83 (by decide) ?_
                      refine lv_goto (tgt := 88) hx hb dX2_addStation_84 (by decide) ?_
                      refine lv_istore (lv' := [(9, .int 1), (8, .int (nI (bQ A ns nj nm a n k39))), (7, .int (nI (mn ||| 2 ^ k39))), (0, .ref (gG S 2 0)), (1, .int (nI n)), (2, .int (nI K)), (3, .int (nI eM)), (4, .int (nI mn)), (5, .int 1), (6, .int (nI k39))]) hx hb dX2_addStation_88 hl (by decide) rfl (fun ls hl => ?_)
                      refine lv_iload hx hb dX2_addStation_90 (lv_at hl 0 rfl) ?_
                      refine lv_if_eq (tgt := 134) hx hb dX2_addStation_92 (by decide) (fun hc13 => ?_) (fun hc13 => ?_)
                      · exact absurd hc13 (by decide)
                      · refine lv_iload hx hb dX2_addStation_95 (lv_at hl 1 rfl) ?_
                        refine lv_if_le (tgt := 134) hx hb dX2_addStation_97 (by decide) (fun h97 => ?_) (fun h97 => ?_)
                        · have hcn : Chr qb39 (Rq (bQ A ns nj nm a) K S9 (tB eM) n (bP mn (k39 + 1))) := Chr_iff hc39 (fun w v => Rq_no (fun z => absurd z.2.1 (by have y := (nI_leI (a := bQ A ns nj nm a n k39) (b := 0) (by have := bQ_18 (A := A) (ns := ns) (nj := nj) (nm := nm) (a := a) (s := n) (m := k39); omega) (by decide)).mp h97; omega)))
                          refine lv_iinc (v := nI (k39 + 1)) (lv' := [(6, .int (nI (k39 + 1))), (9, .int 1), (8, .int (nI (bQ A ns nj nm a n k39))), (7, .int (nI (mn ||| 2 ^ k39))), (0, .ref (gG S 2 0)), (1, .int (nI n)), (2, .int (nI K)), (3, .int (nI eM)), (4, .int (nI mn)), (5, .int 1)]) hx hb dX2_addStation_134 hl (k := 9) rfl (nI_1 _) (by decide) rfl (fun ls hl => ?_)
                          refine lv_goto (tgt := 39) hx hb dX2_addStation_137 (by decide) ?_
                          exact ih39 (k39 + 1) qb39 _ _ _ (by omega) (by omega) (hcn) w (lv_sub hl [4, 5, 6, 7, 8, 9, 0] rfl)
                        · have hq0 : 0 < bQ A ns nj nm a n k39 := by
                            refine Nat.lt_of_not_le (fun z => h97 ((nI_leI (a := bQ A ns nj nm a n k39) (b := 0) (by have := bQ_18 (A := A) (ns := ns) (nj := nj) (nm := nm) (a := a) (s := n) (m := k39); omega) (by decide)).mpr z))
                          refine lv_iload hx hb dX2_addStation_100 (lv_at hl 2 rfl) ?_
                          refine lv_bipush (v := 32) hx hb dX2_addStation_102 (by decide) ?_
                          refine lv_icmp_ge (tgt := 134) hx hb dX2_addStation_104 (by decide) (fun h104 => ?_) (fun h104 => ?_)
                          · exact absurd ((nI_leI (a := 32) (b := mn ||| 2 ^ k39) (by decide) (by have := (or32 mn hmn k39 hlt_k39).2; omega)).mp h104) (by have := (or32 mn hmn k39 hlt_k39).2; omega)
                          · refine lv_aload_n hx hb dX2_addStation_107 rfl (lv_at hl 3 rfl) ?_
                            refine g_2_3 (S := (scr S a0 qb39 c0)) (x := (some (gG (scr S a0 qb39 c0) 32 3))) X w h.v2 wF_X2_15 (h.f35) dX2_addStation_108 ?_
                            refine lv_iload hx hb dX2_addStation_111 (lv_at hl 2 rfl) ?_
                            refine lv_aload_n hx hb dX2_addStation_113 rfl (lv_at hl 3 rfl) ?_
                            refine g_2_3 (S := (scr S a0 qb39 c0)) (x := (some (gG (scr S a0 qb39 c0) 32 3))) X w h.v2 wF_X2_15 (h.f35) dX2_addStation_114 ?_
                            refine lv_iload hx hb dX2_addStation_117 (lv_at hl 2 rfl) ?_
                            refine aLdI (S := (scr S a0 qb39 c0)) (t := 32) (v := (qb39 (mn ||| 2 ^ k39))) X w h.a3.1 (by decide) rfl rfl (by rw [h.a3.2]; exact nI_vp (or32 mn hmn k39 hlt_k39).2 (by decide)) (by rw [mA_scr3, nI_clamp (by have := (or32 mn hmn k39 hlt_k39).2; omega)]) dX2_addStation_119 ?_
                            refine lv_aload_n hx hb dX2_addStation_120 rfl (lv_at hl 3 rfl) ?_
                            refine g_2_3 (S := (scr S a0 qb39 c0)) (x := (some (gG (scr S a0 qb39 c0) 32 3))) X w h.v2 wF_X2_15 (h.f35) dX2_addStation_121 ?_
                            refine lv_iload hx hb dX2_addStation_124 (lv_at hl 7 rfl) ?_
                            refine aLdI (S := (scr S a0 qb39 c0)) (t := 32) (v := (qb39 mn)) X w h.a3.1 (by decide) rfl rfl (by rw [h.a3.2]; exact nI_vp hmn (by decide)) (by rw [mA_scr3, nI_clamp (by omega)]) dX2_addStation_126 ?_
                            refine lv_iload hx hb dX2_addStation_127 (lv_at hl 1 rfl) ?_
                            refine lv_iadd hx hb dX2_addStation_129 ?_
                            refine va_mmax hx hb (X.2.2.1.trans hl.1.symm) hown (hts _ wM_X2_89) (hts _ wSt_J9_max_7cf53) (hts _ wI_J9) (hts _ wY_J9_max_7cf53) (by decide) (Nat.le_of_ble_eq_true rfl) (Nat.le_of_ble_eq_true rfl) (Nat.le_of_ble_eq_true rfl) dX2_addStation_130 ?_
                            refine aStI (S := (scr S a0 qb39 c0)) (t := 32) (i := 3) X w h.a3.1 (by decide) rfl rfl (by rw [h.a3.2]; exact nI_vp (or32 mn hmn k39 hlt_k39).2 (by decide)) dX2_addStation_133 (fun H locs w => ?_)
                            rw [scr_3] at w
                            obtain ⟨q14, hq14⟩ : ∃ f9 : Nat → Int32, f9 = (upd (mA (scr S a0 qb39 c0) 32 3) (nI (mn ||| 2 ^ k39)).toNatClampNeg (if (qb39 (mn ||| 2 ^ k39)) < ((qb39 mn) + (nI (bQ A ns nj nm a n k39))) then ((qb39 mn) + (nI (bQ A ns nj nm a n k39))) else (qb39 (mn ||| 2 ^ k39)))) := ⟨_, rfl⟩
                            rw [← hq14] at w
                            have hq14 : q14 = upd qb39 (mn ||| 2 ^ k39) (if (qb39 (mn ||| 2 ^ k39)) < ((qb39 mn) + (nI (bQ A ns nj nm a n k39))) then ((qb39 mn) + (nI (bQ A ns nj nm a n k39))) else (qb39 (mn ||| 2 ^ k39))) := by rw [hq14, mA_scr3, nI_clamp (by first | omega | exact Nat.lt_of_lt_of_le (or32 mn hmn k39 hlt_k39).2 (by decide))]
                            obtain ⟨v0, h90, ev0, hR0, hmx⟩ := (hc39 mn hmn).resolve_left (fun z => by obtain ⟨v9, hv9⟩ := hex; exact z.2 v9 (Or.inl hv9))
                            have hR1 := Rq_self hR0
                            have hv1 := Rp_v (Q := bQ A ns nj nm a) (fun s m => bQ_18) n hR1
                            have hq1 : bQ A ns nj nm a n k39 ≤ 18 := bQ_18
                            have hcn : Chr q14 (Rq (bQ A ns nj nm a) K S9 (tB eM) n (bP mn (k39 + 1))) := by
                              rw [hq14]
                              exact Chr_upd (T := fun _ v => Rp (bQ A ns nj nm a) K S9 (tB eM) n mn v) (v0 := v0) (q := bQ A ns nj nm a n k39) hc39 (or32 mn hmn k39 hlt_k39).2 hR1 (fun v9 z => hmx v9 (Or.inl z)) (by omega) (by rw [ev0]) (fun w v => Rq_yes hS9 hfM hq0 hfm hbK hlt_k39)
                            have h : CI ea (scr S a0 q14 c0) ns nj nm nt nr nc := h0.scr _ _ _
                            have hA : RK (scr S a0 q14 c0) A ns nj nm nt nr nc := hA0.scr
                            refine lv_iinc (v := nI (k39 + 1)) (lv' := [(6, .int (nI (k39 + 1))), (9, .int 1), (8, .int (nI (bQ A ns nj nm a n k39))), (7, .int (nI (mn ||| 2 ^ k39))), (0, .ref (gG S 2 0)), (1, .int (nI n)), (2, .int (nI K)), (3, .int (nI eM)), (4, .int (nI mn)), (5, .int 1)]) hx hb dX2_addStation_134 hl (k := 9) rfl (nI_1 _) (by decide) rfl (fun ls hl => ?_)
                            refine lv_goto (tgt := 39) hx hb dX2_addStation_137 (by decide) ?_
                            exact ih39 (k39 + 1) q14 _ _ _ (by omega) (by omega) (hcn) w (lv_sub hl [4, 5, 6, 7, 8, 9, 0] rfl)
            exact L39 _ 0 qb4 _ _ _ (Nat.lt_succ_self _) (by omega) (Chr_iff hc4 (fun w v => Rq_in)) w (lv_sub hl [2, 3, 4, 5, 6, 1, 0] rfl)
  exact L4 _ 32 b0 _ _ _ (Nat.lt_succ_self _) (Nat.le_refl _) (Chr_iff hch (fun w v => Rq_start)) w (lv_sub hl [1, 2, 3, 4, 0] rfl)

def GM (f : Nat → Int32) (k : Nat) (y : Int32) : Prop := ∃ g, g ≤ 90 ∧ y = nI g ∧ (∀ w, w < k → ∀ v, v ≤ 90 → f w = nI v → v ≤ g) ∧ (g = 0 ∨ ∃ w, w < k ∧ f w = nI g)
theorem GM.step {f : Nat → Int32} {k : Nat} {y : Int32} (h : GM f k y) (hc : f k = -1 ∨ ∃ v, v ≤ 90 ∧ f k = nI v) : GM f (k + 1) (if y < f k then f k else y) := by
  obtain ⟨g, h1, rfl, h3, h4⟩ := h
  rcases hc with e | ⟨u, hu, e⟩
  · rw [e, if_neg (fun z => Int32.lt_irrefl (Int32.lt_trans z (nI_m1lt (by omega))))]
    refine ⟨g, h1, rfl, fun w hw v hv ev => ?_, h4.imp id (fun ⟨w, a, b⟩ => ⟨w, by omega, b⟩)⟩
    by_cases c : w = k
    · rw [c, e] at ev; exact absurd ev.symm (nI_neg1 (by omega))
    · exact h3 w (by omega) v hv ev
  · rw [e]
    by_cases l : nI g < nI u
    · have l2 := (nI_ltI (by omega) (by omega)).mp l
      rw [if_pos l]
      refine ⟨u, hu, rfl, fun w hw v hv ev => ?_, Or.inr ⟨k, Nat.lt_succ_self k, e⟩⟩
      by_cases c : w = k
      · rw [c, e] at ev; exact Nat.le_of_eq ((nI_eq (by omega) (by omega)).mp ev).symm
      · have := h3 w (by omega) v hv ev; omega
    · have l2 : u ≤ g := Nat.le_of_not_lt (fun z => l ((nI_ltI (by omega) (by omega)).mpr z))
      rw [if_neg l]
      refine ⟨g, h1, rfl, fun w hw v hv ev => ?_, h4.imp id (fun ⟨w, a, b⟩ => ⟨w, by omega, b⟩)⟩
      by_cases c : w = k
      · rw [c, e] at ev
        have := (nI_eq (by omega) (by omega)).mp ev; omega
      · exact h3 w (by omega) v hv ev
theorem GM_end {Q : Nat → Nat → Nat} {K n : Nat} {S M : Nat → Bool} {f : Nat → Int32} {y : Int32} (h : GM f 32 y) (hc : Chr f (Rp Q K S M n)) (hn : n ≤ 8) (hz : ∀ s m, n ≤ s → Q s m = 0) : nI (bG Q K S M) = y := by
  obtain ⟨g, h1, rfl, h3, h4⟩ := h
  obtain ⟨u, w, hw, ew, hb⟩ := Chr_max hc hn hz
  have a := h3 w hw _ hb ew
  have b : g ≤ bG Q K S M := by
    rcases h4 with z | ⟨w2, a2, b2⟩
    · omega
    · exact u w2 a2 g b2 h1
  rw [show bG Q K S M = g by omega]

abbrev rm_e_X2_greatestOf : Room := { frames := 3, cells := 0, slots := 0, locals := 72 }
set_option maxHeartbeats 4000000 in
set_option maxRecDepth 100000 in
theorem e_X2_greatestOf {s0 : State} {l : Launch} {D : va_G} {cy : Nat → ClassId} (G : Gl s0 l D cy) (S : HS) (ea ns nj nm nt nr nc : Nat) (h : CI ea S ns nj nm nt nr nc) (A : HS) (hA : RK S A ns nj nm nt nr nc) (K eS eM : Nat) (hK : K ≤ 3) (hS : eS < 256) (hM : eM < 32) (a : Int32) (a0 b0 c0 : Nat → Int32) (hqa : QAr A ns nj nm a a0) : Ctr s0 l D cy yX2_greatestOf cX2_greatestOf 6 (some .int) rm_e_X2_greatestOf (scr S a0 b0 c0) [.ref (gG S 2 0), .int (nI K), .int (nI eS), .int (nI eM)] (fun v S' => some (.int (nI (bG (bQ A ns nj nm a) K (tB eS) (tB eM)))) = v ∧ ∃ f, S' = scr S a0 f c0) := by
  refine pro "CavershamShift$Matching" G rfl rfl (Nat.le_of_ble_eq_true rfl) (fun p e s m below meth c ls X w hnm hl => ?_)
  have hx := X.1
  have hb := X.2.1
  have hown := X.2.2.2.1
  have hts := X.2.2.2.2.1
  have hl : lv_has ls 6 [(0, .ref (gG S 2 0)), (1, .int (nI K)), (2, .int (nI eS)), (3, .int (nI eM))] := hl
  have h0 := h
  have hA0 := hA
  have h : CI ea (scr S a0 b0 c0) ns nj nm nt nr nc := h0.scr _ _ _
  have hA : RK (scr S a0 b0 c0) A ns nj nm nt nr nc := hA0.scr
  refine lv_aload_n hx hb dX2_greatestOf_0 rfl (lv_at hl 0 rfl) ?_
  refine g_2_3 (S := (scr S a0 b0 c0)) (x := (some (gG (scr S a0 b0 c0) 32 3))) X w h.v2 wF_X2_15 (h.f35) dX2_greatestOf_1 ?_
  refine lv_iconst (v := (-1)) hx hb dX2_greatestOf_4 (by decide) ?_
  refine cS (S := (scr S a0 b0 c0)) (nA := 2) (As := [.ref (gG (scr S a0 b0 c0) 32 3), .int (-1)]) (rest := []) X w hl (m_J7_fill_53178 G (scr S a0 b0 c0) 3 32 (-1) h.a3.1 h.a3.2 (by decide)) wY_J7_fill_53178 wM_X2_69 wSt_J7_fill_53178 wI_J7 (by decide +kernel) rfl rfl dX2_greatestOf_5 ⟨by decide, by decide⟩ (Nat.le_of_ble_eq_true rfl) (⟨Nat.le_of_ble_eq_true rfl, Nat.le_of_ble_eq_true rfl⟩) (fun v2 S1 H locs hp w => ?_)
  obtain ⟨rfl, f1, hff1, rfl⟩ := hp
  rw [scr_3] at w
  have h : CI ea (scr S a0 f1 c0) ns nj nm nt nr nc := h0.scr _ _ _
  have hA : RK (scr S a0 f1 c0) A ns nj nm nt nr nc := hA0.scr
  refine lv_aload_n hx hb dX2_greatestOf_8 rfl (lv_at hl 0 rfl) ?_
  refine g_2_3 (S := (scr S a0 f1 c0)) (x := (some (gG (scr S a0 f1 c0) 32 3))) X w h.v2 wF_X2_15 (h.f35) dX2_greatestOf_9 ?_
  refine lv_iconst (v := 0) hx hb dX2_greatestOf_12 (by decide) ?_
  refine lv_iconst (v := 0) hx hb dX2_greatestOf_13 (by decide) ?_
  refine aStI (S := (scr S a0 f1 c0)) (t := 32) (i := 3) X w h.a3.1 (by decide) rfl rfl (by rw [h.a3.2]; exact nI_vp (by decide) (by decide)) dX2_greatestOf_14 (fun H locs w => ?_)
  rw [scr_3] at w
  obtain ⟨q3, hq3⟩ : ∃ f9 : Nat → Int32, f9 = (upd (mA (scr S a0 f1 c0) 32 3) ((0 : Int32)).toNatClampNeg 0) := ⟨_, rfl⟩
  rw [← hq3] at w
  have hq3 : q3 = upd f1 0 0 := by rw [hq3, mA_scr3, show (0 : Int32).toNatClampNeg = 0 by decide]
  have hc18 : Chr q3 (Rp (bQ A ns nj nm a) K (tB eS) (tB eM) 0) := Chr_0 (fun w hw => by
    rw [hq3]
    by_cases d : w = 0
    · rw [d, upd_s, if_pos rfl]
    · rw [upd_o d, if_neg d]; exact hff1 w hw)
  have h : CI ea (scr S a0 q3 c0) ns nj nm nt nr nc := h0.scr _ _ _
  have hA : RK (scr S a0 q3 c0) A ns nj nm nt nr nc := hA0.scr
  refine lv_iconst (v := 0) hx hb dX2_greatestOf_15 (by decide) ?_
  refine lv_istore (lv' := [(4, .int 0), (0, .ref (gG S 2 0)), (1, .int (nI K)), (2, .int (nI eS)), (3, .int (nI eM))]) hx hb dX2_greatestOf_16 hl (by decide) rfl (fun ls hl => ?_)
  have L18 : ∀ (N : Nat) (k18 : Nat) (qb18 : Nat → Int32) (H : Heap) (locs : List Loc) (ls : Array Slot), ns - k18 < N → (k18 ≤ ns) → (Chr qb18 (Rp (bQ A ns nj nm a) K (tB eS) (tB eM) k18)) → Wd s0 D cy (scr S a0 qb18 c0) s.heap H locs → lv_has ls 6 [(0, .ref (gG S 2 0)), (1, .int (nI K)), (2, .int (nI eS)), (3, .int (nI eM)), (4, .int (nI k18))] → W p l e rm_e_X2_greatestOf s m ([.ref (gG S 2 0), .int (nI K), .int (nI eS), .int (nI eM)] : List Value).toArray below meth c H locs 0 0 (MQ below (GQ s0 D cy (fun v S' => some (.int (nI (bG (bQ A ns nj nm a) K (tB eS) (tB eM)))) = v ∧ ∃ f, S' = scr S a0 f c0)) ([.ref (gG S 2 0), .int (nI K), .int (nI eS), .int (nI eM)] : List Value).toArray s rm_e_X2_greatestOf.cells rm_e_X2_greatestOf.slots (A0 s0)) (F0 m 18 ls []) := by
    intro N
    induction N with
    | zero => intros; omega
    | succ N ih18 =>
      intro k18 qb18 H locs ls hmu hk hc18 w hl
      have h : CI ea (scr S a0 qb18 c0) ns nj nm nt nr nc := h0.scr _ _ _
      have hA : RK (scr S a0 qb18 c0) A ns nj nm nt nr nc := hA0.scr
      refine lv_iload hx hb dX2_greatestOf_18 (lv_at hl 4 rfl) ?_
      refine lv_aload_n hx hb dX2_greatestOf_20 rfl (lv_at hl 0 rfl) ?_
      refine g_2_0 (S := (scr S a0 qb18 c0)) (x := (some (gG (scr S a0 qb18 c0) 0 0))) X w h.v2 wF_X2_21 (h.f32) dX2_greatestOf_21 ?_
      refine g_0_0 (S := (scr S a0 qb18 c0)) (x := (some (gG (scr S a0 qb18 c0) 17 0))) X w h.v0 wF_X2_75 (h.f0) dX2_greatestOf_24 ?_
      refine cV (S := (scr S a0 qb18 c0)) (nA := 0) (As := []) (rest := [.int (nI k18)]) X w hl h.l_st.1 (m_size G (scr S a0 qb18 c0) ea 0 ns h.l_st) wY_Jx4a65c_size_8abf5 wM_X2_79 wIn_Jx4a65c_size_8abf5 wSe_Jx4a65c_Jx4a65c_size_8abf5 wI_Jx4a65c (by decide) rfl (by decide +kernel) rfl rfl dX2_greatestOf_27 ⟨by decide, by decide⟩ (Nat.le_of_ble_eq_true rfl) (⟨Nat.le_of_ble_eq_true rfl, Nat.le_of_ble_eq_true rfl⟩) (fun v4 S1 H locs hp w => ?_)
      obtain ⟨rfl, rfl⟩ := hp
      refine lv_icmp_ge (tgt := 56) hx hb dX2_greatestOf_30 (by decide) (fun hsz => ?_) (fun hsz => ?_)
      · have hge : ns ≤ k18 := by
          have hb1 := h.b_st
          exact (nI_leI (by omega) (by omega)).mp hsz
        have hc20 : Chr qb18 (Rp (bQ A ns nj nm a) K (tB eS) (tB eM) ns) := by
          rw [show k18 = ns by omega] at hc18
          exact hc18
        refine lv_iconst (v := 0) hx hb dX2_greatestOf_56 (by decide) ?_
        refine lv_istore (lv' := [(4, .int 0), (0, .ref (gG S 2 0)), (1, .int (nI K)), (2, .int (nI eS)), (3, .int (nI eM))]) hx hb dX2_greatestOf_57 hl (by decide) rfl (fun ls hl => ?_)
        refine lv_iconst (v := 0) hx hb dX2_greatestOf_59 (by decide) ?_
        refine lv_istore (lv' := [(5, .int 0), (4, .int 0), (0, .ref (gG S 2 0)), (1, .int (nI K)), (2, .int (nI eS)), (3, .int (nI eM))]) hx hb dX2_greatestOf_60 hl (by decide) rfl (fun ls hl => ?_)
        have L62 : ∀ (N : Nat) (k62 : Nat) (y : Int32) (H : Heap) (locs : List Loc) (ls : Array Slot), 32 - k62 < N → (k62 ≤ 32) → (GM qb18 k62 y) → Wd s0 D cy (scr S a0 qb18 c0) s.heap H locs → lv_has ls 6 [(0, .ref (gG S 2 0)), (1, .int (nI K)), (2, .int (nI eS)), (3, .int (nI eM)), (4, .int y), (5, .int (nI k62))] → W p l e rm_e_X2_greatestOf s m ([.ref (gG S 2 0), .int (nI K), .int (nI eS), .int (nI eM)] : List Value).toArray below meth c H locs 0 0 (MQ below (GQ s0 D cy (fun v S' => some (.int (nI (bG (bQ A ns nj nm a) K (tB eS) (tB eM)))) = v ∧ ∃ f, S' = scr S a0 f c0)) ([.ref (gG S 2 0), .int (nI K), .int (nI eS), .int (nI eM)] : List Value).toArray s rm_e_X2_greatestOf.cells rm_e_X2_greatestOf.slots (A0 s0)) (F0 m 62 ls []) := by
          intro N
          induction N with
          | zero => intros; omega
          | succ N ih62 =>
            intro k62 y H locs ls hmu hk_k62 hg w hl
            refine lv_iload hx hb dX2_greatestOf_62 (lv_at hl 5 rfl) ?_
            refine lv_bipush (v := 32) hx hb dX2_greatestOf_64 (by decide) ?_
            refine lv_icmp_ge (tgt := 89) hx hb dX2_greatestOf_66 (by decide) (fun hz_k62 => ?_) (fun hz_k62 => ?_)
            · have hge_k62 : 32 ≤ k62 := (nI_leI (a := 32) (b := k62) (by decide) (by omega)).mp hz_k62
              refine lv_iload hx hb dX2_greatestOf_89 (lv_at hl 4 rfl) ?_
              exact rI X w rfl dX2_greatestOf_91 (by decide) (by decide) (⟨congrArg (fun x => some (Value.int x)) (GM_end (by rw [show k62 = 32 by omega] at hg; exact hg) hc20 h.b_st (fun s m hs => bQ_ns hs)), _, rfl⟩)
            · have hlt_k62 : k62 < 32 := Nat.lt_of_not_le (fun z => hz_k62 ((nI_leI (a := 32) (b := k62) (by decide) (by omega)).mpr z))
              refine lv_iload hx hb dX2_greatestOf_69 (lv_at hl 4 rfl) ?_
              refine lv_aload_n hx hb dX2_greatestOf_71 rfl (lv_at hl 0 rfl) ?_
              refine g_2_3 (S := (scr S a0 qb18 c0)) (x := (some (gG (scr S a0 qb18 c0) 32 3))) X w h.v2 wF_X2_15 (h.f35) dX2_greatestOf_72 ?_
              refine lv_iload hx hb dX2_greatestOf_75 (lv_at hl 5 rfl) ?_
              refine aLdI (S := (scr S a0 qb18 c0)) (t := 32) (v := (qb18 k62)) X w h.a3.1 (by decide) rfl rfl (by rw [h.a3.2]; exact nI_vp hlt_k62 (by decide)) (by rw [mA_scr3, nI_clamp (by omega)]) dX2_greatestOf_77 ?_
              refine va_mmax hx hb (X.2.2.1.trans hl.1.symm) hown (hts _ wM_X2_89) (hts _ wSt_J9_max_7cf53) (hts _ wI_J9) (hts _ wY_J9_max_7cf53) (by decide) (Nat.le_of_ble_eq_true rfl) (Nat.le_of_ble_eq_true rfl) (Nat.le_of_ble_eq_true rfl) dX2_greatestOf_78 ?_
              refine lv_istore (lv' := [(4, .int (if y < (qb18 k62) then (qb18 k62) else y)), (0, .ref (gG S 2 0)), (1, .int (nI K)), (2, .int (nI eS)), (3, .int (nI eM)), (5, .int (nI k62))]) hx hb dX2_greatestOf_81 hl (by decide) rfl (fun ls hl => ?_)
              refine lv_iinc (v := nI (k62 + 1)) (lv' := [(5, .int (nI (k62 + 1))), (4, .int (if y < (qb18 k62) then (qb18 k62) else y)), (0, .ref (gG S 2 0)), (1, .int (nI K)), (2, .int (nI eS)), (3, .int (nI eM))]) hx hb dX2_greatestOf_83 hl (k := 5) rfl (nI_1 _) (by decide) rfl (fun ls hl => ?_)
              refine lv_goto (tgt := 62) hx hb dX2_greatestOf_86 (by decide) ?_
              exact ih62 (k62 + 1) (if y < (qb18 k62) then (qb18 k62) else y) _ _ _ (by omega) (by omega) (hg.step ((hc20 k62 hlt_k62).imp (fun z => z.1) (fun ⟨v, a, b, _⟩ => ⟨v, a, b⟩))) w (lv_sub hl [2, 3, 4, 5, 1, 0] rfl)
        exact L62 _ 0 0 _ _ _ (Nat.lt_succ_self _) (by omega) (⟨0, by decide, rfl, fun w hw => absurd hw (Nat.not_lt_zero w), Or.inl rfl⟩) w (lv_sub hl [2, 3, 4, 5, 1, 0] rfl)
      · have hlt : k18 < ns := by
          have hb1 := h.b_st
          exact Nat.lt_of_not_le (fun z => hsz ((nI_leI (by omega) (by omega)).mpr z))
        refine lv_iload_n hx hb dX2_greatestOf_33 rfl (lv_at hl 2 rfl) ?_
        refine lv_iload hx hb dX2_greatestOf_34 (lv_at hl 4 rfl) ?_
        refine cSN (S := (scr S a0 qb18 c0)) (nA := 2) (As := [.int (nI eS), .int (nI k18)]) (rest := []) X w hl (m_X10_isIn G (scr S a0 qb18 c0) (nI eS) (nI k18)) wY_X10_isIn wMN_X2_65 wSt_X10_isIn wI_X10 (by decide +kernel) rfl rfl dX2_greatestOf_36 ⟨by decide, by decide⟩ (Nat.le_of_ble_eq_true rfl) (⟨Nat.le_of_ble_eq_true rfl, Nat.le_of_ble_eq_true rfl⟩) (fun v5 S1 H locs hp w => ?_)
        obtain ⟨rfl, rfl⟩ := hp
        refine lv_topi (fun z6 ez6 => ?_)
        obtain rfl : z6 = (b2i (tB eS k18)) := ez6.trans (by rw [sIn_tb eS hS k18 (by have := h.b_st; omega)]; rfl)
        refine lv_if_ne (tgt := 50) hx hb dX2_greatestOf_39 (by decide) (fun h39 => ?_) (fun h39 => ?_)
        · have hc19 : Chr qb18 (Rp (bQ A ns nj nm a) K (tB eS) (tB eM) (k18 + 1)) := Chr_iff hc18 (fun w v => Rp_tk (b2i_t h39))
          refine lv_iinc (v := nI (k18 + 1)) (lv' := [(4, .int (nI (k18 + 1))), (0, .ref (gG S 2 0)), (1, .int (nI K)), (2, .int (nI eS)), (3, .int (nI eM))]) hx hb dX2_greatestOf_50 hl (k := 4) rfl (nI_1 _) (by decide) rfl (fun ls hl => ?_)
          refine lv_goto (tgt := 18) hx hb dX2_greatestOf_53 (by decide) ?_
          exact ih18 (k18 + 1) qb18 _ _ _ (by omega) (by omega) (hc19) w (lv_sub hl [1, 2, 3, 4, 0] rfl)
        · refine lv_aload_n hx hb dX2_greatestOf_42 rfl (lv_at hl 0 rfl) ?_
          refine lv_iload hx hb dX2_greatestOf_43 (lv_at hl 4 rfl) ?_
          refine lv_iload_n hx hb dX2_greatestOf_45 rfl (lv_at hl 1 rfl) ?_
          refine lv_iload_n hx hb dX2_greatestOf_46 rfl (lv_at hl 3 rfl) ?_
          refine cV (S := (scr S a0 qb18 c0)) (nA := 3) (As := [.int (nI k18), .int (nI K), .int (nI eM)]) (rest := []) X w hl h.v2 (e_X2_addStation G S ea ns nj nm nt nr nc h0 A hA0 k18 K eM (by have := h.b_st; omega) hK hM (tB eS) (b2i_f h39) a a0 qb18 c0 hqa hc18) wY_X2_addStation wM_X2_85 wIn_X2_addStation wSe_X2_X2_addStation wI_X2 (by decide) rfl (by decide +kernel) rfl rfl dX2_greatestOf_47 ⟨by decide, by decide⟩ (Nat.le_of_ble_eq_true rfl) (⟨Nat.le_of_ble_eq_true rfl, Nat.le_of_ble_eq_true rfl⟩) (fun v8 S1 H locs hp w => ?_)
          obtain ⟨rfl, q7, hc19, rfl⟩ := hp
          have h : CI ea (scr S a0 q7 c0) ns nj nm nt nr nc := h0.scr _ _ _
          have hA : RK (scr S a0 q7 c0) A ns nj nm nt nr nc := hA0.scr
          refine lv_iinc (v := nI (k18 + 1)) (lv' := [(4, .int (nI (k18 + 1))), (0, .ref (gG S 2 0)), (1, .int (nI K)), (2, .int (nI eS)), (3, .int (nI eM))]) hx hb dX2_greatestOf_50 hl (k := 4) rfl (nI_1 _) (by decide) rfl (fun ls hl => ?_)
          refine lv_goto (tgt := 18) hx hb dX2_greatestOf_53 (by decide) ?_
          exact ih18 (k18 + 1) q7 _ _ _ (by omega) (by omega) (hc19) w (lv_sub hl [1, 2, 3, 4, 0] rfl)
  exact L18 _ 0 q3 _ _ _ (Nat.lt_succ_self _) (by omega) (hc18) w (lv_sub hl [1, 2, 3, 4, 0] rfl)

