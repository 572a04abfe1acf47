theorem bT_f1 {Q : Nat → Nat → Nat} {k rest q : Nat} {S M : Nat → Bool} (h : S (q / 5) = true) : bT Q k S M rest q = false := by
  unfold bT
  rw [h]; rfl
theorem bT_f2 {Q : Nat → Nat → Nat} {k rest q : Nat} {S M : Nat → Bool} (h : M (q % 5) = true) : bT Q k S M rest q = false := by
  unfold bT
  rw [h, Bool.not_true, Bool.false_and, Bool.and_false]
theorem bT_f3 {Q : Nat → Nat → Nat} {k rest q : Nat} {S M : Nat → Bool} (h : ¬ 0 < Q (q / 5) (q % 5)) : bT Q k S M rest q = false := by
  unfold bT
  rw [decide_eq_false h, Bool.false_and, Bool.and_false, Bool.and_false]
theorem bT_f4 {Q : Nat → Nat → Nat} {k rest q : Nat} {S M : Nat → Bool} (h : ¬ Q (q / 5) (q % 5) + bG Q k (tk S (q / 5)) (tk M (q % 5)) = rest) : bT Q k S M rest q = false := by
  unfold bT
  rw [decide_eq_false h, Bool.and_false, Bool.and_false, Bool.and_false]
theorem bT_t {Q : Nat → Nat → Nat} {k rest q : Nat} {S M : Nat → Bool} (h1 : S (q / 5) = false) (h2 : M (q % 5) = false) (h3 : 0 < Q (q / 5) (q % 5)) (h4 : Q (q / 5) (q % 5) + bG Q k (tk S (q / 5)) (tk M (q % 5)) = rest) : bT Q k S M rest q = true := bT_iff.mpr ⟨⟨h1, h2, h3⟩, h4⟩
theorem no_s {p : Nat → Bool} {k : Nat} (h : ∀ j, j < k → p j = false) (e : p k = false) : ∀ j, j < k + 1 → p j = false := fun j hj => by
  by_cases c : j = k
  · rw [c]; exact e
  · exact h j (by omega)
abbrev rm_e_X2_smallestPair : Room := { frames := 4, cells := 0, slots := 0, locals := 97 }
set_option maxHeartbeats 4000000 in
set_option maxRecDepth 100000 in
theorem e_X2_smallestPair {s0 : State} {l : Launch} {D : va_G} {cy : Nat → ClassId} (G : Gl s0 l D cy) (S : HS) (ea ns nj nm nt nr nc : Nat) (h : CI ea S ns nj nm nt nr nc) (A : HS) (hA : RK S A ns nj nm nt nr nc) (k rest eS eM : Nat) (hk2 : k ≤ 2) (hr : rest ≤ 90) (hS : eS < 256) (hM : eM < 32) (a : Int32) (a0 b0 c0 : Nat → Int32) (hqa : QAr A ns nj nm a a0) : Ctr s0 l D cy yX2_smallestPair cX2_smallestPair 10 (some .int) rm_e_X2_smallestPair (scr S a0 b0 c0) [.ref (gG S 2 0), .int (nI k), .int (nI rest), .int (nI eS), .int (nI eM)] (fun v S' => some (.int (rC (bFst (bT (bQ A ns nj nm a) k (tB eS) (tB eM) rest) 40 40))) = v ∧ ∃ f, S' = scr S a0 f c0) := by
  refine pro "CavershamShift$Matching" G rfl rfl (Nat.le_of_ble_eq_true rfl) (fun p e s m below meth c ls X w hnm hl => ?_)
  have hx := X.1
  have hb := X.2.1
  have hown := X.2.2.2.1
  have hts := X.2.2.2.2.1
  have hl : lv_has ls 10 [(0, .ref (gG S 2 0)), (1, .int (nI k)), (2, .int (nI rest)), (3, .int (nI eS)), (4, .int (nI eM))] := hl
  have h0 := h
  have hA0 := hA
  have h : CI ea (scr S a0 b0 c0) ns nj nm nt nr nc := h0.scr _ _ _
  have hA : RK (scr S a0 b0 c0) A ns nj nm nt nr nc := hA0.scr
  refine lv_iconst (v := 0) hx hb dX2_smallestPair_0 (by decide) ?_
  refine lv_istore (lv' := [(5, .int 0), (0, .ref (gG S 2 0)), (1, .int (nI k)), (2, .int (nI rest)), (3, .int (nI eS)), (4, .int (nI eM))]) hx hb dX2_smallestPair_1 hl (by decide) rfl (fun ls hl => ?_)
  have L3 : ∀ (N : Nat) (k3 : Nat) (qb3 : Nat → Int32) (H : Heap) (locs : List Loc) (ls : Array Slot), 40 - k3 < N → (k3 ≤ 40) → (∀ j, j < k3 → bT (bQ A ns nj nm a) k (tB eS) (tB eM) rest j = false) → Wd s0 D cy (scr S a0 qb3 c0) s.heap H locs → lv_has ls 10 [(0, .ref (gG S 2 0)), (1, .int (nI k)), (2, .int (nI rest)), (3, .int (nI eS)), (4, .int (nI eM)), (5, .int (nI k3))] → W p l e rm_e_X2_smallestPair s m ([.ref (gG S 2 0), .int (nI k), .int (nI rest), .int (nI eS), .int (nI eM)] : List Value).toArray below meth c H locs 0 0 (MQ below (GQ s0 D cy (fun v S' => some (.int (rC (bFst (bT (bQ A ns nj nm a) k (tB eS) (tB eM) rest) 40 40))) = v ∧ ∃ f, S' = scr S a0 f c0)) ([.ref (gG S 2 0), .int (nI k), .int (nI rest), .int (nI eS), .int (nI eM)] : List Value).toArray s rm_e_X2_smallestPair.cells rm_e_X2_smallestPair.slots (A0 s0)) (F0 m 3 ls []) := by
    intro N
    induction N with
    | zero => intros; omega
    | succ N ih3 =>
      intro k3 qb3 H locs ls hmu hk_k3 hno w hl
      have h : CI ea (scr S a0 qb3 c0) ns nj nm nt nr nc := h0.scr _ _ _
      have hA : RK (scr S a0 qb3 c0) A ns nj nm nt nr nc := hA0.scr
      refine lv_iload hx hb dX2_smallestPair_3 (lv_at hl 5 rfl) ?_
      refine lv_bipush (v := 40) hx hb dX2_smallestPair_5 (by decide) ?_
      refine lv_icmp_ge (tgt := 106) hx hb dX2_smallestPair_7 (by decide) (fun hz_k3 => ?_) (fun hz_k3 => ?_)
      · have hge_k3 : 40 ≤ k3 := (nI_leI (a := 40) (b := k3) (by decide) (by omega)).mp hz_k3
        refine lv_iconst (v := (-1)) hx hb dX2_smallestPair_106 (by decide) ?_
        exact rI X w rfl dX2_smallestPair_107 (by decide) (by decide) (⟨by rw [bFst_no 40 40 (by rw [show k3 = 40 by omega] at hno; exact hno)]; rfl, _, rfl⟩)
      · have hlt_k3 : k3 < 40 := Nat.lt_of_not_le (fun z => hz_k3 ((nI_leI (a := 40) (b := k3) (by decide) (by omega)).mpr z))
        refine lv_iload hx hb dX2_smallestPair_10 (lv_at hl 5 rfl) ?_
        refine lv_iconst (v := 5) hx hb dX2_smallestPair_12 (by decide) ?_
        refine lv_idiv hx hb dX2_smallestPair_13 (by decide) ?_
        refine lv_topi (fun z1 ez1 => ?_)
        obtain rfl : z1 = nI (k3 / 5) := ez1.trans (pk_d5 hlt_k3)
        refine lv_istore (lv' := [(6, .int (nI (k3 / 5))), (0, .ref (gG S 2 0)), (1, .int (nI k)), (2, .int (nI rest)), (3, .int (nI eS)), (4, .int (nI eM)), (5, .int (nI k3))]) hx hb dX2_smallestPair_14 hl (by decide) rfl (fun ls hl => ?_)
        refine lv_iload hx hb dX2_smallestPair_16 (lv_at hl 6 rfl) ?_
        refine lv_iconst (v := 5) hx hb dX2_smallestPair_18 (by decide) ?_
        refine lv_irem hx hb dX2_smallestPair_19 (by decide) ?_
        refine lv_topi (fun z2 ez2 => ?_)
        obtain rfl : z2 = nI (k3 % 5) := ez2.trans (pk_r5 hlt_k3)
        refine lv_istore (lv' := [(7, .int (nI (k3 % 5))), (6, .int (nI (k3 / 5))), (0, .ref (gG S 2 0)), (1, .int (nI k)), (2, .int (nI rest)), (3, .int (nI eS)), (4, .int (nI eM)), (5, .int (nI k3))]) hx hb dX2_smallestPair_20 hl (by decide) rfl (fun ls hl => ?_)
        refine lv_iload_n hx hb dX2_smallestPair_22 rfl (lv_at hl 5 rfl) ?_
        refine lv_iload hx hb dX2_smallestPair_23 (lv_at hl 1 rfl) ?_
        refine cSN (S := (scr S a0 qb3 c0)) (nA := 2) (As := [.int (nI eS), .int (nI (k3 / 5))]) (rest := []) X w hl (m_X10_isIn G (scr S a0 qb3 c0) (nI eS) (nI (k3 / 5))) wY_X10_isIn wMN_X2_65 wSt_X10_isIn wI_X10 (by decide +kernel) rfl rfl dX2_smallestPair_25 ⟨by decide, by decide⟩ (Nat.le_of_ble_eq_true rfl) (⟨Nat.le_of_ble_eq_true rfl, Nat.le_of_ble_eq_true rfl⟩) (fun v3 S1 H locs hp w => ?_)
        obtain ⟨rfl, rfl⟩ := hp
        refine lv_topi (fun z4 ez4 => ?_)
        obtain rfl : z4 = (b2i (tB eS (k3 / 5))) := ez4.trans (by rw [sIn_tb eS hS (k3 / 5) (by omega)]; rfl)
        refine lv_if_ne (tgt := 45) hx hb dX2_smallestPair_28 (by decide) (fun h28 => ?_) (fun h28 => ?_)
        · have hno2 : ∀ j, j < k3 + 1 → bT (bQ A ns nj nm a) k (tB eS) (tB eM) rest j = false := no_s hno (bT_f1 (b2i_t h28))
          refine lv_iconst (v := 0) hx hb dX2_smallestPair_45 (by decide) ?_
          refine lv_istore (lv' := [(8, .int 0), (7, .int (nI (k3 % 5))), (6, .int (nI (k3 / 5))), (0, .ref (gG S 2 0)), (1, .int (nI k)), (2, .int (nI rest)), (3, .int (nI eS)), (4, .int (nI eM)), (5, .int (nI k3))]) hx hb dX2_smallestPair_46 hl (by decide) rfl (fun ls hl => ?_)
          refine lv_iload hx hb dX2_smallestPair_48 (lv_at hl 0 rfl) ?_
          refine lv_if_eq (tgt := 100) hx hb dX2_smallestPair_50 (by decide) (fun hc5 => ?_) (fun hc5 => ?_)
          · refine lv_iinc (v := nI (k3 + 1)) (lv' := [(5, .int (nI (k3 + 1))), (8, .int 0), (7, .int (nI (k3 % 5))), (6, .int (nI (k3 / 5))), (0, .ref (gG S 2 0)), (1, .int (nI k)), (2, .int (nI rest)), (3, .int (nI eS)), (4, .int (nI eM))]) hx hb dX2_smallestPair_100 hl (k := 8) rfl (nI_1 _) (by decide) rfl (fun ls hl => ?_)
            refine lv_goto (tgt := 3) hx hb dX2_smallestPair_103 (by decide) ?_
            exact ih3 (k3 + 1) qb3 _ _ _ (by omega) (by omega) (hno2) w (lv_sub hl [4, 5, 6, 7, 8, 0] rfl)
          · exact absurd hc5 (by decide)
        · refine lv_iload hx hb dX2_smallestPair_31 (lv_at hl 6 rfl) ?_
          refine lv_iload hx hb dX2_smallestPair_33 (lv_at hl 0 rfl) ?_
          refine cSN (S := (scr S a0 qb3 c0)) (nA := 2) (As := [.int (nI eM), .int (nI (k3 % 5))]) (rest := []) X w hl (m_X10_isIn G (scr S a0 qb3 c0) (nI eM) (nI (k3 % 5))) wY_X10_isIn wMN_X2_65 wSt_X10_isIn wI_X10 (by decide +kernel) rfl rfl dX2_smallestPair_35 ⟨by decide, by decide⟩ (Nat.le_of_ble_eq_true rfl) (⟨Nat.le_of_ble_eq_true rfl, Nat.le_of_ble_eq_true rfl⟩) (fun v6 S1 H locs hp w => ?_)
          obtain ⟨rfl, rfl⟩ := hp
          refine lv_topi (fun z7 ez7 => ?_)
          obtain rfl : z7 = (b2i (tB eM (k3 % 5))) := ez7.trans (by rw [sIn_tb eM (by omega) (k3 % 5) (by omega)]; rfl)
          refine lv_if_ne (tgt := 45) hx hb dX2_smallestPair_38 (by decide) (fun h38 => ?_) (fun h38 => ?_)
          · have hno2 : ∀ j, j < k3 + 1 → bT (bQ A ns nj nm a) k (tB eS) (tB eM) rest j = false := no_s hno (bT_f2 (b2i_t h38))
            refine lv_iconst (v := 0) hx hb dX2_smallestPair_45 (by decide) ?_
            refine lv_istore (lv' := [(8, .int 0), (7, .int (nI (k3 % 5))), (6, .int (nI (k3 / 5))), (0, .ref (gG S 2 0)), (1, .int (nI k)), (2, .int (nI rest)), (3, .int (nI eS)), (4, .int (nI eM)), (5, .int (nI k3))]) hx hb dX2_smallestPair_46 hl (by decide) rfl (fun ls hl => ?_)
            refine lv_iload hx hb dX2_smallestPair_48 (lv_at hl 0 rfl) ?_
            refine lv_if_eq (tgt := 100) hx hb dX2_smallestPair_50 (by decide) (fun hc8 => ?_) (fun hc8 => ?_)
            · refine lv_iinc (v := nI (k3 + 1)) (lv' := [(5, .int (nI (k3 + 1))), (8, .int 0), (7, .int (nI (k3 % 5))), (6, .int (nI (k3 / 5))), (0, .ref (gG S 2 0)), (1, .int (nI k)), (2, .int (nI rest)), (3, .int (nI eS)), (4, .int (nI eM))]) hx hb dX2_smallestPair_100 hl (k := 8) rfl (nI_1 _) (by decide) rfl (fun ls hl => ?_)
              refine lv_goto (tgt := 3) hx hb dX2_smallestPair_103 (by decide) ?_
              exact ih3 (k3 + 1) qb3 _ _ _ (by omega) (by omega) (hno2) w (lv_sub hl [4, 5, 6, 7, 8, 0] rfl)
            · exact absurd hc8 (by decide)
          · refine lv_iconst (v := 1) hx hb dX2_smallestPair_41 (by decide) ?_
            refine lv_goto (tgt := 46) hx hb dX2_smallestPair_42 (by decide) ?_
            refine lv_istore (lv' := [(8, .int 1), (7, .int (nI (k3 % 5))), (6, .int (nI (k3 / 5))), (0, .ref (gG S 2 0)), (1, .int (nI k)), (2, .int (nI rest)), (3, .int (nI eS)), (4, .int (nI eM)), (5, .int (nI k3))]) hx hb dX2_smallestPair_46 hl (by decide) rfl (fun ls hl => ?_)
            refine lv_iload hx hb dX2_smallestPair_48 (lv_at hl 0 rfl) ?_
            refine lv_if_eq (tgt := 100) hx hb dX2_smallestPair_50 (by decide) (fun hc9 => ?_) (fun hc9 => ?_)
            · exact absurd hc9 (by decide)
            · refine lv_aload_n hx hb dX2_smallestPair_53 rfl (lv_at hl 3 rfl) ?_
              refine g_2_2 (S := (scr S a0 qb3 c0)) (x := (some (gG (scr S a0 qb3 c0) 32 2))) X w h.v2 wF_X2_11 (h.f34) dX2_smallestPair_54 ?_
              refine lv_iload hx hb dX2_smallestPair_57 (lv_at hl 8 rfl) ?_
              refine aLdI (S := (scr S a0 qb3 c0)) (t := 32) (v := (nI (bQ A ns nj nm a (k3 / 5) (k3 % 5)))) X w h.a2.1 (by decide) rfl rfl (by rw [h.a2.2]; exact nI_vp hlt_k3 (by decide)) (by rw [mA_scr2, nI_clamp (by omega)]; exact hqa k3 hlt_k3) dX2_smallestPair_59 ?_
              refine lv_if_le (tgt := 100) hx hb dX2_smallestPair_60 (by decide) (fun h60 => ?_) (fun h60 => ?_)
              · have hno2 : ∀ j, j < k3 + 1 → bT (bQ A ns nj nm a) k (tB eS) (tB eM) rest j = false := no_s hno (bT_f3 (fun z => absurd ((nI_leI (a := bQ A ns nj nm a (k3 / 5) (k3 % 5)) (b := 0) (by have := bQ_18 (A := A) (ns := ns) (nj := nj) (nm := nm) (a := a) (s := k3 / 5) (m := k3 % 5); omega) (by decide)).mp h60) (by omega)))
                refine lv_iinc (v := nI (k3 + 1)) (lv' := [(5, .int (nI (k3 + 1))), (8, .int 1), (7, .int (nI (k3 % 5))), (6, .int (nI (k3 / 5))), (0, .ref (gG S 2 0)), (1, .int (nI k)), (2, .int (nI rest)), (3, .int (nI eS)), (4, .int (nI eM))]) hx hb dX2_smallestPair_100 hl (k := 8) rfl (nI_1 _) (by decide) rfl (fun ls hl => ?_)
                refine lv_goto (tgt := 3) hx hb dX2_smallestPair_103 (by decide) ?_
                exact ih3 (k3 + 1) qb3 _ _ _ (by omega) (by omega) (hno2) w (lv_sub hl [4, 5, 6, 7, 8, 0] rfl)
              · have hq0 : 0 < bQ A ns nj nm a (k3 / 5) (k3 % 5) := Nat.lt_of_not_le (fun z => h60 ((nI_leI (a := bQ A ns nj nm a (k3 / 5) (k3 % 5)) (b := 0) (by have := bQ_18 (A := A) (ns := ns) (nj := nj) (nm := nm) (a := a) (s := k3 / 5) (m := k3 % 5); omega) (by decide)).mpr z))
                refine lv_aload_n hx hb dX2_smallestPair_63 rfl (lv_at hl 3 rfl) ?_
                refine lv_iload_n hx hb dX2_smallestPair_64 rfl (lv_at hl 4 rfl) ?_
                refine lv_iload_n hx hb dX2_smallestPair_65 rfl (lv_at hl 6 rfl) ?_
                refine lv_iconst (v := 1) hx hb dX2_smallestPair_66 (by decide) ?_
                refine lv_iload hx hb dX2_smallestPair_67 (lv_at hl 2 rfl) ?_
                refine lv_ishl hx hb dX2_smallestPair_69 ?_
                refine lv_ior hx hb dX2_smallestPair_70 ?_
                refine lv_topi (fun z10 ez10 => ?_)
                obtain rfl : z10 = nI (eS ||| 2 ^ (k3 / 5)) := ez10.trans ((or_256 hS (by omega)).1)
                refine lv_iload hx hb dX2_smallestPair_71 (lv_at hl 7 rfl) ?_
                refine lv_iconst (v := 1) hx hb dX2_smallestPair_73 (by decide) ?_
                refine lv_iload hx hb dX2_smallestPair_74 (lv_at hl 1 rfl) ?_
                refine lv_ishl hx hb dX2_smallestPair_76 ?_
                refine lv_ior hx hb dX2_smallestPair_77 ?_
                refine lv_topi (fun z11 ez11 => ?_)
                obtain rfl : z11 = nI (eM ||| 2 ^ (k3 % 5)) := ez11.trans ((or32 eM hM (k3 % 5) (by omega)).1)
                refine cV (S := (scr S a0 qb3 c0)) (nA := 3) (As := [.int (nI k), .int (nI (eS ||| 2 ^ (k3 / 5))), .int (nI (eM ||| 2 ^ (k3 % 5)))]) (rest := []) X w hl h.v2 (e_X2_greatestOf G S ea ns nj nm nt nr nc h0 A hA0 k (eS ||| 2 ^ (k3 / 5)) (eM ||| 2 ^ (k3 % 5)) (by omega) (or_256 hS (by omega)).2 (or32 eM hM (k3 % 5) (by omega)).2 a a0 qb3 c0 hqa) wY_X2_greatestOf wM_X2_33 wIn_X2_greatestOf wSe_X2_X2_greatestOf wI_X2 (by decide) rfl (by decide +kernel) rfl rfl dX2_smallestPair_78 ⟨by decide, by decide⟩ (Nat.le_of_ble_eq_true rfl) (⟨Nat.le_of_ble_eq_true rfl, Nat.le_of_ble_eq_true rfl⟩) (fun v13 S1 H locs hp w => ?_)
                obtain ⟨rfl, q12, rfl⟩ := hp
                have hg18 := bG_18 (Q := bQ A ns nj nm a) (fun s m => bQ_18) k (tk (tB eS) (k3 / 5)) (tk (tB eM) (k3 % 5))
                have h : CI ea (scr S a0 q12 c0) ns nj nm nt nr nc := h0.scr _ _ _
                have hA : RK (scr S a0 q12 c0) A ns nj nm nt nr nc := hA0.scr
                refine lv_topi (fun z14 ez14 => ?_)
                obtain rfl : z14 = (nI (bG (bQ A ns nj nm a) k (tk (tB eS) (k3 / 5)) (tk (tB eM) (k3 % 5)))) := ez14.trans (by rw [tk_or, tk_or])
                refine lv_istore (lv' := [(9, .int (nI (bG (bQ A ns nj nm a) k (tk (tB eS) (k3 / 5)) (tk (tB eM) (k3 % 5))))), (8, .int 1), (7, .int (nI (k3 % 5))), (6, .int (nI (k3 / 5))), (0, .ref (gG S 2 0)), (1, .int (nI k)), (2, .int (nI rest)), (3, .int (nI eS)), (4, .int (nI eM)), (5, .int (nI k3))]) hx hb dX2_smallestPair_81 hl (by decide) rfl (fun ls hl => ?_)
                refine lv_aload_n hx hb dX2_smallestPair_83 rfl (lv_at hl 4 rfl) ?_
                refine g_2_2 (S := (scr S a0 q12 c0)) (x := (some (gG (scr S a0 q12 c0) 32 2))) X w h.v2 wF_X2_11 (h.f34) dX2_smallestPair_84 ?_
                refine lv_iload hx hb dX2_smallestPair_87 (lv_at hl 9 rfl) ?_
                refine aLdI (S := (scr S a0 q12 c0)) (t := 32) (v := (nI (bQ A ns nj nm a (k3 / 5) (k3 % 5)))) X w h.a2.1 (by decide) rfl rfl (by rw [h.a2.2]; exact nI_vp hlt_k3 (by decide)) (by rw [mA_scr2, nI_clamp (by omega)]; exact hqa k3 hlt_k3) dX2_smallestPair_89 ?_
                refine lv_iload hx hb dX2_smallestPair_90 (lv_at hl 0 rfl) ?_
                refine lv_iadd hx hb dX2_smallestPair_92 ?_
                refine lv_topi (fun z15 ez15 => ?_)
                obtain rfl : z15 = nI (bQ A ns nj nm a (k3 / 5) (k3 % 5) + bG (bQ A ns nj nm a) k (tk (tB eS) (k3 / 5)) (tk (tB eM) (k3 % 5))) := ez15.trans (nI_add _ _)
                refine lv_iload_n hx hb dX2_smallestPair_93 rfl (lv_at hl 6 rfl) ?_
                refine lv_icmp_ne (tgt := 100) hx hb dX2_smallestPair_94 (by decide) (fun h94 => ?_) (fun h94 => ?_)
                · have hno2 : ∀ j, j < k3 + 1 → bT (bQ A ns nj nm a) k (tB eS) (tB eM) rest j = false := no_s hno (bT_f4 (fun z => h94 (by rw [z])))
                  refine lv_iinc (v := nI (k3 + 1)) (lv' := [(5, .int (nI (k3 + 1))), (9, .int (nI (bG (bQ A ns nj nm a) k (tk (tB eS) (k3 / 5)) (tk (tB eM) (k3 % 5))))), (8, .int 1), (7, .int (nI (k3 % 5))), (6, .int (nI (k3 / 5))), (0, .ref (gG S 2 0)), (1, .int (nI k)), (2, .int (nI rest)), (3, .int (nI eS)), (4, .int (nI eM))]) hx hb dX2_smallestPair_100 hl (k := 9) rfl (nI_1 _) (by decide) rfl (fun ls hl => ?_)
                  refine lv_goto (tgt := 3) hx hb dX2_smallestPair_103 (by decide) ?_
                  exact ih3 (k3 + 1) q12 _ _ _ (by omega) (by omega) (hno2) w (lv_sub hl [5, 6, 7, 8, 9, 0] rfl)
                · have h95 := (nI_eq (a := bQ A ns nj nm a (k3 / 5) (k3 % 5) + bG (bQ A ns nj nm a) k (tk (tB eS) (k3 / 5)) (tk (tB eM) (k3 % 5))) (b := rest) (by have := bQ_18 (A := A) (ns := ns) (nj := nj) (nm := nm) (a := a) (s := k3 / 5) (m := k3 % 5); omega) (by omega)).mp h94
                  refine lv_iload hx hb dX2_smallestPair_97 (lv_at hl 9 rfl) ?_
                  exact rI X w rfl dX2_smallestPair_99 (by decide) (by decide) (⟨by rw [bFst_is hlt_k3 (bT_t (b2i_f h28) (b2i_f h38) hq0 h95) hno]; exact congrArg (fun x => some (Value.int x)) (if_pos hlt_k3), _, rfl⟩)
  exact L3 _ 0 b0 _ _ _ (Nat.lt_succ_self _) (by omega) (fun j hj => absurd hj (Nat.not_lt_zero j)) w (lv_sub hl [1, 2, 3, 4, 5, 0] rfl)

theorem rC_out {c : Nat} (h : sOut (rC c) 0 39 = true) : ¬ c < 40 := fun z => by
  rw [show rC c = nI c from if_pos z] at h
  rw [show sOut (nI c) 0 39 = false from so_jn (n := 40) z (by decide)] at h; exact absurd h (by decide)
theorem rC_in {c : Nat} (h : sOut (rC c) 0 39 = false) : c < 40 := by
  by_cases z : c < 40
  · exact z
  · rw [show rC c = -1 from if_neg z] at h; exact absurd h (by decide)

abbrev rm_e_X2_choose : Room := { frames := 6, cells := 0, slots := 0, locals := 138 }
set_option maxHeartbeats 4000000 in
set_option maxRecDepth 100000 in
theorem e_X2_choose {s0 : State} {l : Launch} {D : va_G} {cy : Nat → ClassId} (G : Gl s0 l D cy) (S : HS) (ea ns nj nm nt nr nc : Nat) (h : CI ea S ns nj nm nt nr nc) (A : HS) (hA : RK S A ns nj nm nt nr nc) (a : Int32) (a0 b0 c0 : Nat → Int32) : Ctr s0 l D cy yX2_choose cX2_choose 7 none rm_e_X2_choose (scr S a0 b0 c0) [.ref (gG S 2 0), .int a] (fun v S' => none = v ∧ ∃ f g h9, QAr A ns nj nm a f ∧ (∀ j, j < 3 → h9 j = rC (bCk (bQ A ns nj nm a) j)) ∧ S' = scr S f g h9) := by
  refine pro "CavershamShift$Matching" G rfl rfl (Nat.le_of_ble_eq_true rfl) (fun p e s m below meth c ls X w hnm hl => ?_)
  have hx := X.1
  have hb := X.2.1
  have hown := X.2.2.2.1
  have hts := X.2.2.2.2.1
  have hl : lv_has ls 7 [(0, .ref (gG S 2 0)), (1, .int a)] := hl
  have h0 := h
  have hA0 := hA
  have h : CI ea (scr S a0 b0 c0) ns nj nm nt nr nc := h0.scr _ _ _
  have hA : RK (scr S a0 b0 c0) A ns nj nm nt nr nc := hA0.scr
  refine lv_aload_n hx hb dX2_choose_0 rfl (lv_at hl 0 rfl) ?_
  refine lv_iload_n hx hb dX2_choose_1 rfl (lv_at hl 1 rfl) ?_
  refine cV (S := (scr S a0 b0 c0)) (nA := 1) (As := [.int a]) (rest := []) X w hl h.v2 (e_X2_readQualities G S ea ns nj nm nt nr nc h0 A hA0 a a0 b0 c0) wY_X2_readQualities wM_X2_29 wIn_X2_readQualities wSe_X2_X2_readQualities wI_X2 (by decide) rfl (by decide +kernel) rfl rfl dX2_choose_2 ⟨by decide, by decide⟩ (Nat.le_of_ble_eq_true rfl) (⟨Nat.le_of_ble_eq_true rfl, Nat.le_of_ble_eq_true rfl⟩) (fun v2 S1 H locs hp w => ?_)
  obtain ⟨rfl, q1, hqa, rfl⟩ := hp
  have h : CI ea (scr S q1 b0 c0) ns nj nm nt nr nc := h0.scr _ _ _
  have hA : RK (scr S q1 b0 c0) A ns nj nm nt nr nc := hA0.scr
  refine lv_aload_n hx hb dX2_choose_5 rfl (lv_at hl 0 rfl) ?_
  refine lv_iconst (v := 3) hx hb dX2_choose_6 (by decide) ?_
  refine lv_iconst (v := 0) hx hb dX2_choose_7 (by decide) ?_
  refine lv_iconst (v := 0) hx hb dX2_choose_8 (by decide) ?_
  refine cV (S := (scr S q1 b0 c0)) (nA := 3) (As := [.int 3, .int 0, .int 0]) (rest := []) X w hl h.v2 (e_X2_greatestOf G S ea ns nj nm nt nr nc h0 A hA0 3 0 0 (by decide) (by decide) (by decide) a q1 b0 c0 hqa) wY_X2_greatestOf wM_X2_33 wIn_X2_greatestOf wSe_X2_X2_greatestOf wI_X2 (by decide) rfl (by decide +kernel) rfl rfl dX2_choose_9 ⟨by decide, by decide⟩ (Nat.le_of_ble_eq_true rfl) (⟨Nat.le_of_ble_eq_true rfl, Nat.le_of_ble_eq_true rfl⟩) (fun v4 S1 H locs hp w => ?_)
  obtain ⟨rfl, q3, rfl⟩ := hp
  have h : CI ea (scr S q1 q3 c0) ns nj nm nt nr nc := h0.scr _ _ _
  have hA : RK (scr S q1 q3 c0) A ns nj nm nt nr nc := hA0.scr
  refine lv_topi (fun z5 ez5 => ?_)
  obtain rfl : z5 = nI (bG (bQ A ns nj nm a) 3 nF nF) := ez5.trans (by rw [tB_0])
  refine lv_istore_n (lv' := [(2, .int (nI (bG (bQ A ns nj nm a) 3 nF nF))), (0, .ref (gG S 2 0)), (1, .int a)]) hx hb dX2_choose_12 rfl hl (by decide) rfl (fun ls hl => ?_)
  refine lv_iconst (v := 0) hx hb dX2_choose_13 (by decide) ?_
  refine lv_istore_n (lv' := [(3, .int 0), (2, .int (nI (bG (bQ A ns nj nm a) 3 nF nF))), (0, .ref (gG S 2 0)), (1, .int a)]) hx hb dX2_choose_14 rfl hl (by decide) rfl (fun ls hl => ?_)
  refine lv_iconst (v := 0) hx hb dX2_choose_15 (by decide) ?_
  refine lv_istore (lv' := [(4, .int 0), (3, .int 0), (2, .int (nI (bG (bQ A ns nj nm a) 3 nF nF))), (0, .ref (gG S 2 0)), (1, .int a)]) hx hb dX2_choose_16 hl (by decide) rfl (fun ls hl => ?_)
  refine lv_iconst (v := 0) hx hb dX2_choose_18 (by decide) ?_
  refine lv_istore (lv' := [(5, .int 0), (4, .int 0), (3, .int 0), (2, .int (nI (bG (bQ A ns nj nm a) 3 nF nF))), (0, .ref (gG S 2 0)), (1, .int a)]) hx hb dX2_choose_19 hl (by decide) rfl (fun ls hl => ?_)
  have L21 : ∀ (N : Nat) (k21 : Nat) (qa21 : Nat → Int32) (qb21 : Nat → Int32) (qc21 : Nat → Int32) (rest : Nat) (eS : Nat) (eM : Nat) (H : Heap) (locs : List Loc) (ls : Array Slot), 3 - k21 < N → (k21 ≤ 3) → (QAr A ns nj nm a qa21) → (rest = bG (bQ A ns nj nm a) (3 - k21) (bSM (bQ A ns nj nm a) k21).1 (bSM (bQ A ns nj nm a) k21).2) → (eS < 256) → (eM < 32) → (tB eS = (bSM (bQ A ns nj nm a) k21).1) → (tB eM = (bSM (bQ A ns nj nm a) k21).2) → (∀ j, j < k21 → qc21 j = rC (bCk (bQ A ns nj nm a) j)) → Wd s0 D cy (scr S qa21 qb21 qc21) s.heap H locs → lv_has ls 7 [(0, .ref (gG S 2 0)), (1, .int a), (2, .int (nI rest)), (3, .int (nI eS)), (4, .int (nI eM)), (5, .int (nI k21))] → W p l e rm_e_X2_choose s m ([.ref (gG S 2 0), .int a] : List Value).toArray below meth c H locs 0 0 (MQ below (GQ s0 D cy (fun v S' => none = v ∧ ∃ f g h9, QAr A ns nj nm a f ∧ (∀ j, j < 3 → h9 j = rC (bCk (bQ A ns nj nm a) j)) ∧ S' = scr S f g h9)) ([.ref (gG S 2 0), .int a] : List Value).toArray s rm_e_X2_choose.cells rm_e_X2_choose.slots (A0 s0)) (F0 m 21 ls []) := by
    intro N
    induction N with
    | zero => intros; omega
    | succ N ih21 =>
      intro k21 qa21 qb21 qc21 rest eS eM H locs ls hmu hk_k21 hqa hrest hS hM htS htM hrow w hl
      have h : CI ea (scr S qa21 qb21 qc21) ns nj nm nt nr nc := h0.scr _ _ _
      have hA : RK (scr S qa21 qb21 qc21) A ns nj nm nt nr nc := hA0.scr
      refine lv_iload hx hb dX2_choose_21 (lv_at hl 5 rfl) ?_
      refine lv_iconst (v := 3) hx hb dX2_choose_23 (by decide) ?_
      refine lv_icmp_ge (tgt := 97) hx hb dX2_choose_24 (by decide) (fun hz_k21 => ?_) (fun hz_k21 => ?_)
      · have hge_k21 : 3 ≤ k21 := (nI_leI (a := 3) (b := k21) (by decide) (by omega)).mp hz_k21
        exact rV X w rfl dX2_choose_97 (by decide) (by decide) (⟨rfl, qa21, qb21, qc21, hqa, fun j hj => hrow j (by omega), rfl⟩)
      · have hlt_k21 : k21 < 3 := Nat.lt_of_not_le (fun z => hz_k21 ((nI_leI (a := 3) (b := k21) (by decide) (by omega)).mpr z))
        refine lv_aload_n hx hb dX2_choose_27 rfl (lv_at hl 0 rfl) ?_
        refine lv_iconst (v := 2) hx hb dX2_choose_28 (by decide) ?_
        refine lv_iload hx hb dX2_choose_29 (lv_at hl 5 rfl) ?_
        refine lv_isub hx hb dX2_choose_31 ?_
        refine lv_topi (fun z6 ez6 => ?_)
        obtain rfl : z6 = nI (2 - k21) := ez6.trans (pk_sub (a := 2) (b := k21) (by omega))
        refine lv_iload_n hx hb dX2_choose_32 rfl (lv_at hl 2 rfl) ?_
        refine lv_iload_n hx hb dX2_choose_33 rfl (lv_at hl 3 rfl) ?_
        refine lv_iload hx hb dX2_choose_34 (lv_at hl 4 rfl) ?_
        have hr54 : rest ≤ 54 := by rw [hrest]; have := bG_18 (Q := bQ A ns nj nm a) (fun s m => bQ_18) (3 - k21) (bSM (bQ A ns nj nm a) k21).1 (bSM (bQ A ns nj nm a) k21).2; omega
        refine cV (S := (scr S qa21 qb21 qc21)) (nA := 4) (As := [.int (nI (2 - k21)), .int (nI rest), .int (nI eS), .int (nI eM)]) (rest := []) X w hl h.v2 (e_X2_smallestPair G S ea ns nj nm nt nr nc h0 A hA0 (2 - k21) rest eS eM (by omega) (by omega) hS hM a qa21 qb21 qc21 hqa) wY_X2_smallestPair wM_X2_37 wIn_X2_smallestPair wSe_X2_X2_smallestPair wI_X2 (by decide) rfl (by decide +kernel) rfl rfl dX2_choose_36 ⟨by decide, by decide⟩ (Nat.le_of_ble_eq_true rfl) (⟨Nat.le_of_ble_eq_true rfl, Nat.le_of_ble_eq_true rfl⟩) (fun v8 S1 H locs hp w => ?_)
        obtain ⟨rfl, q7, rfl⟩ := hp
        have h : CI ea (scr S qa21 q7 qc21) ns nj nm nt nr nc := h0.scr _ _ _
        have hA : RK (scr S qa21 q7 qc21) A ns nj nm nt nr nc := hA0.scr
        refine lv_topi (fun z9 ez9 => ?_)
        obtain rfl : z9 = (rC (bCk (bQ A ns nj nm a) k21)) := ez9.trans (by rw [htS, htM, hrest, show 3 - k21 = 2 - k21 + 1 by omega]; rfl)
        refine lv_istore (lv' := [(6, .int (rC (bCk (bQ A ns nj nm a) k21))), (0, .ref (gG S 2 0)), (1, .int a), (2, .int (nI rest)), (3, .int (nI eS)), (4, .int (nI eM)), (5, .int (nI k21))]) hx hb dX2_choose_39 hl (by decide) rfl (fun ls hl => ?_)
        refine lv_aload_n hx hb dX2_choose_41 rfl (lv_at hl 1 rfl) ?_
        refine g_2_4 (S := (scr S qa21 q7 qc21)) (x := (some (gG (scr S qa21 q7 qc21) 32 4))) X w h.v2 wF_X2_18 (h.f36) dX2_choose_42 ?_
        refine lv_iload hx hb dX2_choose_45 (lv_at hl 6 rfl) ?_
        refine lv_iload hx hb dX2_choose_47 (lv_at hl 0 rfl) ?_
        refine aStI (S := (scr S qa21 q7 qc21)) (t := 32) (i := 4) X w h.a4.1 (by decide) rfl rfl (by rw [h.a4.2]; exact nI_vp hlt_k21 (by decide)) dX2_choose_49 (fun H locs w => ?_)
        rw [scr_4] at w
        obtain ⟨q10, hq10⟩ : ∃ f9 : Nat → Int32, f9 = (upd (mA (scr S qa21 q7 qc21) 32 4) (nI k21).toNatClampNeg (rC (bCk (bQ A ns nj nm a) k21))) := ⟨_, rfl⟩
        rw [← hq10] at w
        have hq10 : q10 = upd qc21 k21 (rC (bCk (bQ A ns nj nm a) k21)) := by rw [hq10, mA_scr4, nI_clamp (by first | omega | exact Nat.lt_of_lt_of_le hlt_k21 (by decide))]
        have hrow2 : ∀ j, j < k21 + 1 → q10 j = rC (bCk (bQ A ns nj nm a) j) := fun j hj => by
          rw [hq10]
          by_cases d : j = k21
          · rw [d, upd_s]
          · rw [upd_o d]; exact hrow j (by omega)
        have h : CI ea (scr S qa21 q7 q10) ns nj nm nt nr nc := h0.scr _ _ _
        have hA : RK (scr S qa21 q7 q10) A ns nj nm nt nr nc := hA0.scr
        refine lv_iload hx hb dX2_choose_50 (lv_at hl 0 rfl) ?_
        refine lv_iconst (v := 0) hx hb dX2_choose_52 (by decide) ?_
        refine lv_bipush (v := 39) hx hb dX2_choose_53 (by decide) ?_
        refine cSN (S := (scr S qa21 q7 q10)) (nA := 3) (As := [.int (rC (bCk (bQ A ns nj nm a) k21)), .int 0, .int 39]) (rest := []) X w hl (m_X10_isOutside G (scr S qa21 q7 q10) (rC (bCk (bQ A ns nj nm a) k21)) 0 39) wY_X10_isOutside wMN_X2_41 wSt_X10_isOutside wI_X10 (by decide +kernel) rfl rfl dX2_choose_55 ⟨by decide, by decide⟩ (Nat.le_of_ble_eq_true rfl) (⟨Nat.le_of_ble_eq_true rfl, Nat.le_of_ble_eq_true rfl⟩) (fun v11 S1 H locs hp w => ?_)
        obtain ⟨rfl, rfl⟩ := hp
        refine lv_if_ne (tgt := 91) hx hb dX2_choose_58 (by decide) (fun h58 => ?_) (fun h58 => ?_)
        · have hcr := bCh_rest (Q := bQ A ns nj nm a) (k := 2 - k21) (S := (bSM (bQ A ns nj nm a) k21).1) (M := (bSM (bQ A ns nj nm a) k21).2)
          have hcn := rC_out (b2i_t h58)
          have hS2 := hS
          have hM2 := hM
          have htS2 : tB eS = (bSM (bQ A ns nj nm a) (k21 + 1)).1 := htS.trans (if_neg hcn).symm
          have htM2 : tB eM = (bSM (bQ A ns nj nm a) (k21 + 1)).2 := htM.trans (if_neg hcn).symm
          have hrest2 : rest = bG (bQ A ns nj nm a) (3 - (k21 + 1)) (bSM (bQ A ns nj nm a) (k21 + 1)).1 (bSM (bQ A ns nj nm a) (k21 + 1)).2 := by
            rw [← htS2, ← htM2, htS, htM, hrest, show 3 - (k21 + 1) = 2 - k21 by omega, show 3 - k21 = 2 - k21 + 1 by omega]
            exact (hcr.2 hcn).2
          refine lv_iinc (v := nI (k21 + 1)) (lv' := [(5, .int (nI (k21 + 1))), (6, .int (rC (bCk (bQ A ns nj nm a) k21))), (0, .ref (gG S 2 0)), (1, .int a), (2, .int (nI rest)), (3, .int (nI eS)), (4, .int (nI eM))]) hx hb dX2_choose_91 hl (k := 6) rfl (nI_1 _) (by decide) rfl (fun ls hl => ?_)
          refine lv_goto (tgt := 21) hx hb dX2_choose_94 (by decide) ?_
          exact ih21 (k21 + 1) qa21 q7 q10 rest eS eM _ _ _ (by omega) (by omega) (hqa) (hrest2) (hS2) (hM2) (htS2) (htM2) (hrow2) w (lv_sub hl [2, 3, 4, 5, 6, 0] rfl)
        · have hcr := bCh_rest (Q := bQ A ns nj nm a) (k := 2 - k21) (S := (bSM (bQ A ns nj nm a) k21).1) (M := (bSM (bQ A ns nj nm a) k21).2)
          have hcl := rC_in (b2i_f h58)
          have hrc : rC (bCk (bQ A ns nj nm a) k21) = nI (bCk (bQ A ns nj nm a) k21) := if_pos hcl
          have hS2 : eS ||| 2 ^ ((bCk (bQ A ns nj nm a) k21) / 5) < 256 := (or_256 hS (by omega)).2
          have hM2 : eM ||| 2 ^ ((bCk (bQ A ns nj nm a) k21) % 5) < 32 := (or32 eM hM ((bCk (bQ A ns nj nm a) k21) % 5) (by omega)).2
          have htS2 : tB (eS ||| 2 ^ ((bCk (bQ A ns nj nm a) k21) / 5)) = (bSM (bQ A ns nj nm a) (k21 + 1)).1 := by
            rw [← tk_or, htS]
            exact (if_pos hcl).symm
          have htM2 : tB (eM ||| 2 ^ ((bCk (bQ A ns nj nm a) k21) % 5)) = (bSM (bQ A ns nj nm a) (k21 + 1)).2 := by
            rw [← tk_or, htM]
            exact (if_pos hcl).symm
          have hrq : rest = bQ A ns nj nm a ((bCk (bQ A ns nj nm a) k21) / 5) ((bCk (bQ A ns nj nm a) k21) % 5) + bG (bQ A ns nj nm a) (2 - k21) (bSM (bQ A ns nj nm a) (k21 + 1)).1 (bSM (bQ A ns nj nm a) (k21 + 1)).2 := by
            rw [← htS2, ← htM2, ← tk_or, ← tk_or, htS, htM, hrest, show 3 - k21 = 2 - k21 + 1 by omega]
            exact (hcr.1 hcl).2
          have hrest2 : bG (bQ A ns nj nm a) (2 - k21) (bSM (bQ A ns nj nm a) (k21 + 1)).1 (bSM (bQ A ns nj nm a) (k21 + 1)).2 = bG (bQ A ns nj nm a) (3 - (k21 + 1)) (bSM (bQ A ns nj nm a) (k21 + 1)).1 (bSM (bQ A ns nj nm a) (k21 + 1)).2 := by rw [show 3 - (k21 + 1) = 2 - k21 by omega]
          refine lv_iload_n hx hb dX2_choose_61 rfl (lv_at hl 3 rfl) ?_
          refine lv_aload_n hx hb dX2_choose_62 rfl (lv_at hl 1 rfl) ?_
          refine g_2_2 (S := (scr S qa21 q7 q10)) (x := (some (gG (scr S qa21 q7 q10) 32 2))) X w h.v2 wF_X2_11 (h.f34) dX2_choose_63 ?_
          refine lv_iload hx hb dX2_choose_66 (lv_at hl 0 rfl) ?_
          refine aLdI (S := (scr S qa21 q7 q10)) (t := 32) (v := (nI (bQ A ns nj nm a ((bCk (bQ A ns nj nm a) k21) / 5) ((bCk (bQ A ns nj nm a) k21) % 5)))) X w h.a2.1 (by decide) rfl rfl (by rw [h.a2.2, hrc]; exact nI_vp hcl (by decide)) (by rw [mA_scr2, hrc, nI_clamp (by omega)]; exact hqa _ hcl) dX2_choose_68 ?_
          refine lv_isub hx hb dX2_choose_69 ?_
          refine lv_topi (fun z12 ez12 => ?_)
          obtain rfl : z12 = nI (bG (bQ A ns nj nm a) (2 - k21) (bSM (bQ A ns nj nm a) (k21 + 1)).1 (bSM (bQ A ns nj nm a) (k21 + 1)).2) := ez12.trans (by rw [show nI rest - nI (bQ A ns nj nm a ((bCk (bQ A ns nj nm a) k21) / 5) ((bCk (bQ A ns nj nm a) k21) % 5)) = nI (rest - bQ A ns nj nm a ((bCk (bQ A ns nj nm a) k21) / 5) ((bCk (bQ A ns nj nm a) k21) % 5)) from pk_sub (by omega)]; exact congrArg nI (by omega))
          refine lv_istore_n (lv' := [(2, .int (nI (bG (bQ A ns nj nm a) (2 - k21) (bSM (bQ A ns nj nm a) (k21 + 1)).1 (bSM (bQ A ns nj nm a) (k21 + 1)).2))), (6, .int (rC (bCk (bQ A ns nj nm a) k21))), (0, .ref (gG S 2 0)), (1, .int a), (3, .int (nI eS)), (4, .int (nI eM)), (5, .int (nI k21))]) hx hb dX2_choose_70 rfl hl (by decide) rfl (fun ls hl => ?_)
          refine lv_iload_n hx hb dX2_choose_71 rfl (lv_at hl 4 rfl) ?_
          refine lv_iconst (v := 1) hx hb dX2_choose_72 (by decide) ?_
          refine lv_iload hx hb dX2_choose_73 (lv_at hl 1 rfl) ?_
          refine lv_iconst (v := 5) hx hb dX2_choose_75 (by decide) ?_
          refine lv_idiv hx hb dX2_choose_76 (by decide) ?_
          refine lv_topi (fun z13 ez13 => ?_)
          obtain rfl : z13 = nI ((bCk (bQ A ns nj nm a) k21) / 5) := ez13.trans (by rw [hrc]; exact pk_d5 hcl)
          refine lv_ishl hx hb dX2_choose_77 ?_
          refine lv_ior hx hb dX2_choose_78 ?_
          refine lv_topi (fun z14 ez14 => ?_)
          obtain rfl : z14 = nI (eS ||| 2 ^ ((bCk (bQ A ns nj nm a) k21) / 5)) := ez14.trans ((or_256 hS (by omega)).1)
          refine lv_istore_n (lv' := [(3, .int (nI (eS ||| 2 ^ ((bCk (bQ A ns nj nm a) k21) / 5)))), (2, .int (nI (bG (bQ A ns nj nm a) (2 - k21) (bSM (bQ A ns nj nm a) (k21 + 1)).1 (bSM (bQ A ns nj nm a) (k21 + 1)).2))), (6, .int (rC (bCk (bQ A ns nj nm a) k21))), (0, .ref (gG S 2 0)), (1, .int a), (4, .int (nI eM)), (5, .int (nI k21))]) hx hb dX2_choose_79 rfl hl (by decide) rfl (fun ls hl => ?_)
          refine lv_iload hx hb dX2_choose_80 (lv_at hl 5 rfl) ?_
          refine lv_iconst (v := 1) hx hb dX2_choose_82 (by decide) ?_
          refine lv_iload hx hb dX2_choose_83 (lv_at hl 2 rfl) ?_
          refine lv_iconst (v := 5) hx hb dX2_choose_85 (by decide) ?_
          refine lv_irem hx hb dX2_choose_86 (by decide) ?_
          refine lv_topi (fun z15 ez15 => ?_)
          obtain rfl : z15 = nI ((bCk (bQ A ns nj nm a) k21) % 5) := ez15.trans (by rw [hrc]; exact pk_r5 hcl)
          refine lv_ishl hx hb dX2_choose_87 ?_
          refine lv_ior hx hb dX2_choose_88 ?_
          refine lv_topi (fun z16 ez16 => ?_)
          obtain rfl : z16 = nI (eM ||| 2 ^ ((bCk (bQ A ns nj nm a) k21) % 5)) := ez16.trans ((or32 eM hM ((bCk (bQ A ns nj nm a) k21) % 5) (by omega)).1)
          refine lv_istore (lv' := [(4, .int (nI (eM ||| 2 ^ ((bCk (bQ A ns nj nm a) k21) % 5)))), (3, .int (nI (eS ||| 2 ^ ((bCk (bQ A ns nj nm a) k21) / 5)))), (2, .int (nI (bG (bQ A ns nj nm a) (2 - k21) (bSM (bQ A ns nj nm a) (k21 + 1)).1 (bSM (bQ A ns nj nm a) (k21 + 1)).2))), (6, .int (rC (bCk (bQ A ns nj nm a) k21))), (0, .ref (gG S 2 0)), (1, .int a), (5, .int (nI k21))]) hx hb dX2_choose_89 hl (by decide) rfl (fun ls hl => ?_)
          refine lv_iinc (v := nI (k21 + 1)) (lv' := [(5, .int (nI (k21 + 1))), (4, .int (nI (eM ||| 2 ^ ((bCk (bQ A ns nj nm a) k21) % 5)))), (3, .int (nI (eS ||| 2 ^ ((bCk (bQ A ns nj nm a) k21) / 5)))), (2, .int (nI (bG (bQ A ns nj nm a) (2 - k21) (bSM (bQ A ns nj nm a) (k21 + 1)).1 (bSM (bQ A ns nj nm a) (k21 + 1)).2))), (6, .int (rC (bCk (bQ A ns nj nm a) k21))), (0, .ref (gG S 2 0)), (1, .int a)]) hx hb dX2_choose_91 hl (k := 6) rfl (nI_1 _) (by decide) rfl (fun ls hl => ?_)
          refine lv_goto (tgt := 21) hx hb dX2_choose_94 (by decide) ?_
          exact ih21 (k21 + 1) qa21 q7 q10 (bG (bQ A ns nj nm a) (2 - k21) (bSM (bQ A ns nj nm a) (k21 + 1)).1 (bSM (bQ A ns nj nm a) (k21 + 1)).2) (eS ||| 2 ^ ((bCk (bQ A ns nj nm a) k21) / 5)) (eM ||| 2 ^ ((bCk (bQ A ns nj nm a) k21) % 5)) _ _ _ (by omega) (by omega) (hqa) (hrest2) (hS2) (hM2) (htS2) (htM2) (hrow2) w (lv_sub hl [5, 6, 3, 2, 1, 0] rfl)
  exact L21 _ 0 q1 q3 c0 (bG (bQ A ns nj nm a) 3 nF nF) 0 0 _ _ _ (Nat.lt_succ_self _) (by omega) (hqa) (rfl) (by decide) (by decide) (tB_0) (tB_0) (fun j hj => absurd hj (Nat.not_lt_zero j)) w (lv_sub hl [4, 5, 3, 2, 1, 0] rfl)

