def GS (A Q : HS) : Prop := (∀ j, mI Q 241 j = mI A 241 j) ∧ (∀ j, mI Q 243 j = mI A 243 j) ∧ (∀ j, mI Q 244 j = mI A 244 j) ∧ (∀ j, mI Q 248 j = mI A 248 j)
theorem GS.send {A Q : HS} {nr g k : Nat} (h : GS A Q) : GS A (seT Q nr g k) := ⟨fun j => (seT_o (by decide) (by decide) (by decide) (by decide) (by decide) (by decide) j).trans (h.1 j), fun j => (seT_o (by decide) (by decide) (by decide) (by decide) (by decide) (by decide) j).trans (h.2.1 j), fun j => (seT_o (by decide) (by decide) (by decide) (by decide) (by decide) (by decide) j).trans (h.2.2.1 j), fun j => (seT_o (by decide) (by decide) (by decide) (by decide) (by decide) (by decide) j).trans (h.2.2.2 j)⟩
abbrev rm_r_X16_deskNow : Room := { frames := 3, cells := 2, slots := 24, locals := 64 }
set_option maxHeartbeats 4000000 in
set_option maxRecDepth 100000 in
theorem r_X16_deskNow {s0 : State} {l : Launch} {D : va_G} {cy : Nat → ClassId} (G : Gl s0 l D cy) (S : HS) (ea ns nj nm nt nr nq : Nat) (h : RI ea S ns nj nm nt nr nq) (q : Nat) (hq : q < 19) (A : HS) (hF : RF s0 S A nq nt) (hT : ∀ x ∈ [((39 : Nat), (0 : Nat)), ((39 : Nat), (3 : Nat))], ¬ vV S x.1 x.2) : Ctr s0 l D cy yX16_deskNow cX16_deskNow 6 (some .int) rm_r_X16_deskNow S [.ref (gG S 16 0), .int (nI q)] (PU S (some (.int (rDesk A ns nj nm nr nt (mI S 260 0) q)))) := by
  refine pro "CavershamShiftModel" G rfl rfl (Nat.le_of_ble_eq_true rfl) (fun p e s m below meth c ls X w hnm hl => ?_)
  have hx := X.1
  have hb := X.2.1
  have hown := X.2.2.2.1
  have hts := X.2.2.2.2.1
  have hl : lv_has ls 6 [(0, .ref (gG S 16 0)), (1, .int (nI q))] := hl
  have h0 := h
  have hK : Kq (hvT [(39, 0), (39, 3)]) hNo hNo S S := Kq.rf
  have nv39_0 : ¬ vV S 39 0 := hT (39, 0) (by decide)
  have nv39_3 : ¬ vV S 39 3 := hT (39, 3) (by decide)
  refine lv_iconst (v := 5) hx hb dX16_deskNow_0 (by decide) ?_
  refine nwI (S := S) (atype := .int) (ty := .int) (n := 5) X w 39 0 (nv39_0) (by decide) rfl rfl (Or.inl ⟨rfl, rfl⟩) wA_int (rfl) (by decide) dX16_deskNow_1 (Nat.le_of_ble_eq_true rfl) (Nat.le_of_ble_eq_true rfl) (fun q39_0 S2 H hS2 w => ?_)
  subst hS2
  have v39_0 : vV (sArr S 39 0 q39_0 5) 39 0 := Or.inr ⟨rfl, rfl⟩
  have n39_0 : mN (sArr S 39 0 q39_0 5) 39 0 = 5 := rfl
  have e39_0 : gG (sArr S 39 0 q39_0 5) 39 0 = q39_0 := rfl
  have h : RI ea (sArr S 39 0 q39_0 5) ns nj nm nt nr nq := h.arr (by decide)
  have hK : Kq (hvT [(39, 0), (39, 3)]) hNo hNo S (sArr S 39 0 q39_0 5) := hK.arr rfl
  have nv39_3 : ¬ vV (sArr S 39 0 q39_0 5) 39 3 := fun z => z.elim nv39_3 (fun z => absurd z (by decide))
  refine lv_astore_n (lv' := [(2, .ref (gG (sArr S 39 0 q39_0 5) 39 0)), (0, .ref (gG S 16 0)), (1, .int (nI q))]) hx hb dX16_deskNow_3 rfl hl (by decide) rfl (fun ls hl => ?_)
  refine lv_iconst (v := 0) hx hb dX16_deskNow_4 (by decide) ?_
  refine lv_istore_n (lv' := [(3, .int 0), (2, .ref (gG (sArr S 39 0 q39_0 5) 39 0)), (0, .ref (gG S 16 0)), (1, .int (nI q))]) hx hb dX16_deskNow_5 rfl hl (by decide) rfl (fun ls hl => ?_)
  refine lv_iconst (v := 0) hx hb dX16_deskNow_6 (by decide) ?_
  refine lv_istore (lv' := [(4, .int 0), (3, .int 0), (2, .ref (gG (sArr S 39 0 q39_0 5) 39 0)), (0, .ref (gG S 16 0)), (1, .int (nI q))]) hx hb dX16_deskNow_7 hl (by decide) rfl (fun ls hl => ?_)
  refine lv_iconst (v := 0) hx hb dX16_deskNow_9 (by decide) ?_
  refine lv_istore (lv' := [(5, .int 0), (4, .int 0), (3, .int 0), (2, .ref (gG (sArr S 39 0 q39_0 5) 39 0)), (0, .ref (gG S 16 0)), (1, .int (nI q))]) hx hb dX16_deskNow_10 hl (by decide) rfl (fun ls hl => ?_)
  have L12 : ∀ (N : Nat) (k12 : Nat) (u3 : Int32) (u4 : Int32) (T12 : HS) (H : Heap) (locs : List Loc) (ls : Array Slot), nt - k12 < N → (k12 ≤ nt) → (u3 = rCnt (fun k => decide (¬ mI A 247 k = -1)) k12) → (u4 = rCnt (dkP A) k12) → (∀ s, s < 5 → mA T12 39 0 s = rCnt (fun k => decide (mI A 247 k = nI s)) k12) → (RI ea T12 ns nj nm nt nr nq) → (Kq (hvT [(39, 0), (39, 3)]) hNo hNo S T12) → (¬ vV T12 39 3) → (vV T12 39 0) → (mN T12 39 0 = 5) → (gG T12 39 0 = q39_0) → Wd s0 D cy T12 s.heap H locs → lv_has ls 6 [(0, .ref (gG S 16 0)), (1, .int (nI q)), (2, .ref (gG (sArr S 39 0 q39_0 5) 39 0)), (3, .int u3), (4, .int u4), (5, .int (nI k12))] → W p l e rm_r_X16_deskNow s m ([.ref (gG S 16 0), .int (nI q)] : List Value).toArray below meth c H locs (0 + 1) (0 + 5) (MQ below (GQ s0 D cy (PU S (some (.int (rDesk A ns nj nm nr nt (mI S 260 0) q))))) ([.ref (gG S 16 0), .int (nI q)] : List Value).toArray s rm_r_X16_deskNow.cells rm_r_X16_deskNow.slots (A0 s0)) (F0 m 12 ls []) := by
    clear nv39_3 v39_0 n39_0 e39_0
    intro N
    induction N with
    | zero => intros; omega
    | succ N ih12 =>
      intro k12 u3 u4 T12 H locs ls hmu hk h3 h4 hst h hK_T12 nv39_3 v39_0 n39_0 e39_0 w hl
      have hK := hK_T12
      refine lv_iload hx hb dX16_deskNow_12 (lv_at hl 5 rfl) ?_
      refine lv_aload_n hx hb dX16_deskNow_14 rfl (lv_at hl 0 rfl) ?_
      refine rE0 ((rfl).trans ((hK_T12.G (t := 16) (i := 0) rfl)).symm) ?_
      refine g_16_9 (S := T12) (x := (some (gG T12 17 9))) X w h.v wF_X16_26 (h.f_ta) dX16_deskNow_15 ?_
      refine cF (S := T12) (t := 17) (nA := 0) (As := []) (rest := [.int (nI k12)]) X w hl h.l_ta.1 (m_size G T12 ea 9 nt h.l_ta) wY_Jx4a65c_size_8abf5 wM_X16_73 wIn_Jx4a65c_size_8abf5 wSe_Jx4a65c_Jx4a65c_size_8abf5_of_java_util_List_size___I wI_Jx4a65c fw_size (by decide) rfl (by decide +kernel) rfl rfl dX16_deskNow_18 ⟨by decide, by decide⟩ (Nat.le_of_ble_eq_true rfl) (⟨Nat.le_of_ble_eq_true rfl, Nat.le_of_ble_eq_true rfl⟩) (fun v1 S1 H locs hp w => ?_)
      obtain ⟨rfl, rfl⟩ := hp
      refine lv_icmp_ge (tgt := 112) hx hb dX16_deskNow_23 (by decide) (fun hsz => ?_) (fun hsz => ?_)
      · have hge : nt ≤ k12 := by
          have hb1 := h.b_ta
          exact (nI_leI (by omega) (by omega)).mp hsz
        have hst : ∀ s, s < 5 → mA T12 39 0 s = rCnt (fun k => decide (mI A 247 k = nI s)) nt := fun s hs => by rw [show nt = k12 by omega]; exact hst s hs
        have hd : ∀ i, i < 0 → mA T12 39 3 i = rDesk A ns nj nm nr nt (mI S 260 0) i := fun i hi => absurd hi (Nat.not_lt_zero i)
        refine lv_bipush (v := 19) hx hb dX16_deskNow_112 (by decide) ?_
        refine nwI (S := T12) (atype := .int) (ty := .int) (n := 19) X w 39 3 (nv39_3) (by decide) rfl rfl (Or.inl ⟨rfl, rfl⟩) wA_int (rfl) (by decide) dX16_deskNow_114 (Nat.le_of_ble_eq_true rfl) (Nat.le_of_ble_eq_true rfl) (fun q39_3 S2 H hS2 w => ?_)
        subst hS2
        have v39_3 : vV (sArr T12 39 3 q39_3 19) 39 3 := Or.inr ⟨rfl, rfl⟩
        have n39_3 : mN (sArr T12 39 3 q39_3 19) 39 3 = 19 := rfl
        have e39_3 : gG (sArr T12 39 3 q39_3 19) 39 3 = q39_3 := rfl
        have v39_0 : vV (sArr T12 39 3 q39_3 19) 39 0 := Or.inl v39_0
        have n39_0 : mN (sArr T12 39 3 q39_3 19) 39 0 = 5 := n39_0
        have e39_0 : gG (sArr T12 39 3 q39_3 19) 39 0 = q39_0 := e39_0
        have h : RI ea (sArr T12 39 3 q39_3 19) ns nj nm nt nr nq := h.arr (by decide)
        have hK : Kq (hvT [(39, 0), (39, 3)]) hNo hNo S (sArr T12 39 3 q39_3 19) := hK.arr rfl
        refine lv_dup hx hb dX16_deskNow_116 rfl ?_
        refine lv_iconst (v := 0) hx hb dX16_deskNow_117 (by decide) ?_
        refine lv_aload_n hx hb dX16_deskNow_118 rfl (lv_at hl 0 rfl) ?_
        refine rE0 ((rfl).trans ((hK_T12.G (t := 16) (i := 0) rfl)).symm) ?_
        refine g_16_1 (S := (sArr T12 39 3 q39_3 19)) (x := (mI A 257 0)) X w h.v wF_X16_125 ((hK.I (f := 257) (i := 0) rfl).trans (hF.1 257 rfl 0)) dX16_deskNow_119 ?_
        refine aStI (S := (sArr T12 39 3 q39_3 19)) (t := 39) X w v39_3 (by decide) rfl rfl (by rw [n39_3]; unfold vp_in; decide) dX16_deskNow_122 (fun H locs w => ?_)
        have h : RI ea (sA (sArr T12 39 3 q39_3 19) 39 3 (upd (mA (sArr T12 39 3 q39_3 19) 39 3) (0 : Int32).toNatClampNeg (mI A 257 0))) ns nj nm nt nr nq := h.stA (by decide)
        have hK : Kq (hvT [(39, 0), (39, 3)]) hNo hNo S (sA (sArr T12 39 3 q39_3 19) 39 3 (upd (mA (sArr T12 39 3 q39_3 19) 39 3) (0 : Int32).toNatClampNeg (mI A 257 0))) := hK.sA rfl
        have hd : ∀ i, i < 1 → mA (sA (sArr T12 39 3 q39_3 19) 39 3 (upd (mA (sArr T12 39 3 q39_3 19) 39 3) (0 : Int32).toNatClampNeg (mI A 257 0))) 39 3 i = rDesk A ns nj nm nr nt (mI S 260 0) i := fun i hi => by
          rw [show mA (sA (sArr T12 39 3 q39_3 19) 39 3 (upd (mA (sArr T12 39 3 q39_3 19) 39 3) (0 : Int32).toNatClampNeg (mI A 257 0))) 39 3 = upd (mA (sArr T12 39 3 q39_3 19) 39 3) (0 : Int32).toNatClampNeg (mI A 257 0) from sA_s, show (0 : Int32).toNatClampNeg = 0 by decide]
          by_cases d : i = 0
          · rw [d, upd_s]; exact rfl
          · rw [upd_o d]; first | exact hd i (by omega) | (exfalso; omega)
        obtain ⟨U2, h, hK_U2, v39_0', n39_0', e39_0', hst', v39_3', n39_3', e39_3', hd', w⟩ : ∃ U2 : HS, (RI ea U2 ns nj nm nt nr nq) ∧ (Kq (hvT [(39, 0), (39, 3)]) hNo hNo S U2) ∧ (vV U2 39 0) ∧ (mN U2 39 0 = 5) ∧ (gG U2 39 0 = q39_0) ∧ (∀ s, s < 5 → mA U2 39 0 s = rCnt (fun k => decide (mI A 247 k = nI s)) nt) ∧ (vV U2 39 3) ∧ (mN U2 39 3 = 19) ∧ (gG U2 39 3 = q39_3) ∧ (∀ i, i < 1 → mA U2 39 3 i = rDesk A ns nj nm nr nt (mI S 260 0) i) ∧ Wd s0 D cy U2 s.heap H locs := ⟨_, h, hK, v39_0, n39_0, e39_0, hst, v39_3, n39_3, e39_3, hd, w⟩
        clear v39_0 n39_0 e39_0 hst v39_3 n39_3 e39_3 hd
        have v39_0 := v39_0'; clear v39_0'
        have n39_0 := n39_0'; clear n39_0'
        have e39_0 := e39_0'; clear e39_0'
        have hst := hst'; clear hst'
        have v39_3 := v39_3'; clear v39_3'
        have n39_3 := n39_3'; clear n39_3'
        have e39_3 := e39_3'; clear e39_3'
        have hd := hd'; clear hd'
        have hK := hK_U2
        refine lv_dup hx hb dX16_deskNow_123 rfl ?_
        refine lv_iconst (v := 1) hx hb dX16_deskNow_124 (by decide) ?_
        refine lv_aload_n hx hb dX16_deskNow_125 rfl (lv_at hl 0 rfl) ?_
        refine rE0 ((rfl).trans ((hK_U2.G (t := 16) (i := 0) rfl)).symm) ?_
        refine g_16_1 (S := U2) (x := (mI A 257 0)) X w h.v wF_X16_125 ((hK.I (f := 257) (i := 0) rfl).trans (hF.1 257 rfl 0)) dX16_deskNow_126 ?_
        refine lv_bipush (v := 24) hx hb dX16_deskNow_129 (by decide) ?_
        refine lv_idiv hx hb dX16_deskNow_131 (by decide) ?_
        refine rE2 ((show gG (sArr T12 39 3 q39_3 19) 39 3 = q39_3 from rfl).trans e39_3.symm) ?_
        refine aStI (S := U2) (t := 39) X w v39_3 (by decide) rfl rfl (by rw [n39_3]; unfold vp_in; decide) dX16_deskNow_132 (fun H locs w => ?_)
        have h : RI ea (sA U2 39 3 (upd (mA U2 39 3) (1 : Int32).toNatClampNeg ((mI A 257 0) / 24))) ns nj nm nt nr nq := h.stA (by decide)
        have hK : Kq (hvT [(39, 0), (39, 3)]) hNo hNo S (sA U2 39 3 (upd (mA U2 39 3) (1 : Int32).toNatClampNeg ((mI A 257 0) / 24))) := hK.sA rfl
        have hd : ∀ i, i < 2 → mA (sA U2 39 3 (upd (mA U2 39 3) (1 : Int32).toNatClampNeg ((mI A 257 0) / 24))) 39 3 i = rDesk A ns nj nm nr nt (mI S 260 0) i := fun i hi => by
          rw [show mA (sA U2 39 3 (upd (mA U2 39 3) (1 : Int32).toNatClampNeg ((mI A 257 0) / 24))) 39 3 = upd (mA U2 39 3) (1 : Int32).toNatClampNeg ((mI A 257 0) / 24) from sA_s, show (1 : Int32).toNatClampNeg = 1 by decide]
          by_cases d : i = 1
          · rw [d, upd_s]; exact rfl
          · rw [upd_o d]; first | exact hd i (by omega) | (exfalso; omega)
        obtain ⟨U3, h, hK_U3, v39_0', n39_0', e39_0', hst', v39_3', n39_3', e39_3', hd', w⟩ : ∃ U3 : HS, (RI ea U3 ns nj nm nt nr nq) ∧ (Kq (hvT [(39, 0), (39, 3)]) hNo hNo S U3) ∧ (vV U3 39 0) ∧ (mN U3 39 0 = 5) ∧ (gG U3 39 0 = q39_0) ∧ (∀ s, s < 5 → mA U3 39 0 s = rCnt (fun k => decide (mI A 247 k = nI s)) nt) ∧ (vV U3 39 3) ∧ (mN U3 39 3 = 19) ∧ (gG U3 39 3 = q39_3) ∧ (∀ i, i < 2 → mA U3 39 3 i = rDesk A ns nj nm nr nt (mI S 260 0) i) ∧ Wd s0 D cy U3 s.heap H locs := ⟨_, h, hK, v39_0, n39_0, e39_0, hst, v39_3, n39_3, e39_3, hd, w⟩
        clear v39_0 n39_0 e39_0 hst v39_3 n39_3 e39_3 hd
        have v39_0 := v39_0'; clear v39_0'
        have n39_0 := n39_0'; clear n39_0'
        have e39_0 := e39_0'; clear e39_0'
        have hst := hst'; clear hst'
        have v39_3 := v39_3'; clear v39_3'
        have n39_3 := n39_3'; clear n39_3'
        have e39_3 := e39_3'; clear e39_3'
        have hd := hd'; clear hd'
        have hK := hK_U3
        refine lv_dup hx hb dX16_deskNow_133 rfl ?_
        refine lv_iconst (v := 2) hx hb dX16_deskNow_134 (by decide) ?_
        refine lv_aload_n hx hb dX16_deskNow_135 rfl (lv_at hl 0 rfl) ?_
        refine rE0 ((rfl).trans ((hK_U3.G (t := 16) (i := 0) rfl)).symm) ?_
        refine g_16_1 (S := U3) (x := (mI A 257 0)) X w h.v wF_X16_125 ((hK.I (f := 257) (i := 0) rfl).trans (hF.1 257 rfl 0)) dX16_deskNow_136 ?_
        refine lv_bipush (v := 24) hx hb dX16_deskNow_139 (by decide) ?_
        refine lv_irem hx hb dX16_deskNow_141 (by decide) ?_
        refine rE2 ((show gG (sArr T12 39 3 q39_3 19) 39 3 = q39_3 from rfl).trans e39_3.symm) ?_
        refine aStI (S := U3) (t := 39) X w v39_3 (by decide) rfl rfl (by rw [n39_3]; unfold vp_in; decide) dX16_deskNow_142 (fun H locs w => ?_)
        have h : RI ea (sA U3 39 3 (upd (mA U3 39 3) (2 : Int32).toNatClampNeg ((mI A 257 0) - (mI A 257 0) / 24 * 24))) ns nj nm nt nr nq := h.stA (by decide)
        have hK : Kq (hvT [(39, 0), (39, 3)]) hNo hNo S (sA U3 39 3 (upd (mA U3 39 3) (2 : Int32).toNatClampNeg ((mI A 257 0) - (mI A 257 0) / 24 * 24))) := hK.sA rfl
        have hd : ∀ i, i < 3 → mA (sA U3 39 3 (upd (mA U3 39 3) (2 : Int32).toNatClampNeg ((mI A 257 0) - (mI A 257 0) / 24 * 24))) 39 3 i = rDesk A ns nj nm nr nt (mI S 260 0) i := fun i hi => by
          rw [show mA (sA U3 39 3 (upd (mA U3 39 3) (2 : Int32).toNatClampNeg ((mI A 257 0) - (mI A 257 0) / 24 * 24))) 39 3 = upd (mA U3 39 3) (2 : Int32).toNatClampNeg ((mI A 257 0) - (mI A 257 0) / 24 * 24) from sA_s, show (2 : Int32).toNatClampNeg = 2 by decide]
          by_cases d : i = 2
          · rw [d, upd_s]; exact rfl
          · rw [upd_o d]; first | exact hd i (by omega) | (exfalso; omega)
        obtain ⟨U4, h, hK_U4, v39_0', n39_0', e39_0', hst', v39_3', n39_3', e39_3', hd', w⟩ : ∃ U4 : HS, (RI ea U4 ns nj nm nt nr nq) ∧ (Kq (hvT [(39, 0), (39, 3)]) hNo hNo S U4) ∧ (vV U4 39 0) ∧ (mN U4 39 0 = 5) ∧ (gG U4 39 0 = q39_0) ∧ (∀ s, s < 5 → mA U4 39 0 s = rCnt (fun k => decide (mI A 247 k = nI s)) nt) ∧ (vV U4 39 3) ∧ (mN U4 39 3 = 19) ∧ (gG U4 39 3 = q39_3) ∧ (∀ i, i < 3 → mA U4 39 3 i = rDesk A ns nj nm nr nt (mI S 260 0) i) ∧ Wd s0 D cy U4 s.heap H locs := ⟨_, h, hK, v39_0, n39_0, e39_0, hst, v39_3, n39_3, e39_3, hd, w⟩
        clear v39_0 n39_0 e39_0 hst v39_3 n39_3 e39_3 hd
        have v39_0 := v39_0'; clear v39_0'
        have n39_0 := n39_0'; clear n39_0'
        have e39_0 := e39_0'; clear e39_0'
        have hst := hst'; clear hst'
        have v39_3 := v39_3'; clear v39_3'
        have n39_3 := n39_3'; clear n39_3'
        have e39_3 := e39_3'; clear e39_3'
        have hd := hd'; clear hd'
        have hK := hK_U4
        refine lv_dup hx hb dX16_deskNow_143 rfl ?_
        refine lv_iconst (v := 3) hx hb dX16_deskNow_144 (by decide) ?_
        refine lv_aload_n hx hb dX16_deskNow_145 rfl (lv_at hl 0 rfl) ?_
        refine rE0 ((rfl).trans ((hK_U4.G (t := 16) (i := 0) rfl)).symm) ?_
        refine g_16_6 (S := U4) (x := (some (gG U4 17 6))) X w h.v wF_X16_16 (h.f_st) dX16_deskNow_146 ?_
        refine cF (S := U4) (t := 17) (nA := 0) (As := []) (rest := [.int 3, .ref (gG (sArr T12 39 3 q39_3 19) 39 3), .ref (gG (sArr T12 39 3 q39_3 19) 39 3)]) X w hl h.l_st.1 (m_size G U4 ea 6 ns h.l_st) wY_Jx4a65c_size_8abf5 wM_X16_73 wIn_Jx4a65c_size_8abf5 wSe_Jx4a65c_Jx4a65c_size_8abf5_of_java_util_List_size___I wI_Jx4a65c fw_size (by decide) rfl (by decide +kernel) rfl rfl dX16_deskNow_149 ⟨by decide, by decide⟩ (Nat.le_of_ble_eq_true rfl) (⟨Nat.le_of_ble_eq_true rfl, Nat.le_of_ble_eq_true rfl⟩) (fun v5 S1 H locs hp w => ?_)
        obtain ⟨rfl, rfl⟩ := hp
        refine rE2 ((show gG (sArr T12 39 3 q39_3 19) 39 3 = q39_3 from rfl).trans e39_3.symm) ?_
        refine aStI (S := U4) (t := 39) X w v39_3 (by decide) rfl rfl (by rw [n39_3]; unfold vp_in; decide) dX16_deskNow_154 (fun H locs w => ?_)
        have h : RI ea (sA U4 39 3 (upd (mA U4 39 3) (3 : Int32).toNatClampNeg (nI ns))) ns nj nm nt nr nq := h.stA (by decide)
        have hK : Kq (hvT [(39, 0), (39, 3)]) hNo hNo S (sA U4 39 3 (upd (mA U4 39 3) (3 : Int32).toNatClampNeg (nI ns))) := hK.sA rfl
        have hd : ∀ i, i < 4 → mA (sA U4 39 3 (upd (mA U4 39 3) (3 : Int32).toNatClampNeg (nI ns))) 39 3 i = rDesk A ns nj nm nr nt (mI S 260 0) i := fun i hi => by
          rw [show mA (sA U4 39 3 (upd (mA U4 39 3) (3 : Int32).toNatClampNeg (nI ns))) 39 3 = upd (mA U4 39 3) (3 : Int32).toNatClampNeg (nI ns) from sA_s, show (3 : Int32).toNatClampNeg = 3 by decide]
          by_cases d : i = 3
          · rw [d, upd_s]; exact rfl
          · rw [upd_o d]; first | exact hd i (by omega) | (exfalso; omega)
        obtain ⟨U6, h, hK_U6, v39_0', n39_0', e39_0', hst', v39_3', n39_3', e39_3', hd', w⟩ : ∃ U6 : HS, (RI ea U6 ns nj nm nt nr nq) ∧ (Kq (hvT [(39, 0), (39, 3)]) hNo hNo S U6) ∧ (vV U6 39 0) ∧ (mN U6 39 0 = 5) ∧ (gG U6 39 0 = q39_0) ∧ (∀ s, s < 5 → mA U6 39 0 s = rCnt (fun k => decide (mI A 247 k = nI s)) nt) ∧ (vV U6 39 3) ∧ (mN U6 39 3 = 19) ∧ (gG U6 39 3 = q39_3) ∧ (∀ i, i < 4 → mA U6 39 3 i = rDesk A ns nj nm nr nt (mI S 260 0) i) ∧ Wd s0 D cy U6 s.heap H locs := ⟨_, h, hK, v39_0, n39_0, e39_0, hst, v39_3, n39_3, e39_3, hd, w⟩
        clear v39_0 n39_0 e39_0 hst v39_3 n39_3 e39_3 hd
        have v39_0 := v39_0'; clear v39_0'
        have n39_0 := n39_0'; clear n39_0'
        have e39_0 := e39_0'; clear e39_0'
        have hst := hst'; clear hst'
        have v39_3 := v39_3'; clear v39_3'
        have n39_3 := n39_3'; clear n39_3'
        have e39_3 := e39_3'; clear e39_3'
        have hd := hd'; clear hd'
        have hK := hK_U6
        refine lv_dup hx hb dX16_deskNow_155 rfl ?_
        refine lv_iconst (v := 4) hx hb dX16_deskNow_156 (by decide) ?_
        refine lv_aload_n hx hb dX16_deskNow_157 rfl (lv_at hl 0 rfl) ?_
        refine rE0 ((rfl).trans ((hK_U6.G (t := 16) (i := 0) rfl)).symm) ?_
        refine g_16_7 (S := U6) (x := (some (gG U6 17 7))) X w h.v wF_X16_20 (h.f_jm) dX16_deskNow_158 ?_
        refine cF (S := U6) (t := 17) (nA := 0) (As := []) (rest := [.int 4, .ref (gG (sArr T12 39 3 q39_3 19) 39 3), .ref (gG (sArr T12 39 3 q39_3 19) 39 3)]) X w hl h.l_jm.1 (m_size G U6 ea 7 nj h.l_jm) wY_Jx4a65c_size_8abf5 wM_X16_73 wIn_Jx4a65c_size_8abf5 wSe_Jx4a65c_Jx4a65c_size_8abf5_of_java_util_List_size___I wI_Jx4a65c fw_size (by decide) rfl (by decide +kernel) rfl rfl dX16_deskNow_161 ⟨by decide, by decide⟩ (Nat.le_of_ble_eq_true rfl) (⟨Nat.le_of_ble_eq_true rfl, Nat.le_of_ble_eq_true rfl⟩) (fun v7 S1 H locs hp w => ?_)
        obtain ⟨rfl, rfl⟩ := hp
        refine rE2 ((show gG (sArr T12 39 3 q39_3 19) 39 3 = q39_3 from rfl).trans e39_3.symm) ?_
        refine aStI (S := U6) (t := 39) X w v39_3 (by decide) rfl rfl (by rw [n39_3]; unfold vp_in; decide) dX16_deskNow_166 (fun H locs w => ?_)
        have h : RI ea (sA U6 39 3 (upd (mA U6 39 3) (4 : Int32).toNatClampNeg (nI nj))) ns nj nm nt nr nq := h.stA (by decide)
        have hK : Kq (hvT [(39, 0), (39, 3)]) hNo hNo S (sA U6 39 3 (upd (mA U6 39 3) (4 : Int32).toNatClampNeg (nI nj))) := hK.sA rfl
        have hd : ∀ i, i < 5 → mA (sA U6 39 3 (upd (mA U6 39 3) (4 : Int32).toNatClampNeg (nI nj))) 39 3 i = rDesk A ns nj nm nr nt (mI S 260 0) i := fun i hi => by
          rw [show mA (sA U6 39 3 (upd (mA U6 39 3) (4 : Int32).toNatClampNeg (nI nj))) 39 3 = upd (mA U6 39 3) (4 : Int32).toNatClampNeg (nI nj) from sA_s, show (4 : Int32).toNatClampNeg = 4 by decide]
          by_cases d : i = 4
          · rw [d, upd_s]; exact rfl
          · rw [upd_o d]; first | exact hd i (by omega) | (exfalso; omega)
        obtain ⟨U8, h, hK_U8, v39_0', n39_0', e39_0', hst', v39_3', n39_3', e39_3', hd', w⟩ : ∃ U8 : HS, (RI ea U8 ns nj nm nt nr nq) ∧ (Kq (hvT [(39, 0), (39, 3)]) hNo hNo S U8) ∧ (vV U8 39 0) ∧ (mN U8 39 0 = 5) ∧ (gG U8 39 0 = q39_0) ∧ (∀ s, s < 5 → mA U8 39 0 s = rCnt (fun k => decide (mI A 247 k = nI s)) nt) ∧ (vV U8 39 3) ∧ (mN U8 39 3 = 19) ∧ (gG U8 39 3 = q39_3) ∧ (∀ i, i < 5 → mA U8 39 3 i = rDesk A ns nj nm nr nt (mI S 260 0) i) ∧ Wd s0 D cy U8 s.heap H locs := ⟨_, h, hK, v39_0, n39_0, e39_0, hst, v39_3, n39_3, e39_3, hd, w⟩
        clear v39_0 n39_0 e39_0 hst v39_3 n39_3 e39_3 hd
        have v39_0 := v39_0'; clear v39_0'
        have n39_0 := n39_0'; clear n39_0'
        have e39_0 := e39_0'; clear e39_0'
        have hst := hst'; clear hst'
        have v39_3 := v39_3'; clear v39_3'
        have n39_3 := n39_3'; clear n39_3'
        have e39_3 := e39_3'; clear e39_3'
        have hd := hd'; clear hd'
        have hK := hK_U8
        refine lv_dup hx hb dX16_deskNow_167 rfl ?_
        refine lv_iconst (v := 5) hx hb dX16_deskNow_168 (by decide) ?_
        refine lv_aload_n hx hb dX16_deskNow_169 rfl (lv_at hl 0 rfl) ?_
        refine rE0 ((rfl).trans ((hK_U8.G (t := 16) (i := 0) rfl)).symm) ?_
        refine g_16_8 (S := U8) (x := (some (gG U8 17 8))) X w h.v wF_X16_23 (h.f_mo) dX16_deskNow_170 ?_
        refine cF (S := U8) (t := 17) (nA := 0) (As := []) (rest := [.int 5, .ref (gG (sArr T12 39 3 q39_3 19) 39 3), .ref (gG (sArr T12 39 3 q39_3 19) 39 3)]) X w hl h.l_mo.1 (m_size G U8 ea 8 nm h.l_mo) wY_Jx4a65c_size_8abf5 wM_X16_73 wIn_Jx4a65c_size_8abf5 wSe_Jx4a65c_Jx4a65c_size_8abf5_of_java_util_List_size___I wI_Jx4a65c fw_size (by decide) rfl (by decide +kernel) rfl rfl dX16_deskNow_173 ⟨by decide, by decide⟩ (Nat.le_of_ble_eq_true rfl) (⟨Nat.le_of_ble_eq_true rfl, Nat.le_of_ble_eq_true rfl⟩) (fun v9 S1 H locs hp w => ?_)
        obtain ⟨rfl, rfl⟩ := hp
        refine rE2 ((show gG (sArr T12 39 3 q39_3 19) 39 3 = q39_3 from rfl).trans e39_3.symm) ?_
        refine aStI (S := U8) (t := 39) X w v39_3 (by decide) rfl rfl (by rw [n39_3]; unfold vp_in; decide) dX16_deskNow_178 (fun H locs w => ?_)
        have h : RI ea (sA U8 39 3 (upd (mA U8 39 3) (5 : Int32).toNatClampNeg (nI nm))) ns nj nm nt nr nq := h.stA (by decide)
        have hK : Kq (hvT [(39, 0), (39, 3)]) hNo hNo S (sA U8 39 3 (upd (mA U8 39 3) (5 : Int32).toNatClampNeg (nI nm))) := hK.sA rfl
        have hd : ∀ i, i < 6 → mA (sA U8 39 3 (upd (mA U8 39 3) (5 : Int32).toNatClampNeg (nI nm))) 39 3 i = rDesk A ns nj nm nr nt (mI S 260 0) i := fun i hi => by
          rw [show mA (sA U8 39 3 (upd (mA U8 39 3) (5 : Int32).toNatClampNeg (nI nm))) 39 3 = upd (mA U8 39 3) (5 : Int32).toNatClampNeg (nI nm) from sA_s, show (5 : Int32).toNatClampNeg = 5 by decide]
          by_cases d : i = 5
          · rw [d, upd_s]; exact rfl
          · rw [upd_o d]; first | exact hd i (by omega) | (exfalso; omega)
        obtain ⟨U10, h, hK_U10, v39_0', n39_0', e39_0', hst', v39_3', n39_3', e39_3', hd', w⟩ : ∃ U10 : HS, (RI ea U10 ns nj nm nt nr nq) ∧ (Kq (hvT [(39, 0), (39, 3)]) hNo hNo S U10) ∧ (vV U10 39 0) ∧ (mN U10 39 0 = 5) ∧ (gG U10 39 0 = q39_0) ∧ (∀ s, s < 5 → mA U10 39 0 s = rCnt (fun k => decide (mI A 247 k = nI s)) nt) ∧ (vV U10 39 3) ∧ (mN U10 39 3 = 19) ∧ (gG U10 39 3 = q39_3) ∧ (∀ i, i < 6 → mA U10 39 3 i = rDesk A ns nj nm nr nt (mI S 260 0) i) ∧ Wd s0 D cy U10 s.heap H locs := ⟨_, h, hK, v39_0, n39_0, e39_0, hst, v39_3, n39_3, e39_3, hd, w⟩
        clear v39_0 n39_0 e39_0 hst v39_3 n39_3 e39_3 hd
        have v39_0 := v39_0'; clear v39_0'
        have n39_0 := n39_0'; clear n39_0'
        have e39_0 := e39_0'; clear e39_0'
        have hst := hst'; clear hst'
        have v39_3 := v39_3'; clear v39_3'
        have n39_3 := n39_3'; clear n39_3'
        have e39_3 := e39_3'; clear e39_3'
        have hd := hd'; clear hd'
        have hK := hK_U10
        refine lv_dup hx hb dX16_deskNow_179 rfl ?_
        refine lv_bipush (v := 6) hx hb dX16_deskNow_180 (by decide) ?_
        refine lv_aload_n hx hb dX16_deskNow_182 rfl (lv_at hl 0 rfl) ?_
        refine rE0 ((rfl).trans ((hK_U10.G (t := 16) (i := 0) rfl)).symm) ?_
        refine g_16_9 (S := U10) (x := (some (gG U10 17 9))) X w h.v wF_X16_26 (h.f_ta) dX16_deskNow_183 ?_
        refine cF (S := U10) (t := 17) (nA := 0) (As := []) (rest := [.int 6, .ref (gG (sArr T12 39 3 q39_3 19) 39 3), .ref (gG (sArr T12 39 3 q39_3 19) 39 3)]) X w hl h.l_ta.1 (m_size G U10 ea 9 nt h.l_ta) wY_Jx4a65c_size_8abf5 wM_X16_73 wIn_Jx4a65c_size_8abf5 wSe_Jx4a65c_Jx4a65c_size_8abf5_of_java_util_List_size___I wI_Jx4a65c fw_size (by decide) rfl (by decide +kernel) rfl rfl dX16_deskNow_186 ⟨by decide, by decide⟩ (Nat.le_of_ble_eq_true rfl) (⟨Nat.le_of_ble_eq_true rfl, Nat.le_of_ble_eq_true rfl⟩) (fun v11 S1 H locs hp w => ?_)
        obtain ⟨rfl, rfl⟩ := hp
        refine rE2 ((show gG (sArr T12 39 3 q39_3 19) 39 3 = q39_3 from rfl).trans e39_3.symm) ?_
        refine aStI (S := U10) (t := 39) X w v39_3 (by decide) rfl rfl (by rw [n39_3]; unfold vp_in; decide) dX16_deskNow_191 (fun H locs w => ?_)
        have h : RI ea (sA U10 39 3 (upd (mA U10 39 3) (6 : Int32).toNatClampNeg (nI nt))) ns nj nm nt nr nq := h.stA (by decide)
        have hK : Kq (hvT [(39, 0), (39, 3)]) hNo hNo S (sA U10 39 3 (upd (mA U10 39 3) (6 : Int32).toNatClampNeg (nI nt))) := hK.sA rfl
        have hd : ∀ i, i < 7 → mA (sA U10 39 3 (upd (mA U10 39 3) (6 : Int32).toNatClampNeg (nI nt))) 39 3 i = rDesk A ns nj nm nr nt (mI S 260 0) i := fun i hi => by
          rw [show mA (sA U10 39 3 (upd (mA U10 39 3) (6 : Int32).toNatClampNeg (nI nt))) 39 3 = upd (mA U10 39 3) (6 : Int32).toNatClampNeg (nI nt) from sA_s, show (6 : Int32).toNatClampNeg = 6 by decide]
          by_cases d : i = 6
          · rw [d, upd_s]; exact rfl
          · rw [upd_o d]; first | exact hd i (by omega) | (exfalso; omega)
        obtain ⟨U12, h, hK_U12, v39_0', n39_0', e39_0', hst', v39_3', n39_3', e39_3', hd', w⟩ : ∃ U12 : HS, (RI ea U12 ns nj nm nt nr nq) ∧ (Kq (hvT [(39, 0), (39, 3)]) hNo hNo S U12) ∧ (vV U12 39 0) ∧ (mN U12 39 0 = 5) ∧ (gG U12 39 0 = q39_0) ∧ (∀ s, s < 5 → mA U12 39 0 s = rCnt (fun k => decide (mI A 247 k = nI s)) nt) ∧ (vV U12 39 3) ∧ (mN U12 39 3 = 19) ∧ (gG U12 39 3 = q39_3) ∧ (∀ i, i < 7 → mA U12 39 3 i = rDesk A ns nj nm nr nt (mI S 260 0) i) ∧ Wd s0 D cy U12 s.heap H locs := ⟨_, h, hK, v39_0, n39_0, e39_0, hst, v39_3, n39_3, e39_3, hd, w⟩
        clear v39_0 n39_0 e39_0 hst v39_3 n39_3 e39_3 hd
        have v39_0 := v39_0'; clear v39_0'
        have n39_0 := n39_0'; clear n39_0'
        have e39_0 := e39_0'; clear e39_0'
        have hst := hst'; clear hst'
        have v39_3 := v39_3'; clear v39_3'
        have n39_3 := n39_3'; clear n39_3'
        have e39_3 := e39_3'; clear e39_3'
        have hd := hd'; clear hd'
        have hK := hK_U12
        refine lv_dup hx hb dX16_deskNow_192 rfl ?_
        refine lv_bipush (v := 7) hx hb dX16_deskNow_193 (by decide) ?_
        refine lv_iload_n hx hb dX16_deskNow_195 rfl (lv_at hl 3 rfl) ?_
        refine rE2 ((show gG (sArr T12 39 3 q39_3 19) 39 3 = q39_3 from rfl).trans e39_3.symm) ?_
        refine aStI (S := U12) (t := 39) X w v39_3 (by decide) rfl rfl (by rw [n39_3]; unfold vp_in; decide) dX16_deskNow_196 (fun H locs w => ?_)
        have h : RI ea (sA U12 39 3 (upd (mA U12 39 3) (7 : Int32).toNatClampNeg u3)) ns nj nm nt nr nq := h.stA (by decide)
        have hK : Kq (hvT [(39, 0), (39, 3)]) hNo hNo S (sA U12 39 3 (upd (mA U12 39 3) (7 : Int32).toNatClampNeg u3)) := hK.sA rfl
        have hd : ∀ i, i < 8 → mA (sA U12 39 3 (upd (mA U12 39 3) (7 : Int32).toNatClampNeg u3)) 39 3 i = rDesk A ns nj nm nr nt (mI S 260 0) i := fun i hi => by
          rw [show mA (sA U12 39 3 (upd (mA U12 39 3) (7 : Int32).toNatClampNeg u3)) 39 3 = upd (mA U12 39 3) (7 : Int32).toNatClampNeg u3 from sA_s, show (7 : Int32).toNatClampNeg = 7 by decide]
          by_cases d : i = 7
          · rw [d, upd_s]; exact h3.trans (by rw [show nt = k12 by omega]; rfl)
          · rw [upd_o d]; first | exact hd i (by omega) | (exfalso; omega)
        obtain ⟨U13, h, hK_U13, v39_0', n39_0', e39_0', hst', v39_3', n39_3', e39_3', hd', w⟩ : ∃ U13 : HS, (RI ea U13 ns nj nm nt nr nq) ∧ (Kq (hvT [(39, 0), (39, 3)]) hNo hNo S U13) ∧ (vV U13 39 0) ∧ (mN U13 39 0 = 5) ∧ (gG U13 39 0 = q39_0) ∧ (∀ s, s < 5 → mA U13 39 0 s = rCnt (fun k => decide (mI A 247 k = nI s)) nt) ∧ (vV U13 39 3) ∧ (mN U13 39 3 = 19) ∧ (gG U13 39 3 = q39_3) ∧ (∀ i, i < 8 → mA U13 39 3 i = rDesk A ns nj nm nr nt (mI S 260 0) i) ∧ Wd s0 D cy U13 s.heap H locs := ⟨_, h, hK, v39_0, n39_0, e39_0, hst, v39_3, n39_3, e39_3, hd, w⟩
        clear v39_0 n39_0 e39_0 hst v39_3 n39_3 e39_3 hd
        have v39_0 := v39_0'; clear v39_0'
        have n39_0 := n39_0'; clear n39_0'
        have e39_0 := e39_0'; clear e39_0'
        have hst := hst'; clear hst'
        have v39_3 := v39_3'; clear v39_3'
        have n39_3 := n39_3'; clear n39_3'
        have e39_3 := e39_3'; clear e39_3'
        have hd := hd'; clear hd'
        have hK := hK_U13
        refine lv_dup hx hb dX16_deskNow_197 rfl ?_
        refine lv_bipush (v := 8) hx hb dX16_deskNow_198 (by decide) ?_
        refine lv_aload_n hx hb dX16_deskNow_200 rfl (lv_at hl 2 rfl) ?_
        refine lv_iconst (v := 0) hx hb dX16_deskNow_201 (by decide) ?_
        refine rE1 ((show gG (sArr S 39 0 q39_0 5) 39 0 = q39_0 from rfl).trans e39_0.symm) ?_
        refine aLdI (S := U13) (t := 39) (v := mA U13 39 0 (0 : Int32).toNatClampNeg) X w v39_0 (by decide) rfl rfl (by rw [n39_0]; unfold vp_in; decide) rfl dX16_deskNow_202 ?_
        refine lv_topi (fun z14 ez14 => ?_)
        refine rE2 ((show gG (sArr T12 39 3 q39_3 19) 39 3 = q39_3 from rfl).trans e39_3.symm) ?_
        refine aStI (S := U13) (t := 39) X w v39_3 (by decide) rfl rfl (by rw [n39_3]; unfold vp_in; decide) dX16_deskNow_203 (fun H locs w => ?_)
        have h : RI ea (sA U13 39 3 (upd (mA U13 39 3) (8 : Int32).toNatClampNeg z14)) ns nj nm nt nr nq := h.stA (by decide)
        have hK : Kq (hvT [(39, 0), (39, 3)]) hNo hNo S (sA U13 39 3 (upd (mA U13 39 3) (8 : Int32).toNatClampNeg z14)) := hK.sA rfl
        have hd : ∀ i, i < 9 → mA (sA U13 39 3 (upd (mA U13 39 3) (8 : Int32).toNatClampNeg z14)) 39 3 i = rDesk A ns nj nm nr nt (mI S 260 0) i := fun i hi => by
          rw [show mA (sA U13 39 3 (upd (mA U13 39 3) (8 : Int32).toNatClampNeg z14)) 39 3 = upd (mA U13 39 3) (8 : Int32).toNatClampNeg z14 from sA_s, show (8 : Int32).toNatClampNeg = 8 by decide]
          by_cases d : i = 8
          · rw [d, upd_s]; exact ez14.trans (hst 0 (by decide))
          · rw [upd_o d]; first | exact hd i (by omega) | (exfalso; omega)
        obtain ⟨U15, h, hK_U15, v39_0', n39_0', e39_0', hst', v39_3', n39_3', e39_3', hd', w⟩ : ∃ U15 : HS, (RI ea U15 ns nj nm nt nr nq) ∧ (Kq (hvT [(39, 0), (39, 3)]) hNo hNo S U15) ∧ (vV U15 39 0) ∧ (mN U15 39 0 = 5) ∧ (gG U15 39 0 = q39_0) ∧ (∀ s, s < 5 → mA U15 39 0 s = rCnt (fun k => decide (mI A 247 k = nI s)) nt) ∧ (vV U15 39 3) ∧ (mN U15 39 3 = 19) ∧ (gG U15 39 3 = q39_3) ∧ (∀ i, i < 9 → mA U15 39 3 i = rDesk A ns nj nm nr nt (mI S 260 0) i) ∧ Wd s0 D cy U15 s.heap H locs := ⟨_, h, hK, v39_0, n39_0, e39_0, hst, v39_3, n39_3, e39_3, hd, w⟩
        clear v39_0 n39_0 e39_0 hst v39_3 n39_3 e39_3 hd
        have v39_0 := v39_0'; clear v39_0'
        have n39_0 := n39_0'; clear n39_0'
        have e39_0 := e39_0'; clear e39_0'
        have hst := hst'; clear hst'
        have v39_3 := v39_3'; clear v39_3'
        have n39_3 := n39_3'; clear n39_3'
        have e39_3 := e39_3'; clear e39_3'
        have hd := hd'; clear hd'
        have hK := hK_U15
        refine lv_dup hx hb dX16_deskNow_204 rfl ?_
        refine lv_bipush (v := 9) hx hb dX16_deskNow_205 (by decide) ?_
        refine lv_aload_n hx hb dX16_deskNow_207 rfl (lv_at hl 2 rfl) ?_
        refine lv_iconst (v := 1) hx hb dX16_deskNow_208 (by decide) ?_
        refine rE1 ((show gG (sArr S 39 0 q39_0 5) 39 0 = q39_0 from rfl).trans e39_0.symm) ?_
        refine aLdI (S := U15) (t := 39) (v := mA U15 39 0 (1 : Int32).toNatClampNeg) X w v39_0 (by decide) rfl rfl (by rw [n39_0]; unfold vp_in; decide) rfl dX16_deskNow_209 ?_
        refine lv_topi (fun z16 ez16 => ?_)
        refine rE2 ((show gG (sArr T12 39 3 q39_3 19) 39 3 = q39_3 from rfl).trans e39_3.symm) ?_
        refine aStI (S := U15) (t := 39) X w v39_3 (by decide) rfl rfl (by rw [n39_3]; unfold vp_in; decide) dX16_deskNow_210 (fun H locs w => ?_)
        have h : RI ea (sA U15 39 3 (upd (mA U15 39 3) (9 : Int32).toNatClampNeg z16)) ns nj nm nt nr nq := h.stA (by decide)
        have hK : Kq (hvT [(39, 0), (39, 3)]) hNo hNo S (sA U15 39 3 (upd (mA U15 39 3) (9 : Int32).toNatClampNeg z16)) := hK.sA rfl
        have hd : ∀ i, i < 10 → mA (sA U15 39 3 (upd (mA U15 39 3) (9 : Int32).toNatClampNeg z16)) 39 3 i = rDesk A ns nj nm nr nt (mI S 260 0) i := fun i hi => by
          rw [show mA (sA U15 39 3 (upd (mA U15 39 3) (9 : Int32).toNatClampNeg z16)) 39 3 = upd (mA U15 39 3) (9 : Int32).toNatClampNeg z16 from sA_s, show (9 : Int32).toNatClampNeg = 9 by decide]
          by_cases d : i = 9
          · rw [d, upd_s]; exact ez16.trans (hst 1 (by decide))
          · rw [upd_o d]; first | exact hd i (by omega) | (exfalso; omega)
        obtain ⟨U17, h, hK_U17, v39_0', n39_0', e39_0', hst', v39_3', n39_3', e39_3', hd', w⟩ : ∃ U17 : HS, (RI ea U17 ns nj nm nt nr nq) ∧ (Kq (hvT [(39, 0), (39, 3)]) hNo hNo S U17) ∧ (vV U17 39 0) ∧ (mN U17 39 0 = 5) ∧ (gG U17 39 0 = q39_0) ∧ (∀ s, s < 5 → mA U17 39 0 s = rCnt (fun k => decide (mI A 247 k = nI s)) nt) ∧ (vV U17 39 3) ∧ (mN U17 39 3 = 19) ∧ (gG U17 39 3 = q39_3) ∧ (∀ i, i < 10 → mA U17 39 3 i = rDesk A ns nj nm nr nt (mI S 260 0) i) ∧ Wd s0 D cy U17 s.heap H locs := ⟨_, h, hK, v39_0, n39_0, e39_0, hst, v39_3, n39_3, e39_3, hd, w⟩
        clear v39_0 n39_0 e39_0 hst v39_3 n39_3 e39_3 hd
        have v39_0 := v39_0'; clear v39_0'
        have n39_0 := n39_0'; clear n39_0'
        have e39_0 := e39_0'; clear e39_0'
        have hst := hst'; clear hst'
        have v39_3 := v39_3'; clear v39_3'
        have n39_3 := n39_3'; clear n39_3'
        have e39_3 := e39_3'; clear e39_3'
        have hd := hd'; clear hd'
        have hK := hK_U17
        refine lv_dup hx hb dX16_deskNow_211 rfl ?_
        refine lv_bipush (v := 10) hx hb dX16_deskNow_212 (by decide) ?_
        refine lv_aload_n hx hb dX16_deskNow_214 rfl (lv_at hl 2 rfl) ?_
        refine lv_iconst (v := 2) hx hb dX16_deskNow_215 (by decide) ?_
        refine rE1 ((show gG (sArr S 39 0 q39_0 5) 39 0 = q39_0 from rfl).trans e39_0.symm) ?_
        refine aLdI (S := U17) (t := 39) (v := mA U17 39 0 (2 : Int32).toNatClampNeg) X w v39_0 (by decide) rfl rfl (by rw [n39_0]; unfold vp_in; decide) rfl dX16_deskNow_216 ?_
        refine lv_topi (fun z18 ez18 => ?_)
        refine rE2 ((show gG (sArr T12 39 3 q39_3 19) 39 3 = q39_3 from rfl).trans e39_3.symm) ?_
        refine aStI (S := U17) (t := 39) X w v39_3 (by decide) rfl rfl (by rw [n39_3]; unfold vp_in; decide) dX16_deskNow_217 (fun H locs w => ?_)
        have h : RI ea (sA U17 39 3 (upd (mA U17 39 3) (10 : Int32).toNatClampNeg z18)) ns nj nm nt nr nq := h.stA (by decide)
        have hK : Kq (hvT [(39, 0), (39, 3)]) hNo hNo S (sA U17 39 3 (upd (mA U17 39 3) (10 : Int32).toNatClampNeg z18)) := hK.sA rfl
        have hd : ∀ i, i < 11 → mA (sA U17 39 3 (upd (mA U17 39 3) (10 : Int32).toNatClampNeg z18)) 39 3 i = rDesk A ns nj nm nr nt (mI S 260 0) i := fun i hi => by
          rw [show mA (sA U17 39 3 (upd (mA U17 39 3) (10 : Int32).toNatClampNeg z18)) 39 3 = upd (mA U17 39 3) (10 : Int32).toNatClampNeg z18 from sA_s, show (10 : Int32).toNatClampNeg = 10 by decide]
          by_cases d : i = 10
          · rw [d, upd_s]; exact ez18.trans (hst 2 (by decide))
          · rw [upd_o d]; first | exact hd i (by omega) | (exfalso; omega)
        obtain ⟨U19, h, hK_U19, v39_0', n39_0', e39_0', hst', v39_3', n39_3', e39_3', hd', w⟩ : ∃ U19 : HS, (RI ea U19 ns nj nm nt nr nq) ∧ (Kq (hvT [(39, 0), (39, 3)]) hNo hNo S U19) ∧ (vV U19 39 0) ∧ (mN U19 39 0 = 5) ∧ (gG U19 39 0 = q39_0) ∧ (∀ s, s < 5 → mA U19 39 0 s = rCnt (fun k => decide (mI A 247 k = nI s)) nt) ∧ (vV U19 39 3) ∧ (mN U19 39 3 = 19) ∧ (gG U19 39 3 = q39_3) ∧ (∀ i, i < 11 → mA U19 39 3 i = rDesk A ns nj nm nr nt (mI S 260 0) i) ∧ Wd s0 D cy U19 s.heap H locs := ⟨_, h, hK, v39_0, n39_0, e39_0, hst, v39_3, n39_3, e39_3, hd, w⟩
        clear v39_0 n39_0 e39_0 hst v39_3 n39_3 e39_3 hd
        have v39_0 := v39_0'; clear v39_0'
        have n39_0 := n39_0'; clear n39_0'
        have e39_0 := e39_0'; clear e39_0'
        have hst := hst'; clear hst'
        have v39_3 := v39_3'; clear v39_3'
        have n39_3 := n39_3'; clear n39_3'
        have e39_3 := e39_3'; clear e39_3'
        have hd := hd'; clear hd'
        have hK := hK_U19
        refine lv_dup hx hb dX16_deskNow_218 rfl ?_
        refine lv_bipush (v := 11) hx hb dX16_deskNow_219 (by decide) ?_
        refine lv_aload_n hx hb dX16_deskNow_221 rfl (lv_at hl 2 rfl) ?_
        refine lv_iconst (v := 3) hx hb dX16_deskNow_222 (by decide) ?_
        refine rE1 ((show gG (sArr S 39 0 q39_0 5) 39 0 = q39_0 from rfl).trans e39_0.symm) ?_
        refine aLdI (S := U19) (t := 39) (v := mA U19 39 0 (3 : Int32).toNatClampNeg) X w v39_0 (by decide) rfl rfl (by rw [n39_0]; unfold vp_in; decide) rfl dX16_deskNow_223 ?_
        refine lv_topi (fun z20 ez20 => ?_)
        refine rE2 ((show gG (sArr T12 39 3 q39_3 19) 39 3 = q39_3 from rfl).trans e39_3.symm) ?_
        refine aStI (S := U19) (t := 39) X w v39_3 (by decide) rfl rfl (by rw [n39_3]; unfold vp_in; decide) dX16_deskNow_224 (fun H locs w => ?_)
        have h : RI ea (sA U19 39 3 (upd (mA U19 39 3) (11 : Int32).toNatClampNeg z20)) ns nj nm nt nr nq := h.stA (by decide)
        have hK : Kq (hvT [(39, 0), (39, 3)]) hNo hNo S (sA U19 39 3 (upd (mA U19 39 3) (11 : Int32).toNatClampNeg z20)) := hK.sA rfl
        have hd : ∀ i, i < 12 → mA (sA U19 39 3 (upd (mA U19 39 3) (11 : Int32).toNatClampNeg z20)) 39 3 i = rDesk A ns nj nm nr nt (mI S 260 0) i := fun i hi => by
          rw [show mA (sA U19 39 3 (upd (mA U19 39 3) (11 : Int32).toNatClampNeg z20)) 39 3 = upd (mA U19 39 3) (11 : Int32).toNatClampNeg z20 from sA_s, show (11 : Int32).toNatClampNeg = 11 by decide]
          by_cases d : i = 11
          · rw [d, upd_s]; exact ez20.trans (hst 3 (by decide))
          · rw [upd_o d]; first | exact hd i (by omega) | (exfalso; omega)
        obtain ⟨U21, h, hK_U21, v39_0', n39_0', e39_0', hst', v39_3', n39_3', e39_3', hd', w⟩ : ∃ U21 : HS, (RI ea U21 ns nj nm nt nr nq) ∧ (Kq (hvT [(39, 0), (39, 3)]) hNo hNo S U21) ∧ (vV U21 39 0) ∧ (mN U21 39 0 = 5) ∧ (gG U21 39 0 = q39_0) ∧ (∀ s, s < 5 → mA U21 39 0 s = rCnt (fun k => decide (mI A 247 k = nI s)) nt) ∧ (vV U21 39 3) ∧ (mN U21 39 3 = 19) ∧ (gG U21 39 3 = q39_3) ∧ (∀ i, i < 12 → mA U21 39 3 i = rDesk A ns nj nm nr nt (mI S 260 0) i) ∧ Wd s0 D cy U21 s.heap H locs := ⟨_, h, hK, v39_0, n39_0, e39_0, hst, v39_3, n39_3, e39_3, hd, w⟩
        clear v39_0 n39_0 e39_0 hst v39_3 n39_3 e39_3 hd
        have v39_0 := v39_0'; clear v39_0'
        have n39_0 := n39_0'; clear n39_0'
        have e39_0 := e39_0'; clear e39_0'
        have hst := hst'; clear hst'
        have v39_3 := v39_3'; clear v39_3'
        have n39_3 := n39_3'; clear n39_3'
        have e39_3 := e39_3'; clear e39_3'
        have hd := hd'; clear hd'
        have hK := hK_U21
        refine lv_dup hx hb dX16_deskNow_225 rfl ?_
        refine lv_bipush (v := 12) hx hb dX16_deskNow_226 (by decide) ?_
        refine lv_aload_n hx hb dX16_deskNow_228 rfl (lv_at hl 2 rfl) ?_
        refine lv_iconst (v := 4) hx hb dX16_deskNow_229 (by decide) ?_
        refine rE1 ((show gG (sArr S 39 0 q39_0 5) 39 0 = q39_0 from rfl).trans e39_0.symm) ?_
        refine aLdI (S := U21) (t := 39) (v := mA U21 39 0 (4 : Int32).toNatClampNeg) X w v39_0 (by decide) rfl rfl (by rw [n39_0]; unfold vp_in; decide) rfl dX16_deskNow_230 ?_
        refine lv_topi (fun z22 ez22 => ?_)
        refine rE2 ((show gG (sArr T12 39 3 q39_3 19) 39 3 = q39_3 from rfl).trans e39_3.symm) ?_
        refine aStI (S := U21) (t := 39) X w v39_3 (by decide) rfl rfl (by rw [n39_3]; unfold vp_in; decide) dX16_deskNow_231 (fun H locs w => ?_)
        have h : RI ea (sA U21 39 3 (upd (mA U21 39 3) (12 : Int32).toNatClampNeg z22)) ns nj nm nt nr nq := h.stA (by decide)
        have hK : Kq (hvT [(39, 0), (39, 3)]) hNo hNo S (sA U21 39 3 (upd (mA U21 39 3) (12 : Int32).toNatClampNeg z22)) := hK.sA rfl
        have hd : ∀ i, i < 13 → mA (sA U21 39 3 (upd (mA U21 39 3) (12 : Int32).toNatClampNeg z22)) 39 3 i = rDesk A ns nj nm nr nt (mI S 260 0) i := fun i hi => by
          rw [show mA (sA U21 39 3 (upd (mA U21 39 3) (12 : Int32).toNatClampNeg z22)) 39 3 = upd (mA U21 39 3) (12 : Int32).toNatClampNeg z22 from sA_s, show (12 : Int32).toNatClampNeg = 12 by decide]
          by_cases d : i = 12
          · rw [d, upd_s]; exact ez22.trans (hst 4 (by decide))
          · rw [upd_o d]; first | exact hd i (by omega) | (exfalso; omega)
        obtain ⟨U23, h, hK_U23, v39_0', n39_0', e39_0', hst', v39_3', n39_3', e39_3', hd', w⟩ : ∃ U23 : HS, (RI ea U23 ns nj nm nt nr nq) ∧ (Kq (hvT [(39, 0), (39, 3)]) hNo hNo S U23) ∧ (vV U23 39 0) ∧ (mN U23 39 0 = 5) ∧ (gG U23 39 0 = q39_0) ∧ (∀ s, s < 5 → mA U23 39 0 s = rCnt (fun k => decide (mI A 247 k = nI s)) nt) ∧ (vV U23 39 3) ∧ (mN U23 39 3 = 19) ∧ (gG U23 39 3 = q39_3) ∧ (∀ i, i < 13 → mA U23 39 3 i = rDesk A ns nj nm nr nt (mI S 260 0) i) ∧ Wd s0 D cy U23 s.heap H locs := ⟨_, h, hK, v39_0, n39_0, e39_0, hst, v39_3, n39_3, e39_3, hd, w⟩
        clear v39_0 n39_0 e39_0 hst v39_3 n39_3 e39_3 hd
        have v39_0 := v39_0'; clear v39_0'
        have n39_0 := n39_0'; clear n39_0'
        have e39_0 := e39_0'; clear e39_0'
        have hst := hst'; clear hst'
        have v39_3 := v39_3'; clear v39_3'
        have n39_3 := n39_3'; clear n39_3'
        have e39_3 := e39_3'; clear e39_3'
        have hd := hd'; clear hd'
        have hK := hK_U23
        refine lv_dup hx hb dX16_deskNow_232 rfl ?_
        refine lv_bipush (v := 13) hx hb dX16_deskNow_233 (by decide) ?_
        refine lv_aload_n hx hb dX16_deskNow_235 rfl (lv_at hl 0 rfl) ?_
        refine rE0 ((rfl).trans ((hK_U23.G (t := 16) (i := 0) rfl)).symm) ?_
        refine g_16_2 (S := U23) (x := (mI A 258 0)) X w h.v wF_X16_7 ((hK.I (f := 258) (i := 0) rfl).trans (hF.1 258 rfl 0)) dX16_deskNow_236 ?_
        refine rE2 ((show gG (sArr T12 39 3 q39_3 19) 39 3 = q39_3 from rfl).trans e39_3.symm) ?_
        refine aStI (S := U23) (t := 39) X w v39_3 (by decide) rfl rfl (by rw [n39_3]; unfold vp_in; decide) dX16_deskNow_239 (fun H locs w => ?_)
        have h : RI ea (sA U23 39 3 (upd (mA U23 39 3) (13 : Int32).toNatClampNeg (mI A 258 0))) ns nj nm nt nr nq := h.stA (by decide)
        have hK : Kq (hvT [(39, 0), (39, 3)]) hNo hNo S (sA U23 39 3 (upd (mA U23 39 3) (13 : Int32).toNatClampNeg (mI A 258 0))) := hK.sA rfl
        have hd : ∀ i, i < 14 → mA (sA U23 39 3 (upd (mA U23 39 3) (13 : Int32).toNatClampNeg (mI A 258 0))) 39 3 i = rDesk A ns nj nm nr nt (mI S 260 0) i := fun i hi => by
          rw [show mA (sA U23 39 3 (upd (mA U23 39 3) (13 : Int32).toNatClampNeg (mI A 258 0))) 39 3 = upd (mA U23 39 3) (13 : Int32).toNatClampNeg (mI A 258 0) from sA_s, show (13 : Int32).toNatClampNeg = 13 by decide]
          by_cases d : i = 13
          · rw [d, upd_s]; exact rfl
          · rw [upd_o d]; first | exact hd i (by omega) | (exfalso; omega)
        obtain ⟨U24, h, hK_U24, v39_0', n39_0', e39_0', hst', v39_3', n39_3', e39_3', hd', w⟩ : ∃ U24 : HS, (RI ea U24 ns nj nm nt nr nq) ∧ (Kq (hvT [(39, 0), (39, 3)]) hNo hNo S U24) ∧ (vV U24 39 0) ∧ (mN U24 39 0 = 5) ∧ (gG U24 39 0 = q39_0) ∧ (∀ s, s < 5 → mA U24 39 0 s = rCnt (fun k => decide (mI A 247 k = nI s)) nt) ∧ (vV U24 39 3) ∧ (mN U24 39 3 = 19) ∧ (gG U24 39 3 = q39_3) ∧ (∀ i, i < 14 → mA U24 39 3 i = rDesk A ns nj nm nr nt (mI S 260 0) i) ∧ Wd s0 D cy U24 s.heap H locs := ⟨_, h, hK, v39_0, n39_0, e39_0, hst, v39_3, n39_3, e39_3, hd, w⟩
        clear v39_0 n39_0 e39_0 hst v39_3 n39_3 e39_3 hd
        have v39_0 := v39_0'; clear v39_0'
        have n39_0 := n39_0'; clear n39_0'
        have e39_0 := e39_0'; clear e39_0'
        have hst := hst'; clear hst'
        have v39_3 := v39_3'; clear v39_3'
        have n39_3 := n39_3'; clear n39_3'
        have e39_3 := e39_3'; clear e39_3'
        have hd := hd'; clear hd'
        have hK := hK_U24
        refine lv_dup hx hb dX16_deskNow_240 rfl ?_
        refine lv_bipush (v := 14) hx hb dX16_deskNow_241 (by decide) ?_
        refine lv_aload_n hx hb dX16_deskNow_243 rfl (lv_at hl 0 rfl) ?_
        refine rE0 ((rfl).trans ((hK_U24.G (t := 16) (i := 0) rfl)).symm) ?_
        refine g_16_11 (S := U24) (x := (some (gG U24 17 11))) X w h.v wF_X16_32 (h.f_qu) dX16_deskNow_244 ?_
        refine cF (S := U24) (t := 17) (nA := 0) (As := []) (rest := [.int 14, .ref (gG (sArr T12 39 3 q39_3 19) 39 3), .ref (gG (sArr T12 39 3 q39_3 19) 39 3)]) X w hl h.l_qu.1 (m_size G U24 ea 11 nq h.l_qu) wY_Jx4a65c_size_8abf5 wM_X16_73 wIn_Jx4a65c_size_8abf5 wSe_Jx4a65c_Jx4a65c_size_8abf5_of_java_util_List_size___I wI_Jx4a65c fw_size (by decide) rfl (by decide +kernel) rfl rfl dX16_deskNow_247 ⟨by decide, by decide⟩ (Nat.le_of_ble_eq_true rfl) (⟨Nat.le_of_ble_eq_true rfl, Nat.le_of_ble_eq_true rfl⟩) (fun v25 S1 H locs hp w => ?_)
        obtain ⟨rfl, rfl⟩ := hp
        refine rE2 ((show gG (sArr T12 39 3 q39_3 19) 39 3 = q39_3 from rfl).trans e39_3.symm) ?_
        refine aStI (S := U24) (t := 39) X w v39_3 (by decide) rfl rfl (by rw [n39_3]; unfold vp_in; decide) dX16_deskNow_252 (fun H locs w => ?_)
        have h : RI ea (sA U24 39 3 (upd (mA U24 39 3) (14 : Int32).toNatClampNeg (nI nq))) ns nj nm nt nr nq := h.stA (by decide)
        have hK : Kq (hvT [(39, 0), (39, 3)]) hNo hNo S (sA U24 39 3 (upd (mA U24 39 3) (14 : Int32).toNatClampNeg (nI nq))) := hK.sA rfl
        have hd : ∀ i, i < 15 → mA (sA U24 39 3 (upd (mA U24 39 3) (14 : Int32).toNatClampNeg (nI nq))) 39 3 i = rDesk A ns nj nm nr nt (mI S 260 0) i := fun i hi => by
          rw [show mA (sA U24 39 3 (upd (mA U24 39 3) (14 : Int32).toNatClampNeg (nI nq))) 39 3 = upd (mA U24 39 3) (14 : Int32).toNatClampNeg (nI nq) from sA_s, show (14 : Int32).toNatClampNeg = 14 by decide]
          by_cases d : i = 14
          · rw [d, upd_s]; exact congrArg nI hF.2.2.1.symm
          · rw [upd_o d]; first | exact hd i (by omega) | (exfalso; omega)
        obtain ⟨U26, h, hK_U26, v39_0', n39_0', e39_0', hst', v39_3', n39_3', e39_3', hd', w⟩ : ∃ U26 : HS, (RI ea U26 ns nj nm nt nr nq) ∧ (Kq (hvT [(39, 0), (39, 3)]) hNo hNo S U26) ∧ (vV U26 39 0) ∧ (mN U26 39 0 = 5) ∧ (gG U26 39 0 = q39_0) ∧ (∀ s, s < 5 → mA U26 39 0 s = rCnt (fun k => decide (mI A 247 k = nI s)) nt) ∧ (vV U26 39 3) ∧ (mN U26 39 3 = 19) ∧ (gG U26 39 3 = q39_3) ∧ (∀ i, i < 15 → mA U26 39 3 i = rDesk A ns nj nm nr nt (mI S 260 0) i) ∧ Wd s0 D cy U26 s.heap H locs := ⟨_, h, hK, v39_0, n39_0, e39_0, hst, v39_3, n39_3, e39_3, hd, w⟩
        clear v39_0 n39_0 e39_0 hst v39_3 n39_3 e39_3 hd
        have v39_0 := v39_0'; clear v39_0'
        have n39_0 := n39_0'; clear n39_0'
        have e39_0 := e39_0'; clear e39_0'
        have hst := hst'; clear hst'
        have v39_3 := v39_3'; clear v39_3'
        have n39_3 := n39_3'; clear n39_3'
        have e39_3 := e39_3'; clear e39_3'
        have hd := hd'; clear hd'
        have hK := hK_U26
        refine lv_dup hx hb dX16_deskNow_253 rfl ?_
        refine lv_bipush (v := 15) hx hb dX16_deskNow_254 (by decide) ?_
        refine lv_iload hx hb dX16_deskNow_256 (lv_at hl 4 rfl) ?_
        refine rE2 ((show gG (sArr T12 39 3 q39_3 19) 39 3 = q39_3 from rfl).trans e39_3.symm) ?_
        refine aStI (S := U26) (t := 39) X w v39_3 (by decide) rfl rfl (by rw [n39_3]; unfold vp_in; decide) dX16_deskNow_258 (fun H locs w => ?_)
        have h : RI ea (sA U26 39 3 (upd (mA U26 39 3) (15 : Int32).toNatClampNeg u4)) ns nj nm nt nr nq := h.stA (by decide)
        have hK : Kq (hvT [(39, 0), (39, 3)]) hNo hNo S (sA U26 39 3 (upd (mA U26 39 3) (15 : Int32).toNatClampNeg u4)) := hK.sA rfl
        have hd : ∀ i, i < 16 → mA (sA U26 39 3 (upd (mA U26 39 3) (15 : Int32).toNatClampNeg u4)) 39 3 i = rDesk A ns nj nm nr nt (mI S 260 0) i := fun i hi => by
          rw [show mA (sA U26 39 3 (upd (mA U26 39 3) (15 : Int32).toNatClampNeg u4)) 39 3 = upd (mA U26 39 3) (15 : Int32).toNatClampNeg u4 from sA_s, show (15 : Int32).toNatClampNeg = 15 by decide]
          by_cases d : i = 15
          · rw [d, upd_s]; exact h4.trans (by rw [show nt = k12 by omega]; rfl)
          · rw [upd_o d]; first | exact hd i (by omega) | (exfalso; omega)
        obtain ⟨U27, h, hK_U27, v39_0', n39_0', e39_0', hst', v39_3', n39_3', e39_3', hd', w⟩ : ∃ U27 : HS, (RI ea U27 ns nj nm nt nr nq) ∧ (Kq (hvT [(39, 0), (39, 3)]) hNo hNo S U27) ∧ (vV U27 39 0) ∧ (mN U27 39 0 = 5) ∧ (gG U27 39 0 = q39_0) ∧ (∀ s, s < 5 → mA U27 39 0 s = rCnt (fun k => decide (mI A 247 k = nI s)) nt) ∧ (vV U27 39 3) ∧ (mN U27 39 3 = 19) ∧ (gG U27 39 3 = q39_3) ∧ (∀ i, i < 16 → mA U27 39 3 i = rDesk A ns nj nm nr nt (mI S 260 0) i) ∧ Wd s0 D cy U27 s.heap H locs := ⟨_, h, hK, v39_0, n39_0, e39_0, hst, v39_3, n39_3, e39_3, hd, w⟩
        clear v39_0 n39_0 e39_0 hst v39_3 n39_3 e39_3 hd
        have v39_0 := v39_0'; clear v39_0'
        have n39_0 := n39_0'; clear n39_0'
        have e39_0 := e39_0'; clear e39_0'
        have hst := hst'; clear hst'
        have v39_3 := v39_3'; clear v39_3'
        have n39_3 := n39_3'; clear n39_3'
        have e39_3 := e39_3'; clear e39_3'
        have hd := hd'; clear hd'
        have hK := hK_U27
        refine lv_dup hx hb dX16_deskNow_259 rfl ?_
        refine lv_bipush (v := 16) hx hb dX16_deskNow_260 (by decide) ?_
        refine lv_aload_n hx hb dX16_deskNow_262 rfl (lv_at hl 0 rfl) ?_
        refine rE0 ((rfl).trans ((hK_U27.G (t := 16) (i := 0) rfl)).symm) ?_
        refine g_16_10 (S := U27) (x := (some (gG U27 17 10))) X w h.v wF_X16_29 (h.f_re) dX16_deskNow_263 ?_
        refine cF (S := U27) (t := 17) (nA := 0) (As := []) (rest := [.int 16, .ref (gG (sArr T12 39 3 q39_3 19) 39 3), .ref (gG (sArr T12 39 3 q39_3 19) 39 3)]) X w hl h.l_re.1 (m_size G U27 ea 10 nr h.l_re) wY_Jx4a65c_size_8abf5 wM_X16_73 wIn_Jx4a65c_size_8abf5 wSe_Jx4a65c_Jx4a65c_size_8abf5_of_java_util_List_size___I wI_Jx4a65c fw_size (by decide) rfl (by decide +kernel) rfl rfl dX16_deskNow_266 ⟨by decide, by decide⟩ (Nat.le_of_ble_eq_true rfl) (⟨Nat.le_of_ble_eq_true rfl, Nat.le_of_ble_eq_true rfl⟩) (fun v28 S1 H locs hp w => ?_)
        obtain ⟨rfl, rfl⟩ := hp
        refine rE2 ((show gG (sArr T12 39 3 q39_3 19) 39 3 = q39_3 from rfl).trans e39_3.symm) ?_
        refine aStI (S := U27) (t := 39) X w v39_3 (by decide) rfl rfl (by rw [n39_3]; unfold vp_in; decide) dX16_deskNow_271 (fun H locs w => ?_)
        have h : RI ea (sA U27 39 3 (upd (mA U27 39 3) (16 : Int32).toNatClampNeg (nI nr))) ns nj nm nt nr nq := h.stA (by decide)
        have hK : Kq (hvT [(39, 0), (39, 3)]) hNo hNo S (sA U27 39 3 (upd (mA U27 39 3) (16 : Int32).toNatClampNeg (nI nr))) := hK.sA rfl
        have hd : ∀ i, i < 17 → mA (sA U27 39 3 (upd (mA U27 39 3) (16 : Int32).toNatClampNeg (nI nr))) 39 3 i = rDesk A ns nj nm nr nt (mI S 260 0) i := fun i hi => by
          rw [show mA (sA U27 39 3 (upd (mA U27 39 3) (16 : Int32).toNatClampNeg (nI nr))) 39 3 = upd (mA U27 39 3) (16 : Int32).toNatClampNeg (nI nr) from sA_s, show (16 : Int32).toNatClampNeg = 16 by decide]
          by_cases d : i = 16
          · rw [d, upd_s]; exact rfl
          · rw [upd_o d]; first | exact hd i (by omega) | (exfalso; omega)
        obtain ⟨U29, h, hK_U29, v39_0', n39_0', e39_0', hst', v39_3', n39_3', e39_3', hd', w⟩ : ∃ U29 : HS, (RI ea U29 ns nj nm nt nr nq) ∧ (Kq (hvT [(39, 0), (39, 3)]) hNo hNo S U29) ∧ (vV U29 39 0) ∧ (mN U29 39 0 = 5) ∧ (gG U29 39 0 = q39_0) ∧ (∀ s, s < 5 → mA U29 39 0 s = rCnt (fun k => decide (mI A 247 k = nI s)) nt) ∧ (vV U29 39 3) ∧ (mN U29 39 3 = 19) ∧ (gG U29 39 3 = q39_3) ∧ (∀ i, i < 17 → mA U29 39 3 i = rDesk A ns nj nm nr nt (mI S 260 0) i) ∧ Wd s0 D cy U29 s.heap H locs := ⟨_, h, hK, v39_0, n39_0, e39_0, hst, v39_3, n39_3, e39_3, hd, w⟩
        clear v39_0 n39_0 e39_0 hst v39_3 n39_3 e39_3 hd
        have v39_0 := v39_0'; clear v39_0'
        have n39_0 := n39_0'; clear n39_0'
        have e39_0 := e39_0'; clear e39_0'
        have hst := hst'; clear hst'
        have v39_3 := v39_3'; clear v39_3'
        have n39_3 := n39_3'; clear n39_3'
        have e39_3 := e39_3'; clear e39_3'
        have hd := hd'; clear hd'
        have hK := hK_U29
        refine lv_dup hx hb dX16_deskNow_272 rfl ?_
        refine lv_bipush (v := 17) hx hb dX16_deskNow_273 (by decide) ?_
        refine lv_aload_n hx hb dX16_deskNow_275 rfl (lv_at hl 0 rfl) ?_
        refine rE0 ((rfl).trans ((hK_U29.G (t := 16) (i := 0) rfl)).symm) ?_
        refine g_16_3 (S := U29) (x := (mI A 259 0)) X w h.v wF_X16_138 ((hK.I (f := 259) (i := 0) rfl).trans (hF.1 259 rfl 0)) dX16_deskNow_276 ?_
        refine rE2 ((show gG (sArr T12 39 3 q39_3 19) 39 3 = q39_3 from rfl).trans e39_3.symm) ?_
        refine aStI (S := U29) (t := 39) X w v39_3 (by decide) rfl rfl (by rw [n39_3]; unfold vp_in; decide) dX16_deskNow_279 (fun H locs w => ?_)
        have h : RI ea (sA U29 39 3 (upd (mA U29 39 3) (17 : Int32).toNatClampNeg (mI A 259 0))) ns nj nm nt nr nq := h.stA (by decide)
        have hK : Kq (hvT [(39, 0), (39, 3)]) hNo hNo S (sA U29 39 3 (upd (mA U29 39 3) (17 : Int32).toNatClampNeg (mI A 259 0))) := hK.sA rfl
        have hd : ∀ i, i < 18 → mA (sA U29 39 3 (upd (mA U29 39 3) (17 : Int32).toNatClampNeg (mI A 259 0))) 39 3 i = rDesk A ns nj nm nr nt (mI S 260 0) i := fun i hi => by
          rw [show mA (sA U29 39 3 (upd (mA U29 39 3) (17 : Int32).toNatClampNeg (mI A 259 0))) 39 3 = upd (mA U29 39 3) (17 : Int32).toNatClampNeg (mI A 259 0) from sA_s, show (17 : Int32).toNatClampNeg = 17 by decide]
          by_cases d : i = 17
          · rw [d, upd_s]; exact rfl
          · rw [upd_o d]; first | exact hd i (by omega) | (exfalso; omega)
        obtain ⟨U30, h, hK_U30, v39_0', n39_0', e39_0', hst', v39_3', n39_3', e39_3', hd', w⟩ : ∃ U30 : HS, (RI ea U30 ns nj nm nt nr nq) ∧ (Kq (hvT [(39, 0), (39, 3)]) hNo hNo S U30) ∧ (vV U30 39 0) ∧ (mN U30 39 0 = 5) ∧ (gG U30 39 0 = q39_0) ∧ (∀ s, s < 5 → mA U30 39 0 s = rCnt (fun k => decide (mI A 247 k = nI s)) nt) ∧ (vV U30 39 3) ∧ (mN U30 39 3 = 19) ∧ (gG U30 39 3 = q39_3) ∧ (∀ i, i < 18 → mA U30 39 3 i = rDesk A ns nj nm nr nt (mI S 260 0) i) ∧ Wd s0 D cy U30 s.heap H locs := ⟨_, h, hK, v39_0, n39_0, e39_0, hst, v39_3, n39_3, e39_3, hd, w⟩
        clear v39_0 n39_0 e39_0 hst v39_3 n39_3 e39_3 hd
        have v39_0 := v39_0'; clear v39_0'
        have n39_0 := n39_0'; clear n39_0'
        have e39_0 := e39_0'; clear e39_0'
        have hst := hst'; clear hst'
        have v39_3 := v39_3'; clear v39_3'
        have n39_3 := n39_3'; clear n39_3'
        have e39_3 := e39_3'; clear e39_3'
        have hd := hd'; clear hd'
        have hK := hK_U30
        refine lv_dup hx hb dX16_deskNow_280 rfl ?_
        refine lv_bipush (v := 18) hx hb dX16_deskNow_281 (by decide) ?_
        refine lv_aload_n hx hb dX16_deskNow_283 rfl (lv_at hl 0 rfl) ?_
        refine rE0 ((rfl).trans ((hK_U30.G (t := 16) (i := 0) rfl)).symm) ?_
        refine g_16_4 (S := U30) (x := (mI S 260 0)) X w h.v wF_X16_264 (hK.I (f := 260) (i := 0) rfl) dX16_deskNow_284 ?_
        refine rE2 ((show gG (sArr T12 39 3 q39_3 19) 39 3 = q39_3 from rfl).trans e39_3.symm) ?_
        refine aStI (S := U30) (t := 39) X w v39_3 (by decide) rfl rfl (by rw [n39_3]; unfold vp_in; decide) dX16_deskNow_287 (fun H locs w => ?_)
        have h : RI ea (sA U30 39 3 (upd (mA U30 39 3) (18 : Int32).toNatClampNeg (mI S 260 0))) ns nj nm nt nr nq := h.stA (by decide)
        have hK : Kq (hvT [(39, 0), (39, 3)]) hNo hNo S (sA U30 39 3 (upd (mA U30 39 3) (18 : Int32).toNatClampNeg (mI S 260 0))) := hK.sA rfl
        have hd : ∀ i, i < 19 → mA (sA U30 39 3 (upd (mA U30 39 3) (18 : Int32).toNatClampNeg (mI S 260 0))) 39 3 i = rDesk A ns nj nm nr nt (mI S 260 0) i := fun i hi => by
          rw [show mA (sA U30 39 3 (upd (mA U30 39 3) (18 : Int32).toNatClampNeg (mI S 260 0))) 39 3 = upd (mA U30 39 3) (18 : Int32).toNatClampNeg (mI S 260 0) from sA_s, show (18 : Int32).toNatClampNeg = 18 by decide]
          by_cases d : i = 18
          · rw [d, upd_s]; exact rfl
          · rw [upd_o d]; first | exact hd i (by omega) | (exfalso; omega)
        obtain ⟨U31, h, hK_U31, v39_0', n39_0', e39_0', hst', v39_3', n39_3', e39_3', hd', w⟩ : ∃ U31 : HS, (RI ea U31 ns nj nm nt nr nq) ∧ (Kq (hvT [(39, 0), (39, 3)]) hNo hNo S U31) ∧ (vV U31 39 0) ∧ (mN U31 39 0 = 5) ∧ (gG U31 39 0 = q39_0) ∧ (∀ s, s < 5 → mA U31 39 0 s = rCnt (fun k => decide (mI A 247 k = nI s)) nt) ∧ (vV U31 39 3) ∧ (mN U31 39 3 = 19) ∧ (gG U31 39 3 = q39_3) ∧ (∀ i, i < 19 → mA U31 39 3 i = rDesk A ns nj nm nr nt (mI S 260 0) i) ∧ Wd s0 D cy U31 s.heap H locs := ⟨_, h, hK, v39_0, n39_0, e39_0, hst, v39_3, n39_3, e39_3, hd, w⟩
        clear v39_0 n39_0 e39_0 hst v39_3 n39_3 e39_3 hd
        have v39_0 := v39_0'; clear v39_0'
        have n39_0 := n39_0'; clear n39_0'
        have e39_0 := e39_0'; clear e39_0'
        have hst := hst'; clear hst'
        have v39_3 := v39_3'; clear v39_3'
        have n39_3 := n39_3'; clear n39_3'
        have e39_3 := e39_3'; clear e39_3'
        have hd := hd'; clear hd'
        have hK := hK_U31
        refine lv_astore (lv' := [(5, .ref (gG (sArr T12 39 3 q39_3 19) 39 3)), (0, .ref (gG S 16 0)), (1, .int (nI q)), (2, .ref (gG (sArr S 39 0 q39_0 5) 39 0)), (3, .int u3), (4, .int u4)]) hx hb dX16_deskNow_288 hl (by decide) rfl (fun ls hl => ?_)
        refine lv_aload hx hb dX16_deskNow_290 (lv_at hl 0 rfl) ?_
        refine lv_iload_n hx hb dX16_deskNow_292 rfl (lv_at hl 2 rfl) ?_
        refine rE1 ((show gG (sArr T12 39 3 q39_3 19) 39 3 = q39_3 from rfl).trans e39_3.symm) ?_
        refine aLdI (S := U31) (t := 39) (v := mA U31 39 3 (nI q).toNatClampNeg) X w v39_3 (by decide) rfl rfl (by rw [n39_3]; exact nI_vp hq (by decide)) rfl dX16_deskNow_293 ?_
        refine lv_topi (fun z32 ez32 => ?_)
        have w := w.offT hK hT
        exact rI X w rfl dX16_deskNow_294 (by decide) (by decide) (pu_i (by rw [ez32, nI_clamp (by omega)]; exact (hd q hq).symm))
      · have hlt : k12 < nt := by
          have hb1 := h.b_ta
          exact Nat.lt_of_not_le (fun z => hsz ((nI_leI (by omega) (by omega)).mpr z))
        refine lv_aload_n hx hb dX16_deskNow_26 rfl (lv_at hl 0 rfl) ?_
        refine rE0 ((rfl).trans ((hK_T12.G (t := 16) (i := 0) rfl)).symm) ?_
        refine g_16_9 (S := T12) (x := (some (gG T12 17 9))) X w h.v wF_X16_26 (h.f_ta) dX16_deskNow_27 ?_
        refine lv_iload hx hb dX16_deskNow_30 (lv_at hl 5 rfl) ?_
        refine cF (S := T12) (t := 17) (nA := 1) (As := [.int (nI k12)]) (rest := []) X w hl h.l_ta.1 (m_get G T12 ea 9 k12 nt (some (gG T12 15 k12)) h.l_ta hlt (h.e_ta k12 hlt).1) wY_Jx4a65c_get_915e3 wM_X16_46 wIn_Jx4a65c_get_915e3 wSe_Jx4a65c_Jx4a65c_get_915e3_of_java_util_List_get__I_Ljava_lang_Object_ wI_Jx4a65c fw_get (by decide) rfl (by decide +kernel) rfl rfl dX16_deskNow_32 ⟨by decide, by decide⟩ (Nat.le_of_ble_eq_true rfl) (⟨Nat.le_of_ble_eq_true rfl, Nat.le_of_ble_eq_true rfl⟩) (fun v33 S1 H locs hp w => ?_)
        obtain ⟨rfl, rfl⟩ := hp
        refine ckC (S := T12) (t := 15) X w (h.e_ta k12 hlt).2 (by decide) rfl wC_X16_105 dX16_deskNow_37 ?_
        refine cV (S := T12) (nA := 0) (As := []) (rest := []) X w hl (h.e_ta k12 hlt).2 (m_X15_isReported G T12 k12 (h.e_ta k12 hlt).2) wY_X15_isReported wM_X16_252 wIn_X15_isReported wSe_X15_X15_isReported wI_X15 (by decide) rfl (by decide +kernel) rfl rfl dX16_deskNow_40 ⟨by decide, by decide⟩ (Nat.le_of_ble_eq_true rfl) (⟨Nat.le_of_ble_eq_true rfl, Nat.le_of_ble_eq_true rfl⟩) (fun v34 S1 H locs hp w => ?_)
        obtain ⟨rfl, rfl⟩ := hp
        refine lv_if_ne (tgt := 49) hx hb dX16_deskNow_43 (by decide) (fun hc43 => ?_) (fun hc43 => ?_)
        · refine lv_aload_n hx hb dX16_deskNow_49 rfl (lv_at hl 2 rfl) ?_
          refine lv_aload_n hx hb dX16_deskNow_50 rfl (lv_at hl 0 rfl) ?_
          refine rE0 ((rfl).trans ((hK_T12.G (t := 16) (i := 0) rfl)).symm) ?_
          refine g_16_9 (S := T12) (x := (some (gG T12 17 9))) X w h.v wF_X16_26 (h.f_ta) dX16_deskNow_51 ?_
          refine lv_iload hx hb dX16_deskNow_54 (lv_at hl 5 rfl) ?_
          refine cF (S := T12) (t := 17) (nA := 1) (As := [.int (nI k12)]) (rest := [.ref (gG (sArr S 39 0 q39_0 5) 39 0)]) X w hl h.l_ta.1 (m_get G T12 ea 9 k12 nt (some (gG T12 15 k12)) h.l_ta hlt (h.e_ta k12 hlt).1) wY_Jx4a65c_get_915e3 wM_X16_46 wIn_Jx4a65c_get_915e3 wSe_Jx4a65c_Jx4a65c_get_915e3_of_java_util_List_get__I_Ljava_lang_Object_ wI_Jx4a65c fw_get (by decide) rfl (by decide +kernel) rfl rfl dX16_deskNow_56 ⟨by decide, by decide⟩ (Nat.le_of_ble_eq_true rfl) (⟨Nat.le_of_ble_eq_true rfl, Nat.le_of_ble_eq_true rfl⟩) (fun v35 S1 H locs hp w => ?_)
          obtain ⟨rfl, rfl⟩ := hp
          refine ckC (S := T12) (t := 15) X w (h.e_ta k12 hlt).2 (by decide) rfl wC_X16_105 dX16_deskNow_61 ?_
          obtain ⟨g9, hg9, he9⟩ := (h.x_tt k12 hlt).resolve_left (of_decide_eq_true (b2i_t hc43))
          have hA247 : mI A 247 k12 = nI g9 := (hF.1 247 rfl k12).symm.trans ((hK.I (f := 247) (i := k12) rfl).symm.trans he9)
          have h3n : u3 + 1 = rCnt (fun k => decide (¬ mI A 247 k = -1)) (k12 + 1) := cnt_s1 (fun k => decide (¬ mI A 247 k = -1)) h3 (by show decide (¬ mI A 247 k12 = -1) = true; rw [hA247]; exact decide_eq_true (nI_neg1 (by omega)))
          refine g_15_7 (S := T12) (x := (nI g9)) X w (h.e_ta k12 hlt).2 wF_X16_144 (he9) dX16_deskNow_64 ?_
          refine lv_dup2_11 hx hb dX16_deskNow_67 rfl rfl ?_
          refine rE1 ((show gG (sArr S 39 0 q39_0 5) 39 0 = q39_0 from rfl).trans e39_0.symm) ?_
          refine aLdI (S := T12) (t := 39) (v := mA T12 39 0 (nI g9).toNatClampNeg) X w v39_0 (by decide) rfl rfl (by rw [n39_0]; exact nI_vp hg9 (by decide)) rfl dX16_deskNow_68 ?_
          refine lv_topi (fun z36 ez36 => ?_)
          refine lv_iconst (v := 1) hx hb dX16_deskNow_69 (by decide) ?_
          refine lv_iadd hx hb dX16_deskNow_70 ?_
          refine rE2 ((show gG (sArr S 39 0 q39_0 5) 39 0 = q39_0 from rfl).trans e39_0.symm) ?_
          refine aStI (S := T12) (t := 39) X w v39_0 (by decide) rfl rfl (by rw [n39_0]; exact nI_vp hg9 (by decide)) dX16_deskNow_71 (fun H locs w => ?_)
          have h : RI ea (sA T12 39 0 (upd (mA T12 39 0) (nI g9).toNatClampNeg (z36 + 1))) ns nj nm nt nr nq := h.stA (by decide)
          have hK : Kq (hvT [(39, 0), (39, 3)]) hNo hNo S (sA T12 39 0 (upd (mA T12 39 0) (nI g9).toNatClampNeg (z36 + 1))) := hK.sA rfl
          have hst2 : ∀ s, s < 5 → mA (sA T12 39 0 (upd (mA T12 39 0) (nI g9).toNatClampNeg (z36 + 1))) 39 0 s = rCnt (fun k => decide (mI A 247 k = nI s)) (k12 + 1) := fun s hs => by
            rw [show mA (sA T12 39 0 (upd (mA T12 39 0) (nI g9).toNatClampNeg (z36 + 1))) 39 0 = upd (mA T12 39 0) (nI g9).toNatClampNeg (z36 + 1) from sA_s, nI_clamp (by omega)]
            show _ = rCnt (fun k => decide (mI A 247 k = nI s)) k12 + (if decide (mI A 247 k12 = nI s) = true then 1 else 0)
            rw [hA247]
            by_cases d : s = g9
            · rw [d, upd_s, if_pos (decide_eq_true rfl), ez36, nI_clamp (by omega), hst g9 hg9]
            · rw [upd_o d, if_neg (by rw [decide_eq_false (fun y => d ((nI_eq (by omega) (by omega)).mp y).symm)]; decide), add0]; exact hst s hs
          refine lv_iinc (v := (u3 + 1)) (lv' := [(3, .int (u3 + 1)), (0, .ref (gG S 16 0)), (1, .int (nI q)), (2, .ref (gG (sArr S 39 0 q39_0 5) 39 0)), (4, .int u4), (5, .int (nI k12))]) hx hb dX16_deskNow_72 hl (k := 3) rfl (rfl) (by decide) rfl (fun ls hl => ?_)
          refine lv_iload hx hb dX16_deskNow_75 (lv_at hl 4 rfl) ?_
          refine lv_aload_n hx hb dX16_deskNow_77 rfl (lv_at hl 1 rfl) ?_
          refine rE0 ((rfl).trans ((hK_T12.G (t := 16) (i := 0) rfl)).symm) ?_
          refine g_16_9 (S := (sA T12 39 0 (upd (mA T12 39 0) (nI g9).toNatClampNeg (z36 + 1)))) (x := (some (gG (sA T12 39 0 (upd (mA T12 39 0) (nI g9).toNatClampNeg (z36 + 1))) 17 9))) X w h.v wF_X16_26 (h.f_ta) dX16_deskNow_78 ?_
          refine lv_iload hx hb dX16_deskNow_81 (lv_at hl 5 rfl) ?_
          refine cF (S := (sA T12 39 0 (upd (mA T12 39 0) (nI g9).toNatClampNeg (z36 + 1)))) (t := 17) (nA := 1) (As := [.int (nI k12)]) (rest := [.int u4]) X w hl h.l_ta.1 (m_get G (sA T12 39 0 (upd (mA T12 39 0) (nI g9).toNatClampNeg (z36 + 1))) ea 9 k12 nt (some (gG (sA T12 39 0 (upd (mA T12 39 0) (nI g9).toNatClampNeg (z36 + 1))) 15 k12)) h.l_ta hlt (h.e_ta k12 hlt).1) wY_Jx4a65c_get_915e3 wM_X16_46 wIn_Jx4a65c_get_915e3 wSe_Jx4a65c_Jx4a65c_get_915e3_of_java_util_List_get__I_Ljava_lang_Object_ wI_Jx4a65c fw_get (by decide) rfl (by decide +kernel) rfl rfl dX16_deskNow_83 ⟨by decide, by decide⟩ (Nat.le_of_ble_eq_true rfl) (⟨Nat.le_of_ble_eq_true rfl, Nat.le_of_ble_eq_true rfl⟩) (fun v37 S1 H locs hp w => ?_)
          obtain ⟨rfl, rfl⟩ := hp
          refine ckC (S := (sA T12 39 0 (upd (mA T12 39 0) (nI g9).toNatClampNeg (z36 + 1)))) (t := 15) X w (h.e_ta k12 hlt).2 (by decide) rfl wC_X16_105 dX16_deskNow_88 ?_
          refine g_15_13 (S := (sA T12 39 0 (upd (mA T12 39 0) (nI g9).toNatClampNeg (z36 + 1)))) (x := (mI A 253 k12)) X w (h.e_ta k12 hlt).2 wF_X16_161 ((hK.I (f := 253) (i := k12) rfl).trans (hF.1 253 rfl k12)) dX16_deskNow_91 ?_
          refine lv_iconst (v := 2) hx hb dX16_deskNow_94 (by decide) ?_
          refine lv_icmp_ne (tgt := 102) hx hb dX16_deskNow_95 (by decide) (fun hcc => ?_) (fun hcc => ?_)
          · have h4n : u4 + 0 = rCnt (dkP A) (k12 + 1) := cnt_s0 (dkP A) h4 (by unfold dkP; rw [decide_eq_false hcc, Bool.and_false])
            refine lv_iconst (v := 0) hx hb dX16_deskNow_102 (by decide) ?_
            refine lv_iadd hx hb dX16_deskNow_103 ?_
            refine lv_istore (lv' := [(4, .int (u4 + 0)), (3, .int (u3 + 1)), (0, .ref (gG S 16 0)), (1, .int (nI q)), (2, .ref (gG (sArr S 39 0 q39_0 5) 39 0)), (5, .int (nI k12))]) hx hb dX16_deskNow_104 hl (by decide) rfl (fun ls hl => ?_)
            refine lv_iinc (v := nI (k12 + 1)) (lv' := [(5, .int (nI (k12 + 1))), (4, .int (u4 + 0)), (3, .int (u3 + 1)), (0, .ref (gG S 16 0)), (1, .int (nI q)), (2, .ref (gG (sArr S 39 0 q39_0 5) 39 0))]) hx hb dX16_deskNow_106 hl (k := 5) rfl (nI_1 _) (by decide) rfl (fun ls hl => ?_)
            refine lv_goto (tgt := 12) hx hb dX16_deskNow_109 (by decide) ?_
            exact ih12 (k12 + 1) (u3 + 1) (u4 + 0) (sA T12 39 0 (upd (mA T12 39 0) (nI g9).toNatClampNeg (z36 + 1))) _ _ _ (by omega) (by omega) (h3n) (h4n) (hst2) (h) (hK) (nv39_3) (v39_0) (n39_0) (e39_0) w (lv_sub hl [3, 4, 5, 2, 1, 0] rfl)
          · have h4n : u4 + 1 = rCnt (dkP A) (k12 + 1) := cnt_s1 (dkP A) h4 (by unfold dkP; rw [decide_eq_true hcc, hA247, decide_eq_true (nI_neg1 (by omega))]; rfl)
            refine lv_iconst (v := 1) hx hb dX16_deskNow_98 (by decide) ?_
            refine lv_goto (tgt := 103) hx hb dX16_deskNow_99 (by decide) ?_
            refine lv_iadd hx hb dX16_deskNow_103 ?_
            refine lv_istore (lv' := [(4, .int (u4 + 1)), (3, .int (u3 + 1)), (0, .ref (gG S 16 0)), (1, .int (nI q)), (2, .ref (gG (sArr S 39 0 q39_0 5) 39 0)), (5, .int (nI k12))]) hx hb dX16_deskNow_104 hl (by decide) rfl (fun ls hl => ?_)
            refine lv_iinc (v := nI (k12 + 1)) (lv' := [(5, .int (nI (k12 + 1))), (4, .int (u4 + 1)), (3, .int (u3 + 1)), (0, .ref (gG S 16 0)), (1, .int (nI q)), (2, .ref (gG (sArr S 39 0 q39_0 5) 39 0))]) hx hb dX16_deskNow_106 hl (k := 5) rfl (nI_1 _) (by decide) rfl (fun ls hl => ?_)
            refine lv_goto (tgt := 12) hx hb dX16_deskNow_109 (by decide) ?_
            exact ih12 (k12 + 1) (u3 + 1) (u4 + 1) (sA T12 39 0 (upd (mA T12 39 0) (nI g9).toNatClampNeg (z36 + 1))) _ _ _ (by omega) (by omega) (h3n) (h4n) (hst2) (h) (hK) (nv39_3) (v39_0) (n39_0) (e39_0) w (lv_sub hl [3, 4, 5, 2, 1, 0] rfl)
        · have hm1 : mI A 247 k12 = -1 := (hF.1 247 rfl k12).symm.trans ((hK.I (f := 247) (i := k12) rfl).symm.trans (Decidable.byContradiction (fun z => of_decide_eq_false (b2i_f hc43) z)))
          have h3n : u3 = rCnt (fun k => decide (¬ mI A 247 k = -1)) (k12 + 1) := cnt_y0 (fun k => decide (¬ mI A 247 k = -1)) h3 (by show decide (¬ mI A 247 k12 = -1) = false; rw [hm1]; rfl)
          have h4n : u4 = rCnt (dkP A) (k12 + 1) := cnt_y0 (dkP A) h4 (by unfold dkP; rw [hm1]; rfl)
          have hst2 : ∀ s, s < 5 → mA T12 39 0 s = rCnt (fun k => decide (mI A 247 k = nI s)) (k12 + 1) := fun s hs => (hst s hs).trans (cnt_y0 (fun k => decide (mI A 247 k = nI s)) rfl (by show decide (mI A 247 k12 = nI s) = false; rw [hm1]; exact decide_eq_false (fun y => nI_neg1 (by omega) y.symm)))
          refine lv_goto (tgt := 106) hx hb dX16_deskNow_46 (by decide) ?_
          refine lv_iinc (v := nI (k12 + 1)) (lv' := [(5, .int (nI (k12 + 1))), (0, .ref (gG S 16 0)), (1, .int (nI q)), (2, .ref (gG (sArr S 39 0 q39_0 5) 39 0)), (3, .int u3), (4, .int u4)]) hx hb dX16_deskNow_106 hl (k := 5) rfl (nI_1 _) (by decide) rfl (fun ls hl => ?_)
          refine lv_goto (tgt := 12) hx hb dX16_deskNow_109 (by decide) ?_
          exact ih12 (k12 + 1) u3 u4 T12 _ _ _ (by omega) (by omega) (h3n) (h4n) (hst2) (h) (hK) (nv39_3) (v39_0) (n39_0) (e39_0) w (lv_sub hl [1, 2, 3, 4, 5, 0] rfl)
  exact L12 _ 0 0 0 (sArr S 39 0 q39_0 5) _ _ _ (Nat.lt_succ_self _) (by omega) (rfl) (rfl) (fun s _ => congrFun (show mA (sArr S 39 0 q39_0 5) 39 0 = (fun _ => 0) from up2_s (mA S) 39 0 (fun _ => 0)) s) (h) (hK) (nv39_3) (v39_0) (n39_0) (e39_0) w (lv_sub hl [4, 5, 3, 2, 1, 0] rfl)

def UQ (A : HS) : Prop := ∀ x k l, x < 24 → k < 3 → l < 3 → ¬ k = l → mA A 37 x k = mA A 37 x l → mA A 37 x k = -1

