theorem rcs_x {S A : HS} {j : Nat} {x l : Int32} (e1 : mI S 244 j = mI A 244 j) (e2 : mI A 226 (tS S j) = mI A 226 (tS A j)) (e3 : l = mI A 226 (tS S j)) (h : (rSort (mI S 244 j) = 0 ∧ x = 4) ∨ (¬ rSort (mI S 244 j) = 0 ∧ rSort (mI S 244 j) < 3 ∧ sIn (mI A 259 0) l = true ∧ x = 3) ∨ (¬ rSort (mI S 244 j) = 0 ∧ (3 ≤ rSort (mI S 244 j) ∨ sIn (mI A 259 0) l = false) ∧ x = 0)) : x = recS A j := by
  rw [e3, e2, e1] at h
  unfold recS
  rcases h with ⟨h1, h2⟩ | ⟨h1, h2, h3, h4⟩ | ⟨h1, h2, h3⟩
  · rw [if_pos h1]; exact h2
  · rw [if_neg h1, if_pos ⟨h2, h3⟩]; exact h4
  · rw [if_neg h1]
    refine h3.trans (if_neg (fun z => ?_)).symm
    rcases h2 with y | y
    · exact absurd z.1 (Int32.not_lt.mpr y)
    · rw [y] at z; exact absurd z.2 (by decide)

abbrev rm_r_X16_record : Room := { frames := 7, cells := 0, slots := 0, locals := 161 }
set_option maxHeartbeats 4000000 in
set_option maxRecDepth 100000 in
theorem r_X16_record {s0 : State} {l : Launch} {D : va_G} {cy : Nat → ClassId} (G : Gl s0 l D cy) (S : HS) (ea ns nj nm nt nr nq : Nat) (h : RI ea S ns nj nm nt nr nq) (A : HS) (hE : RF s0 S A nq nt) (g : Nat) (hg : mI S 257 0 = nI g) (hg7 : g ≤ 720) (j : Nat) (hj : j < nt) (hh : mI S 241 j = mI S 257 0) (hQ : QI s0 S nq nt) : Ctr s0 l D cy yX16_record cX16_record 3 none rm_r_X16_record S [.ref (gG S 16 0), .ref (gG S 15 j)] (fun v S' => none = v ∧ RI ea S' ns nj nm nt nr nq ∧ Kq hvQ hiQ hrQ S S' ∧ QI s0 S' nq nt ∧ RF s0 S' (recA A ns nj (g % 24) j) nq nt) := by
  refine pro "CavershamShiftModel" G rfl rfl (Nat.le_of_ble_eq_true rfl) (fun p e s m below meth c ls X w hnm hl => ?_)
  have hx := X.1
  have hb := X.2.1
  have hown := X.2.2.2.1
  have hts := X.2.2.2.2.1
  have hl : lv_has ls 3 [(0, .ref (gG S 16 0)), (1, .ref (gG S 15 j))] := hl
  have h0 := h
  have hK : Kq hvQ hiQ hrQ S S := Kq.rf
  have hHt : hN S = tH S j := by unfold hN tH; rw [hh]
  have hE0 := hE
  have htg : tH S j = g := by unfold tH; rw [hh, hg]; exact nI_clamp (by omega)
  refine lv_aload_n hx hb dX16_record_0 rfl (lv_at hl 0 rfl) ?_
  refine lv_aload_n hx hb dX16_record_1 rfl (lv_at hl 1 rfl) ?_
  refine cV (S := S) (nA := 1) (As := [.ref (gG S 15 j)]) (rest := []) X w hl h.v (m_X16_recorder G S ea ns nj nm nt nr nq h j hj) wY_X16_recorder wM_X16_118 wIn_X16_recorder wSe_X16_X16_recorder wI_X16 (by decide) rfl (by decide +kernel) rfl rfl dX16_record_2 ⟨by decide, by decide⟩ (Nat.le_of_ble_eq_true rfl) (⟨Nat.le_of_ble_eq_true rfl, Nat.le_of_ble_eq_true rfl⟩) (fun v1 S1 H locs hp w => ?_)
  obtain ⟨rfl, rfl⟩ := hp
  refine lv_topi (fun rc erc => ?_)
  have erc : rc = rRec S ns nj j (tH S j % 24) 3 := erc
  refine lv_istore_n (lv' := [(2, .int rc), (0, .ref (gG S 16 0)), (1, .ref (gG S 15 j))]) hx hb dX16_record_5 rfl hl (by decide) rfl (fun ls hl => ?_)
  refine lv_iload_n hx hb dX16_record_6 rfl (lv_at hl 0 rfl) ?_
  refine lv_iconst (v := (-1)) hx hb dX16_record_7 (by decide) ?_
  refine lv_icmp_ne (tgt := 12) hx hb dX16_record_8 (by decide) (fun hne => ?_) (fun hne => ?_)
  · obtain ⟨b, hb3, hbe, hbn⟩ := (rRec_in (S := S) (ns := ns) (nj := nj) (j := j) (a := (tH S j % 24)) 3).resolve_left (fun z => hne (erc.trans z))
    have hbe9 : rc = nI b := erc.trans hbe
    have hrc9 : rRec A ns nj j (tH S j % 24) 3 = nI b := (hE.rec _ _ _ _ 3).symm.trans hbe
    obtain rfl : rc = nI b := erc.trans hbe
    have hsb := h0.sit (a := (tH S j % 24)) (k := b) (g := tS S j) (Nat.mod_lt _ (by decide)) hb3 (rSlot_h hbn) (by have := (h0.tSx j hj).1; have := h0.b_st; omega)
    refine lv_aload_n hx hb dX16_record_12 rfl (lv_at hl 2 rfl) ?_
    refine lv_iload_n hx hb dX16_record_13 rfl (lv_at hl 0 rfl) ?_
    refine p_15_9 (S := S) (x := (nI b)) X w (h.e_ta j hj).2 wF_X16_122 dX16_record_14 (fun H locs w => ?_)
    have h : RI ea (sI S 249 j (nI b)) ns nj nm nt nr nq := h.stI (by decide)
    have hK : Kq hvQ hiQ hrQ S (sI S 249 j (nI b)) := hK.sI rfl
    have hE : RF s0 (sI S 249 j (nI b)) (sI A 249 j (nI b)) nq nt := hE.bI
    refine lv_aload_n hx hb dX16_record_17 rfl (lv_at hl 2 rfl) ?_
    refine lv_aload_n hx hb dX16_record_18 rfl (lv_at hl 1 rfl) ?_
    refine g_16_13 (S := (sI S 249 j (nI b))) (x := (some (gG (sI S 249 j (nI b)) 38 1))) X w h.v wF_X16_40 (h.s1.2.2) dX16_record_19 ?_
    refine lv_aload_n hx hb dX16_record_22 rfl (lv_at hl 1 rfl) ?_
    refine g_16_1 (S := (sI S 249 j (nI b))) (x := (nI (hN S))) X w h.v wF_X16_125 (h0.hNx.2) dX16_record_23 ?_
    refine lv_bipush (v := 24) hx hb dX16_record_26 (by decide) ?_
    refine lv_irem hx hb dX16_record_28 (by decide) ?_
    refine lv_topi (fun z2 ez2 => ?_)
    obtain rfl : z2 = nI (tH S j % 24) := ez2.trans (by rw [hHt]; exact pk_rem (d := 24) (by have := (h0.tHx j hj).1; omega) (by decide) (by decide))
    refine aLdR (S := (sI S 249 j (nI b))) (t := 38) (v := (some (gG (sI S 249 j (nI b)) 37 (tH S j % 24)))) X w h.s1.1 (by decide) rfl rfl (Or.inr ⟨_, rfl⟩) (by rw [h.s1.2.1]; exact nI_vp (Nat.mod_lt _ (by decide)) (by decide)) (by rw [cl_nI (n := 24) (Nat.mod_lt _ (by decide)) (by decide)]; exact (h.s2 (tH S j % 24) (Nat.mod_lt _ (by decide))).1) dX16_record_29 ?_
    refine lv_iload_n hx hb dX16_record_30 rfl (lv_at hl 0 rfl) ?_
    refine aLdI (S := (sI S 249 j (nI b))) (t := 37) (v := nI (sitN S (tH S j % 24) b)) X w (h.s2 (tH S j % 24) (Nat.mod_lt _ (by decide))).2.1 (by decide) rfl rfl (by rw [(h.s2 (tH S j % 24) (Nat.mod_lt _ (by decide))).2.2]; exact nI_vp hb3 (by decide)) (by rw [cl_nI (n := 3) hb3 (by decide)]; exact hsb.2) dX16_record_31 ?_
    refine p_15_10 (S := (sI S 249 j (nI b))) (x := (nI (sitN S (tH S j % 24) b))) X w (h.e_ta j hj).2 wF_X16_126 dX16_record_32 (fun H locs w => ?_)
    have h : RI ea (sI (sI S 249 j (nI b)) 250 j (nI (sitN S (tH S j % 24) b))) ns nj nm nt nr nq := h.stI (by decide)
    have hK : Kq hvQ hiQ hrQ S (sI (sI S 249 j (nI b)) 250 j (nI (sitN S (tH S j % 24) b))) := hK.sI rfl
    have hE : RF s0 (sI (sI S 249 j (nI b)) 250 j (nI (sitN S (tH S j % 24) b))) (sI (sI A 249 j (nI b)) 250 j (nI (sitN S (tH S j % 24) b))) nq nt := hE.bI
    refine lv_aload_n hx hb dX16_record_35 rfl (lv_at hl 2 rfl) ?_
    refine lv_aload_n hx hb dX16_record_36 rfl (lv_at hl 1 rfl) ?_
    refine lv_aload_n hx hb dX16_record_37 rfl (lv_at hl 2 rfl) ?_
    refine g_15_10 (S := (sI (sI S 249 j (nI b)) 250 j (nI (sitN S (tH S j % 24) b)))) (x := (nI (sitN S (tH S j % 24) b))) X w (h.e_ta j hj).2 wF_X16_126 (up2_s _ _ _ _) dX16_record_38 ?_
    refine lv_aload_n hx hb dX16_record_41 rfl (lv_at hl 2 rfl) ?_
    refine g_15_0 (S := (sI (sI S 249 j (nI b)) 250 j (nI (sitN S (tH S j % 24) b)))) (x := (nI (tS (sI (sI S 249 j (nI b)) 250 j (nI (sitN S (tH S j % 24) b))) j))) X w (h.e_ta j hj).2 wF_X16_104 ((h.tSx j hj).2) dX16_record_42 ?_
    refine lv_aload_n hx hb dX16_record_45 rfl (lv_at hl 1 rfl) ?_
    refine g_16_1 (S := (sI (sI S 249 j (nI b)) 250 j (nI (sitN S (tH S j % 24) b)))) (x := (nI (hN S))) X w h.v wF_X16_125 (h0.hNx.2) dX16_record_46 ?_
    refine lv_bipush (v := 24) hx hb dX16_record_49 (by decide) ?_
    refine lv_irem hx hb dX16_record_51 (by decide) ?_
    refine lv_topi (fun z3 ez3 => ?_)
    obtain rfl : z3 = nI (tH S j % 24) := ez3.trans (by rw [hHt]; exact pk_rem (d := 24) (by have := (h0.tHx j hj).1; omega) (by decide) (by decide))
    refine cV (S := (sI (sI S 249 j (nI b)) 250 j (nI (sitN S (tH S j % 24) b)))) (nA := 3) (As := [.int (nI (sitN S (tH S j % 24) b)), .int (nI (tS (sI (sI S 249 j (nI b)) 250 j (nI (sitN S (tH S j % 24) b))) j)), .int (nI (tH S j % 24))]) (rest := [.ref (gG S 15 j)]) X w hl h.v (m_X16_qualityNow G (sI (sI S 249 j (nI b)) 250 j (nI (sitN S (tH S j % 24) b))) ea ns nj nm nt nr nq h (sitN S (tH S j % 24) b) (tS (sI (sI S 249 j (nI b)) 250 j (nI (sitN S (tH S j % 24) b))) j) hsb.1 (h.tSx j hj).1 (nI (tH S j % 24))) wY_X16_qualityNow wM_X16_115 wIn_X16_qualityNow wSe_X16_X16_qualityNow wI_X16 (by decide) rfl (by decide +kernel) rfl rfl dX16_record_52 ⟨by decide, by decide⟩ (Nat.le_of_ble_eq_true rfl) (⟨Nat.le_of_ble_eq_true rfl, Nat.le_of_ble_eq_true rfl⟩) (fun v4 S1 H locs hp w => ?_)
    obtain ⟨rfl, rfl⟩ := hp
    refine p_15_8 (S := (sI (sI S 249 j (nI b)) 250 j (nI (sitN S (tH S j % 24) b)))) (x := (rQual (sI (sI S 249 j (nI b)) 250 j (nI (sitN S (tH S j % 24) b))) ns nj (sitN S (tH S j % 24) b) (tS (sI (sI S 249 j (nI b)) 250 j (nI (sitN S (tH S j % 24) b))) j) (nI (tH S j % 24)))) X w (h.e_ta j hj).2 wF_X16_129 dX16_record_55 (fun H locs w => ?_)
    have h : RI ea (sI (sI (sI S 249 j (nI b)) 250 j (nI (sitN S (tH S j % 24) b))) 248 j (rQual (sI (sI S 249 j (nI b)) 250 j (nI (sitN S (tH S j % 24) b))) ns nj (sitN S (tH S j % 24) b) (tS (sI (sI S 249 j (nI b)) 250 j (nI (sitN S (tH S j % 24) b))) j) (nI (tH S j % 24)))) ns nj nm nt nr nq := h.stI (by decide)
    have hK : Kq hvQ hiQ hrQ S (sI (sI (sI S 249 j (nI b)) 250 j (nI (sitN S (tH S j % 24) b))) 248 j (rQual (sI (sI S 249 j (nI b)) 250 j (nI (sitN S (tH S j % 24) b))) ns nj (sitN S (tH S j % 24) b) (tS (sI (sI S 249 j (nI b)) 250 j (nI (sitN S (tH S j % 24) b))) j) (nI (tH S j % 24)))) := hK.sI rfl
    have hE : RF s0 (sI (sI (sI S 249 j (nI b)) 250 j (nI (sitN S (tH S j % 24) b))) 248 j (rQual (sI (sI S 249 j (nI b)) 250 j (nI (sitN S (tH S j % 24) b))) ns nj (sitN S (tH S j % 24) b) (tS (sI (sI S 249 j (nI b)) 250 j (nI (sitN S (tH S j % 24) b))) j) (nI (tH S j % 24)))) (sI (sI (sI A 249 j (nI b)) 250 j (nI (sitN S (tH S j % 24) b))) 248 j (rQual (sI (sI S 249 j (nI b)) 250 j (nI (sitN S (tH S j % 24) b))) ns nj (sitN S (tH S j % 24) b) (tS (sI (sI S 249 j (nI b)) 250 j (nI (sitN S (tH S j % 24) b))) j) (nI (tH S j % 24)))) nq nt := hE.bI
    refine lv_aload_n hx hb dX16_record_58 rfl (lv_at hl 1 rfl) ?_
    refine g_16_8 (S := (sI (sI (sI S 249 j (nI b)) 250 j (nI (sitN S (tH S j % 24) b))) 248 j (rQual (sI (sI S 249 j (nI b)) 250 j (nI (sitN S (tH S j % 24) b))) ns nj (sitN S (tH S j % 24) b) (tS (sI (sI S 249 j (nI b)) 250 j (nI (sitN S (tH S j % 24) b))) j) (nI (tH S j % 24))))) (x := (some (gG (sI (sI (sI S 249 j (nI b)) 250 j (nI (sitN S (tH S j % 24) b))) 248 j (rQual (sI (sI S 249 j (nI b)) 250 j (nI (sitN S (tH S j % 24) b))) ns nj (sitN S (tH S j % 24) b) (tS (sI (sI S 249 j (nI b)) 250 j (nI (sitN S (tH S j % 24) b))) j) (nI (tH S j % 24)))) 17 8))) X w h.v wF_X16_23 (h.f_mo) dX16_record_59 ?_
    refine lv_aload_n hx hb dX16_record_62 rfl (lv_at hl 2 rfl) ?_
    refine g_15_10 (S := (sI (sI (sI S 249 j (nI b)) 250 j (nI (sitN S (tH S j % 24) b))) 248 j (rQual (sI (sI S 249 j (nI b)) 250 j (nI (sitN S (tH S j % 24) b))) ns nj (sitN S (tH S j % 24) b) (tS (sI (sI S 249 j (nI b)) 250 j (nI (sitN S (tH S j % 24) b))) j) (nI (tH S j % 24))))) (x := (nI (sitN S (tH S j % 24) b))) X w (h.e_ta j hj).2 wF_X16_126 (by simp [mI, sI, up2]) dX16_record_63 ?_
    refine cF (S := (sI (sI (sI S 249 j (nI b)) 250 j (nI (sitN S (tH S j % 24) b))) 248 j (rQual (sI (sI S 249 j (nI b)) 250 j (nI (sitN S (tH S j % 24) b))) ns nj (sitN S (tH S j % 24) b) (tS (sI (sI S 249 j (nI b)) 250 j (nI (sitN S (tH S j % 24) b))) j) (nI (tH S j % 24))))) (t := 17) (nA := 1) (As := [.int (nI (sitN S (tH S j % 24) b))]) (rest := []) X w hl h.l_mo.1 (m_get G (sI (sI (sI S 249 j (nI b)) 250 j (nI (sitN S (tH S j % 24) b))) 248 j (rQual (sI (sI S 249 j (nI b)) 250 j (nI (sitN S (tH S j % 24) b))) ns nj (sitN S (tH S j % 24) b) (tS (sI (sI S 249 j (nI b)) 250 j (nI (sitN S (tH S j % 24) b))) j) (nI (tH S j % 24)))) ea 8 (sitN S (tH S j % 24) b) nm (some (gG (sI (sI (sI S 249 j (nI b)) 250 j (nI (sitN S (tH S j % 24) b))) 248 j (rQual (sI (sI S 249 j (nI b)) 250 j (nI (sitN S (tH S j % 24) b))) ns nj (sitN S (tH S j % 24) b) (tS (sI (sI S 249 j (nI b)) 250 j (nI (sitN S (tH S j % 24) b))) j) (nI (tH S j % 24)))) 12 (sitN S (tH S j % 24) b))) h.l_mo hsb.1 (h.e_mo (sitN S (tH S j % 24) b) hsb.1).1) wY_Jx4a65c_get_915e3 wM_X16_46 wIn_Jx4a65c_get_915e3 wSe_Jx4a65c_Jx4a65c_get_915e3_of_java_util_List_get__I_Ljava_lang_Object_ wI_Jx4a65c fw_get (by decide) rfl (by decide +kernel) rfl rfl dX16_record_66 ⟨by decide, by decide⟩ (Nat.le_of_ble_eq_true rfl) (⟨Nat.le_of_ble_eq_true rfl, Nat.le_of_ble_eq_true rfl⟩) (fun v5 S1 H locs hp w => ?_)
    obtain ⟨rfl, rfl⟩ := hp
    refine ckC (S := (sI (sI (sI S 249 j (nI b)) 250 j (nI (sitN S (tH S j % 24) b))) 248 j (rQual (sI (sI S 249 j (nI b)) 250 j (nI (sitN S (tH S j % 24) b))) ns nj (sitN S (tH S j % 24) b) (tS (sI (sI S 249 j (nI b)) 250 j (nI (sitN S (tH S j % 24) b))) j) (nI (tH S j % 24))))) (t := 12) X w (h.e_mo (sitN S (tH S j % 24) b) hsb.1).2.1 (by decide) rfl wC_X16_93 dX16_record_71 ?_
    refine lv_dup hx hb dX16_record_74 rfl ?_
    refine g_12_3 (S := (sI (sI (sI S 249 j (nI b)) 250 j (nI (sitN S (tH S j % 24) b))) 248 j (rQual (sI (sI S 249 j (nI b)) 250 j (nI (sitN S (tH S j % 24) b))) ns nj (sitN S (tH S j % 24) b) (tS (sI (sI S 249 j (nI b)) 250 j (nI (sitN S (tH S j % 24) b))) j) (nI (tH S j % 24))))) (x := (mI A 195 (sitN S (tH S j % 24) b))) X w (h.e_mo (sitN S (tH S j % 24) b) hsb.1).2.1 wF_X16_132 (hE0.1 195 rfl _) dX16_record_75 ?_
    refine lv_iconst (v := 1) hx hb dX16_record_78 (by decide) ?_
    refine lv_iadd hx hb dX16_record_79 ?_
    refine p_12_3 (S := (sI (sI (sI S 249 j (nI b)) 250 j (nI (sitN S (tH S j % 24) b))) 248 j (rQual (sI (sI S 249 j (nI b)) 250 j (nI (sitN S (tH S j % 24) b))) ns nj (sitN S (tH S j % 24) b) (tS (sI (sI S 249 j (nI b)) 250 j (nI (sitN S (tH S j % 24) b))) j) (nI (tH S j % 24))))) (x := ((mI A 195 (sitN S (tH S j % 24) b)) + 1)) X w (h.e_mo (sitN S (tH S j % 24) b) hsb.1).2.1 wF_X16_132 dX16_record_80 (fun H locs w => ?_)
    have h : RI ea (sI (sI (sI (sI S 249 j (nI b)) 250 j (nI (sitN S (tH S j % 24) b))) 248 j (rQual (sI (sI S 249 j (nI b)) 250 j (nI (sitN S (tH S j % 24) b))) ns nj (sitN S (tH S j % 24) b) (tS (sI (sI S 249 j (nI b)) 250 j (nI (sitN S (tH S j % 24) b))) j) (nI (tH S j % 24)))) 195 (sitN S (tH S j % 24) b) ((mI A 195 (sitN S (tH S j % 24) b)) + 1)) ns nj nm nt nr nq := h.stI (by decide)
    have hK : Kq hvQ hiQ hrQ S (sI (sI (sI (sI S 249 j (nI b)) 250 j (nI (sitN S (tH S j % 24) b))) 248 j (rQual (sI (sI S 249 j (nI b)) 250 j (nI (sitN S (tH S j % 24) b))) ns nj (sitN S (tH S j % 24) b) (tS (sI (sI S 249 j (nI b)) 250 j (nI (sitN S (tH S j % 24) b))) j) (nI (tH S j % 24)))) 195 (sitN S (tH S j % 24) b) ((mI A 195 (sitN S (tH S j % 24) b)) + 1)) := hK.sI rfl
    have hE : RF s0 (sI (sI (sI (sI S 249 j (nI b)) 250 j (nI (sitN S (tH S j % 24) b))) 248 j (rQual (sI (sI S 249 j (nI b)) 250 j (nI (sitN S (tH S j % 24) b))) ns nj (sitN S (tH S j % 24) b) (tS (sI (sI S 249 j (nI b)) 250 j (nI (sitN S (tH S j % 24) b))) j) (nI (tH S j % 24)))) 195 (sitN S (tH S j % 24) b) ((mI A 195 (sitN S (tH S j % 24) b)) + 1)) (sI (sI (sI (sI A 249 j (nI b)) 250 j (nI (sitN S (tH S j % 24) b))) 248 j (rQual (sI (sI S 249 j (nI b)) 250 j (nI (sitN S (tH S j % 24) b))) ns nj (sitN S (tH S j % 24) b) (tS (sI (sI S 249 j (nI b)) 250 j (nI (sitN S (tH S j % 24) b))) j) (nI (tH S j % 24)))) 195 (sitN S (tH S j % 24) b) ((mI A 195 (sitN S (tH S j % 24) b)) + 1)) nq nt := hE.bI
    refine lv_aload_n hx hb dX16_record_83 rfl (lv_at hl 2 rfl) ?_
    refine lv_aload_n hx hb dX16_record_84 rfl (lv_at hl 2 rfl) ?_
    refine cV (S := (sI (sI (sI (sI S 249 j (nI b)) 250 j (nI (sitN S (tH S j % 24) b))) 248 j (rQual (sI (sI S 249 j (nI b)) 250 j (nI (sitN S (tH S j % 24) b))) ns nj (sitN S (tH S j % 24) b) (tS (sI (sI S 249 j (nI b)) 250 j (nI (sitN S (tH S j % 24) b))) j) (nI (tH S j % 24)))) 195 (sitN S (tH S j % 24) b) ((mI A 195 (sitN S (tH S j % 24) b)) + 1))) (nA := 0) (As := []) (rest := [.ref (gG S 15 j)]) X w hl (h.e_ta j hj).2 (m_X15_sort G (sI (sI (sI (sI S 249 j (nI b)) 250 j (nI (sitN S (tH S j % 24) b))) 248 j (rQual (sI (sI S 249 j (nI b)) 250 j (nI (sitN S (tH S j % 24) b))) ns nj (sitN S (tH S j % 24) b) (tS (sI (sI S 249 j (nI b)) 250 j (nI (sitN S (tH S j % 24) b))) j) (nI (tH S j % 24)))) 195 (sitN S (tH S j % 24) b) ((mI A 195 (sitN S (tH S j % 24) b)) + 1)) j (h.e_ta j hj).2) wY_X15_sort wM_X16_135 wIn_X15_sort wSe_X15_X15_sort wI_X15 (by decide) rfl (by decide +kernel) rfl rfl dX16_record_85 ⟨by decide, by decide⟩ (Nat.le_of_ble_eq_true rfl) (⟨Nat.le_of_ble_eq_true rfl, Nat.le_of_ble_eq_true rfl⟩) (fun v6 S1 H locs hp w => ?_)
    obtain ⟨rfl, rfl⟩ := hp
    refine lv_if_ne (tgt := 95) hx hb dX16_record_88 (by decide) (fun hk88 => ?_) (fun hk88 => ?_)
    · refine lv_aload_n hx hb dX16_record_95 rfl (lv_at hl 2 rfl) ?_
      refine cV (S := (sI (sI (sI (sI S 249 j (nI b)) 250 j (nI (sitN S (tH S j % 24) b))) 248 j (rQual (sI (sI S 249 j (nI b)) 250 j (nI (sitN S (tH S j % 24) b))) ns nj (sitN S (tH S j % 24) b) (tS (sI (sI S 249 j (nI b)) 250 j (nI (sitN S (tH S j % 24) b))) j) (nI (tH S j % 24)))) 195 (sitN S (tH S j % 24) b) ((mI A 195 (sitN S (tH S j % 24) b)) + 1))) (nA := 0) (As := []) (rest := [.ref (gG S 15 j)]) X w hl (h.e_ta j hj).2 (m_X15_sort G (sI (sI (sI (sI S 249 j (nI b)) 250 j (nI (sitN S (tH S j % 24) b))) 248 j (rQual (sI (sI S 249 j (nI b)) 250 j (nI (sitN S (tH S j % 24) b))) ns nj (sitN S (tH S j % 24) b) (tS (sI (sI S 249 j (nI b)) 250 j (nI (sitN S (tH S j % 24) b))) j) (nI (tH S j % 24)))) 195 (sitN S (tH S j % 24) b) ((mI A 195 (sitN S (tH S j % 24) b)) + 1)) j (h.e_ta j hj).2) wY_X15_sort wM_X16_135 wIn_X15_sort wSe_X15_X15_sort wI_X15 (by decide) rfl (by decide +kernel) rfl rfl dX16_record_96 ⟨by decide, by decide⟩ (Nat.le_of_ble_eq_true rfl) (⟨Nat.le_of_ble_eq_true rfl, Nat.le_of_ble_eq_true rfl⟩) (fun v7 S1 H locs hp w => ?_)
      obtain ⟨rfl, rfl⟩ := hp
      refine lv_iconst (v := 3) hx hb dX16_record_99 (by decide) ?_
      refine lv_icmp_ge (tgt := 122) hx hb dX16_record_100 (by decide) (fun hk100 => ?_) (fun hk100 => ?_)
      · refine lv_iconst (v := 0) hx hb dX16_record_122 (by decide) ?_
        refine p_15_7 (S := (sI (sI (sI (sI S 249 j (nI b)) 250 j (nI (sitN S (tH S j % 24) b))) 248 j (rQual (sI (sI S 249 j (nI b)) 250 j (nI (sitN S (tH S j % 24) b))) ns nj (sitN S (tH S j % 24) b) (tS (sI (sI S 249 j (nI b)) 250 j (nI (sitN S (tH S j % 24) b))) j) (nI (tH S j % 24)))) 195 (sitN S (tH S j % 24) b) ((mI A 195 (sitN S (tH S j % 24) b)) + 1))) (x := 0) X w (h.e_ta j hj).2 wF_X16_144 dX16_record_123 (fun H locs w => ?_)
        have h : RI ea (sI (sI (sI (sI (sI S 249 j (nI b)) 250 j (nI (sitN S (tH S j % 24) b))) 248 j (rQual (sI (sI S 249 j (nI b)) 250 j (nI (sitN S (tH S j % 24) b))) ns nj (sitN S (tH S j % 24) b) (tS (sI (sI S 249 j (nI b)) 250 j (nI (sitN S (tH S j % 24) b))) j) (nI (tH S j % 24)))) 195 (sitN S (tH S j % 24) b) ((mI A 195 (sitN S (tH S j % 24) b)) + 1)) 247 j 0) ns nj nm nt nr nq := h.s247 (by first | exact ⟨4, by decide, rfl⟩ | exact ⟨3, by decide, rfl⟩ | exact ⟨0, by decide, rfl⟩)
        have hK : Kq hvQ hiQ hrQ S (sI (sI (sI (sI (sI S 249 j (nI b)) 250 j (nI (sitN S (tH S j % 24) b))) 248 j (rQual (sI (sI S 249 j (nI b)) 250 j (nI (sitN S (tH S j % 24) b))) ns nj (sitN S (tH S j % 24) b) (tS (sI (sI S 249 j (nI b)) 250 j (nI (sitN S (tH S j % 24) b))) j) (nI (tH S j % 24)))) 195 (sitN S (tH S j % 24) b) ((mI A 195 (sitN S (tH S j % 24) b)) + 1)) 247 j 0) := hK.sI rfl
        have hE : RF s0 (sI (sI (sI (sI (sI S 249 j (nI b)) 250 j (nI (sitN S (tH S j % 24) b))) 248 j (rQual (sI (sI S 249 j (nI b)) 250 j (nI (sitN S (tH S j % 24) b))) ns nj (sitN S (tH S j % 24) b) (tS (sI (sI S 249 j (nI b)) 250 j (nI (sitN S (tH S j % 24) b))) j) (nI (tH S j % 24)))) 195 (sitN S (tH S j % 24) b) ((mI A 195 (sitN S (tH S j % 24) b)) + 1)) 247 j 0) (sI (sI (sI (sI (sI A 249 j (nI b)) 250 j (nI (sitN S (tH S j % 24) b))) 248 j (rQual (sI (sI S 249 j (nI b)) 250 j (nI (sitN S (tH S j % 24) b))) ns nj (sitN S (tH S j % 24) b) (tS (sI (sI S 249 j (nI b)) 250 j (nI (sitN S (tH S j % 24) b))) j) (nI (tH S j % 24)))) 195 (sitN S (tH S j % 24) b) ((mI A 195 (sitN S (tH S j % 24) b)) + 1)) 247 j 0) nq nt := hE.bI
        exact rV X w rfl dX16_record_126 (by decide) (by decide) (⟨rfl, h, hK, ⟨hQ.1, hQ.2⟩, by rw [← htg]; exact rec_end hE (hE0.sit _ _) (by rw [← hE0.sit, ← hE0.tSq, ← hE0.qual]; rfl) (rcs_x (hE0.1 244 rfl j) (congrArg _ (hE0.tSq j)) (hE0.1 226 rfl _) (by first | exact Or.inl ⟨hk88, rfl⟩ | exact Or.inr (Or.inl ⟨hk88, Int32.not_le.mp hk100, b2i_t hk115, rfl⟩) | exact Or.inr (Or.inr ⟨hk88, Or.inl hk100, rfl⟩) | exact Or.inr (Or.inr ⟨hk88, Or.inr (b2i_f hk115), rfl⟩))) hrc9 hb3⟩)
      · refine lv_aload_n hx hb dX16_record_103 rfl (lv_at hl 1 rfl) ?_
        refine g_16_3 (S := (sI (sI (sI (sI S 249 j (nI b)) 250 j (nI (sitN S (tH S j % 24) b))) 248 j (rQual (sI (sI S 249 j (nI b)) 250 j (nI (sitN S (tH S j % 24) b))) ns nj (sitN S (tH S j % 24) b) (tS (sI (sI S 249 j (nI b)) 250 j (nI (sitN S (tH S j % 24) b))) j) (nI (tH S j % 24)))) 195 (sitN S (tH S j % 24) b) ((mI A 195 (sitN S (tH S j % 24) b)) + 1))) (x := (mI A 259 0)) X w h.v wF_X16_138 (hE0.1 259 rfl 0) dX16_record_104 ?_
        refine lv_aload_n hx hb dX16_record_107 rfl (lv_at hl 1 rfl) ?_
        refine lv_aload_n hx hb dX16_record_108 rfl (lv_at hl 2 rfl) ?_
        refine cV (S := (sI (sI (sI (sI S 249 j (nI b)) 250 j (nI (sitN S (tH S j % 24) b))) 248 j (rQual (sI (sI S 249 j (nI b)) 250 j (nI (sitN S (tH S j % 24) b))) ns nj (sitN S (tH S j % 24) b) (tS (sI (sI S 249 j (nI b)) 250 j (nI (sitN S (tH S j % 24) b))) j) (nI (tH S j % 24)))) 195 (sitN S (tH S j % 24) b) ((mI A 195 (sitN S (tH S j % 24) b)) + 1))) (nA := 1) (As := [.ref (gG S 15 j)]) (rest := [.int (mI A 259 0), .ref (gG S 15 j)]) X w hl h.v (m_X16_landOf G (sI (sI (sI (sI S 249 j (nI b)) 250 j (nI (sitN S (tH S j % 24) b))) 248 j (rQual (sI (sI S 249 j (nI b)) 250 j (nI (sitN S (tH S j % 24) b))) ns nj (sitN S (tH S j % 24) b) (tS (sI (sI S 249 j (nI b)) 250 j (nI (sitN S (tH S j % 24) b))) j) (nI (tH S j % 24)))) 195 (sitN S (tH S j % 24) b) ((mI A 195 (sitN S (tH S j % 24) b)) + 1)) ea ns nj nm nt nr nq h j hj) wY_X16_landOf wM_X16_141 wIn_X16_landOf wSe_X16_X16_landOf wI_X16 (by decide) rfl (by decide +kernel) rfl rfl dX16_record_109 ⟨by decide, by decide⟩ (Nat.le_of_ble_eq_true rfl) (⟨Nat.le_of_ble_eq_true rfl, Nat.le_of_ble_eq_true rfl⟩) (fun v8 S1 H locs hp w => ?_)
        obtain ⟨rfl, rfl⟩ := hp
        refine cS (S := (sI (sI (sI (sI S 249 j (nI b)) 250 j (nI (sitN S (tH S j % 24) b))) 248 j (rQual (sI (sI S 249 j (nI b)) 250 j (nI (sitN S (tH S j % 24) b))) ns nj (sitN S (tH S j % 24) b) (tS (sI (sI S 249 j (nI b)) 250 j (nI (sitN S (tH S j % 24) b))) j) (nI (tH S j % 24)))) 195 (sitN S (tH S j % 24) b) ((mI A 195 (sitN S (tH S j % 24) b)) + 1))) (nA := 2) (As := [.int (mI A 259 0), .int (mI (sI (sI (sI (sI S 249 j (nI b)) 250 j (nI (sitN S (tH S j % 24) b))) 248 j (rQual (sI (sI S 249 j (nI b)) 250 j (nI (sitN S (tH S j % 24) b))) ns nj (sitN S (tH S j % 24) b) (tS (sI (sI S 249 j (nI b)) 250 j (nI (sitN S (tH S j % 24) b))) j) (nI (tH S j % 24)))) 195 (sitN S (tH S j % 24) b) ((mI A 195 (sitN S (tH S j % 24) b)) + 1)) 226 (tS (sI (sI (sI (sI S 249 j (nI b)) 250 j (nI (sitN S (tH S j % 24) b))) 248 j (rQual (sI (sI S 249 j (nI b)) 250 j (nI (sitN S (tH S j % 24) b))) ns nj (sitN S (tH S j % 24) b) (tS (sI (sI S 249 j (nI b)) 250 j (nI (sitN S (tH S j % 24) b))) j) (nI (tH S j % 24)))) 195 (sitN S (tH S j % 24) b) ((mI A 195 (sitN S (tH S j % 24) b)) + 1)) j))]) (rest := [.ref (gG S 15 j)]) X w hl (m_X16_has G (sI (sI (sI (sI S 249 j (nI b)) 250 j (nI (sitN S (tH S j % 24) b))) 248 j (rQual (sI (sI S 249 j (nI b)) 250 j (nI (sitN S (tH S j % 24) b))) ns nj (sitN S (tH S j % 24) b) (tS (sI (sI S 249 j (nI b)) 250 j (nI (sitN S (tH S j % 24) b))) j) (nI (tH S j % 24)))) 195 (sitN S (tH S j % 24) b) ((mI A 195 (sitN S (tH S j % 24) b)) + 1)) (mI A 259 0) (mI (sI (sI (sI (sI S 249 j (nI b)) 250 j (nI (sitN S (tH S j % 24) b))) 248 j (rQual (sI (sI S 249 j (nI b)) 250 j (nI (sitN S (tH S j % 24) b))) ns nj (sitN S (tH S j % 24) b) (tS (sI (sI S 249 j (nI b)) 250 j (nI (sitN S (tH S j % 24) b))) j) (nI (tH S j % 24)))) 195 (sitN S (tH S j % 24) b) ((mI A 195 (sitN S (tH S j % 24) b)) + 1)) 226 (tS (sI (sI (sI (sI S 249 j (nI b)) 250 j (nI (sitN S (tH S j % 24) b))) 248 j (rQual (sI (sI S 249 j (nI b)) 250 j (nI (sitN S (tH S j % 24) b))) ns nj (sitN S (tH S j % 24) b) (tS (sI (sI S 249 j (nI b)) 250 j (nI (sitN S (tH S j % 24) b))) j) (nI (tH S j % 24)))) 195 (sitN S (tH S j % 24) b) ((mI A 195 (sitN S (tH S j % 24) b)) + 1)) j))) wY_X16_has wM_X16_57 wSt_X16_has wI_X16 (by decide +kernel) rfl rfl dX16_record_112 ⟨by decide, by decide⟩ (Nat.le_of_ble_eq_true rfl) (⟨Nat.le_of_ble_eq_true rfl, Nat.le_of_ble_eq_true rfl⟩) (fun v9 S1 H locs hp w => ?_)
        obtain ⟨rfl, rfl⟩ := hp
        refine lv_if_eq (tgt := 122) hx hb dX16_record_115 (by decide) (fun hk115 => ?_) (fun hk115 => ?_)
        · refine lv_iconst (v := 0) hx hb dX16_record_122 (by decide) ?_
          refine p_15_7 (S := (sI (sI (sI (sI S 249 j (nI b)) 250 j (nI (sitN S (tH S j % 24) b))) 248 j (rQual (sI (sI S 249 j (nI b)) 250 j (nI (sitN S (tH S j % 24) b))) ns nj (sitN S (tH S j % 24) b) (tS (sI (sI S 249 j (nI b)) 250 j (nI (sitN S (tH S j % 24) b))) j) (nI (tH S j % 24)))) 195 (sitN S (tH S j % 24) b) ((mI A 195 (sitN S (tH S j % 24) b)) + 1))) (x := 0) X w (h.e_ta j hj).2 wF_X16_144 dX16_record_123 (fun H locs w => ?_)
          have h : RI ea (sI (sI (sI (sI (sI S 249 j (nI b)) 250 j (nI (sitN S (tH S j % 24) b))) 248 j (rQual (sI (sI S 249 j (nI b)) 250 j (nI (sitN S (tH S j % 24) b))) ns nj (sitN S (tH S j % 24) b) (tS (sI (sI S 249 j (nI b)) 250 j (nI (sitN S (tH S j % 24) b))) j) (nI (tH S j % 24)))) 195 (sitN S (tH S j % 24) b) ((mI A 195 (sitN S (tH S j % 24) b)) + 1)) 247 j 0) ns nj nm nt nr nq := h.s247 (by first | exact ⟨4, by decide, rfl⟩ | exact ⟨3, by decide, rfl⟩ | exact ⟨0, by decide, rfl⟩)
          have hK : Kq hvQ hiQ hrQ S (sI (sI (sI (sI (sI S 249 j (nI b)) 250 j (nI (sitN S (tH S j % 24) b))) 248 j (rQual (sI (sI S 249 j (nI b)) 250 j (nI (sitN S (tH S j % 24) b))) ns nj (sitN S (tH S j % 24) b) (tS (sI (sI S 249 j (nI b)) 250 j (nI (sitN S (tH S j % 24) b))) j) (nI (tH S j % 24)))) 195 (sitN S (tH S j % 24) b) ((mI A 195 (sitN S (tH S j % 24) b)) + 1)) 247 j 0) := hK.sI rfl
          have hE : RF s0 (sI (sI (sI (sI (sI S 249 j (nI b)) 250 j (nI (sitN S (tH S j % 24) b))) 248 j (rQual (sI (sI S 249 j (nI b)) 250 j (nI (sitN S (tH S j % 24) b))) ns nj (sitN S (tH S j % 24) b) (tS (sI (sI S 249 j (nI b)) 250 j (nI (sitN S (tH S j % 24) b))) j) (nI (tH S j % 24)))) 195 (sitN S (tH S j % 24) b) ((mI A 195 (sitN S (tH S j % 24) b)) + 1)) 247 j 0) (sI (sI (sI (sI (sI A 249 j (nI b)) 250 j (nI (sitN S (tH S j % 24) b))) 248 j (rQual (sI (sI S 249 j (nI b)) 250 j (nI (sitN S (tH S j % 24) b))) ns nj (sitN S (tH S j % 24) b) (tS (sI (sI S 249 j (nI b)) 250 j (nI (sitN S (tH S j % 24) b))) j) (nI (tH S j % 24)))) 195 (sitN S (tH S j % 24) b) ((mI A 195 (sitN S (tH S j % 24) b)) + 1)) 247 j 0) nq nt := hE.bI
          exact rV X w rfl dX16_record_126 (by decide) (by decide) (⟨rfl, h, hK, ⟨hQ.1, hQ.2⟩, by rw [← htg]; exact rec_end hE (hE0.sit _ _) (by rw [← hE0.sit, ← hE0.tSq, ← hE0.qual]; rfl) (rcs_x (hE0.1 244 rfl j) (congrArg _ (hE0.tSq j)) (hE0.1 226 rfl _) (by first | exact Or.inl ⟨hk88, rfl⟩ | exact Or.inr (Or.inl ⟨hk88, Int32.not_le.mp hk100, b2i_t hk115, rfl⟩) | exact Or.inr (Or.inr ⟨hk88, Or.inl hk100, rfl⟩) | exact Or.inr (Or.inr ⟨hk88, Or.inr (b2i_f hk115), rfl⟩))) hrc9 hb3⟩)
        · refine lv_iconst (v := 3) hx hb dX16_record_118 (by decide) ?_
          refine lv_goto (tgt := 123) hx hb dX16_record_119 (by decide) ?_
          refine p_15_7 (S := (sI (sI (sI (sI S 249 j (nI b)) 250 j (nI (sitN S (tH S j % 24) b))) 248 j (rQual (sI (sI S 249 j (nI b)) 250 j (nI (sitN S (tH S j % 24) b))) ns nj (sitN S (tH S j % 24) b) (tS (sI (sI S 249 j (nI b)) 250 j (nI (sitN S (tH S j % 24) b))) j) (nI (tH S j % 24)))) 195 (sitN S (tH S j % 24) b) ((mI A 195 (sitN S (tH S j % 24) b)) + 1))) (x := 3) X w (h.e_ta j hj).2 wF_X16_144 dX16_record_123 (fun H locs w => ?_)
          have h : RI ea (sI (sI (sI (sI (sI S 249 j (nI b)) 250 j (nI (sitN S (tH S j % 24) b))) 248 j (rQual (sI (sI S 249 j (nI b)) 250 j (nI (sitN S (tH S j % 24) b))) ns nj (sitN S (tH S j % 24) b) (tS (sI (sI S 249 j (nI b)) 250 j (nI (sitN S (tH S j % 24) b))) j) (nI (tH S j % 24)))) 195 (sitN S (tH S j % 24) b) ((mI A 195 (sitN S (tH S j % 24) b)) + 1)) 247 j 3) ns nj nm nt nr nq := h.s247 (by first | exact ⟨4, by decide, rfl⟩ | exact ⟨3, by decide, rfl⟩ | exact ⟨0, by decide, rfl⟩)
          have hK : Kq hvQ hiQ hrQ S (sI (sI (sI (sI (sI S 249 j (nI b)) 250 j (nI (sitN S (tH S j % 24) b))) 248 j (rQual (sI (sI S 249 j (nI b)) 250 j (nI (sitN S (tH S j % 24) b))) ns nj (sitN S (tH S j % 24) b) (tS (sI (sI S 249 j (nI b)) 250 j (nI (sitN S (tH S j % 24) b))) j) (nI (tH S j % 24)))) 195 (sitN S (tH S j % 24) b) ((mI A 195 (sitN S (tH S j % 24) b)) + 1)) 247 j 3) := hK.sI rfl
          have hE : RF s0 (sI (sI (sI (sI (sI S 249 j (nI b)) 250 j (nI (sitN S (tH S j % 24) b))) 248 j (rQual (sI (sI S 249 j (nI b)) 250 j (nI (sitN S (tH S j % 24) b))) ns nj (sitN S (tH S j % 24) b) (tS (sI (sI S 249 j (nI b)) 250 j (nI (sitN S (tH S j % 24) b))) j) (nI (tH S j % 24)))) 195 (sitN S (tH S j % 24) b) ((mI A 195 (sitN S (tH S j % 24) b)) + 1)) 247 j 3) (sI (sI (sI (sI (sI A 249 j (nI b)) 250 j (nI (sitN S (tH S j % 24) b))) 248 j (rQual (sI (sI S 249 j (nI b)) 250 j (nI (sitN S (tH S j % 24) b))) ns nj (sitN S (tH S j % 24) b) (tS (sI (sI S 249 j (nI b)) 250 j (nI (sitN S (tH S j % 24) b))) j) (nI (tH S j % 24)))) 195 (sitN S (tH S j % 24) b) ((mI A 195 (sitN S (tH S j % 24) b)) + 1)) 247 j 3) nq nt := hE.bI
          exact rV X w rfl dX16_record_126 (by decide) (by decide) (⟨rfl, h, hK, ⟨hQ.1, hQ.2⟩, by rw [← htg]; exact rec_end hE (hE0.sit _ _) (by rw [← hE0.sit, ← hE0.tSq, ← hE0.qual]; rfl) (rcs_x (hE0.1 244 rfl j) (congrArg _ (hE0.tSq j)) (hE0.1 226 rfl _) (by first | exact Or.inl ⟨hk88, rfl⟩ | exact Or.inr (Or.inl ⟨hk88, Int32.not_le.mp hk100, b2i_t hk115, rfl⟩) | exact Or.inr (Or.inr ⟨hk88, Or.inl hk100, rfl⟩) | exact Or.inr (Or.inr ⟨hk88, Or.inr (b2i_f hk115), rfl⟩))) hrc9 hb3⟩)
    · refine lv_iconst (v := 4) hx hb dX16_record_91 (by decide) ?_
      refine lv_goto (tgt := 123) hx hb dX16_record_92 (by decide) ?_
      refine p_15_7 (S := (sI (sI (sI (sI S 249 j (nI b)) 250 j (nI (sitN S (tH S j % 24) b))) 248 j (rQual (sI (sI S 249 j (nI b)) 250 j (nI (sitN S (tH S j % 24) b))) ns nj (sitN S (tH S j % 24) b) (tS (sI (sI S 249 j (nI b)) 250 j (nI (sitN S (tH S j % 24) b))) j) (nI (tH S j % 24)))) 195 (sitN S (tH S j % 24) b) ((mI A 195 (sitN S (tH S j % 24) b)) + 1))) (x := 4) X w (h.e_ta j hj).2 wF_X16_144 dX16_record_123 (fun H locs w => ?_)
      have h : RI ea (sI (sI (sI (sI (sI S 249 j (nI b)) 250 j (nI (sitN S (tH S j % 24) b))) 248 j (rQual (sI (sI S 249 j (nI b)) 250 j (nI (sitN S (tH S j % 24) b))) ns nj (sitN S (tH S j % 24) b) (tS (sI (sI S 249 j (nI b)) 250 j (nI (sitN S (tH S j % 24) b))) j) (nI (tH S j % 24)))) 195 (sitN S (tH S j % 24) b) ((mI A 195 (sitN S (tH S j % 24) b)) + 1)) 247 j 4) ns nj nm nt nr nq := h.s247 (by first | exact ⟨4, by decide, rfl⟩ | exact ⟨3, by decide, rfl⟩ | exact ⟨0, by decide, rfl⟩)
      have hK : Kq hvQ hiQ hrQ S (sI (sI (sI (sI (sI S 249 j (nI b)) 250 j (nI (sitN S (tH S j % 24) b))) 248 j (rQual (sI (sI S 249 j (nI b)) 250 j (nI (sitN S (tH S j % 24) b))) ns nj (sitN S (tH S j % 24) b) (tS (sI (sI S 249 j (nI b)) 250 j (nI (sitN S (tH S j % 24) b))) j) (nI (tH S j % 24)))) 195 (sitN S (tH S j % 24) b) ((mI A 195 (sitN S (tH S j % 24) b)) + 1)) 247 j 4) := hK.sI rfl
      have hE : RF s0 (sI (sI (sI (sI (sI S 249 j (nI b)) 250 j (nI (sitN S (tH S j % 24) b))) 248 j (rQual (sI (sI S 249 j (nI b)) 250 j (nI (sitN S (tH S j % 24) b))) ns nj (sitN S (tH S j % 24) b) (tS (sI (sI S 249 j (nI b)) 250 j (nI (sitN S (tH S j % 24) b))) j) (nI (tH S j % 24)))) 195 (sitN S (tH S j % 24) b) ((mI A 195 (sitN S (tH S j % 24) b)) + 1)) 247 j 4) (sI (sI (sI (sI (sI A 249 j (nI b)) 250 j (nI (sitN S (tH S j % 24) b))) 248 j (rQual (sI (sI S 249 j (nI b)) 250 j (nI (sitN S (tH S j % 24) b))) ns nj (sitN S (tH S j % 24) b) (tS (sI (sI S 249 j (nI b)) 250 j (nI (sitN S (tH S j % 24) b))) j) (nI (tH S j % 24)))) 195 (sitN S (tH S j % 24) b) ((mI A 195 (sitN S (tH S j % 24) b)) + 1)) 247 j 4) nq nt := hE.bI
      exact rV X w rfl dX16_record_126 (by decide) (by decide) (⟨rfl, h, hK, ⟨hQ.1, hQ.2⟩, by rw [← htg]; exact rec_end hE (hE0.sit _ _) (by rw [← hE0.sit, ← hE0.tSq, ← hE0.qual]; rfl) (rcs_x (hE0.1 244 rfl j) (congrArg _ (hE0.tSq j)) (hE0.1 226 rfl _) (by first | exact Or.inl ⟨hk88, rfl⟩ | exact Or.inr (Or.inl ⟨hk88, Int32.not_le.mp hk100, b2i_t hk115, rfl⟩) | exact Or.inr (Or.inr ⟨hk88, Or.inl hk100, rfl⟩) | exact Or.inr (Or.inr ⟨hk88, Or.inr (b2i_f hk115), rfl⟩))) hrc9 hb3⟩)
  · have hrm : rRec A ns nj j (tH S j % 24) 3 = -1 := (hE.rec _ _ _ _ 3).symm.trans (erc.symm.trans hne)
    exact rV X w rfl dX16_record_11 (by decide) (by decide) (⟨rfl, h, hK, hQ, by unfold recA; rw [← htg, if_pos hrm]; exact hE⟩)

abbrev rm_r_X16_enqueue : Room := { frames := 7, cells := 1, slots := 49, locals := 191 }
set_option maxHeartbeats 4000000 in
set_option maxRecDepth 100000 in
theorem r_X16_enqueue {s0 : State} {l : Launch} {D : va_G} {cy : Nat → ClassId} (G : Gl s0 l D cy) (S : HS) (ea ns nj nm nt nr nq : Nat) (h : RI ea S ns nj nm nt nr nq) (A : HS) (hE : RF s0 S A nq nt) (hea : ea = eaOf s0) (j : Nat) (hj : j < nt) (hQ : QI s0 S nq nt) : Ctr s0 l D cy yX16_enqueue cX16_enqueue 3 none rm_r_X16_enqueue S [.ref (gG S 16 0), .int (nI j)] (fun v S' => none = v ∧ ∃ nq', RI ea S' ns nj nm nt nr nq' ∧ Kq hvQ hiQ hrQ S S' ∧ QI s0 S' nq' nt ∧ RF s0 S' (enA A j) nq' nt) := by
  refine pro "CavershamShiftModel" G rfl rfl (Nat.le_of_ble_eq_true rfl) (fun p e s m below meth c ls X w hnm hl => ?_)
  have hx := X.1
  have hb := X.2.1
  have hown := X.2.2.2.1
  have hts := X.2.2.2.2.1
  have hl : lv_has ls 3 [(0, .ref (gG S 16 0)), (1, .int (nI j))] := hl
  have h0 := h
  have hK : Kq hvQ hiQ hrQ S S := Kq.rf
  have hb9 := h.b_ta
  have hq9 := hQ.le
  have hE0 := hE
  refine lv_aload_n hx hb dX16_enqueue_0 rfl (lv_at hl 0 rfl) ?_
  refine g_16_9 (S := S) (x := (some (gG S 17 9))) X w h.v wF_X16_26 (h.f_ta) dX16_enqueue_1 ?_
  refine lv_iload_n hx hb dX16_enqueue_4 rfl (lv_at hl 1 rfl) ?_
  refine cF (S := S) (t := 17) (nA := 1) (As := [.int (nI j)]) (rest := []) X w hl h.l_ta.1 (m_get G S ea 9 j nt (some (gG S 15 j)) h.l_ta hj (h.e_ta j hj).1) wY_Jx4a65c_get_915e3 wM_X16_46 wIn_Jx4a65c_get_915e3 wSe_Jx4a65c_Jx4a65c_get_915e3_of_java_util_List_get__I_Ljava_lang_Object_ wI_Jx4a65c fw_get (by decide) rfl (by decide +kernel) rfl rfl dX16_enqueue_5 ⟨by decide, by decide⟩ (Nat.le_of_ble_eq_true rfl) (⟨Nat.le_of_ble_eq_true rfl, Nat.le_of_ble_eq_true rfl⟩) (fun v1 S1 H locs hp w => ?_)
  obtain ⟨rfl, rfl⟩ := hp
  refine ckC (S := S) (t := 15) X w (h.e_ta j hj).2 (by decide) rfl wC_X16_105 dX16_enqueue_10 ?_
  refine lv_astore_n (lv' := [(2, .ref (gG S 15 j)), (0, .ref (gG S 16 0)), (1, .int (nI j))]) hx hb dX16_enqueue_13 rfl hl (by decide) rfl (fun ls hl => ?_)
  refine lv_aload_n hx hb dX16_enqueue_14 rfl (lv_at hl 0 rfl) ?_
  refine cV (S := S) (nA := 0) (As := []) (rest := []) X w hl (h.e_ta j hj).2 (m_X15_isWrong G S j (h.e_ta j hj).2) wY_X15_isWrong wM_X16_157 wIn_X15_isWrong wSe_X15_X15_isWrong wI_X15 (by decide) rfl (by decide +kernel) rfl rfl dX16_enqueue_15 ⟨by decide, by decide⟩ (Nat.le_of_ble_eq_true rfl) (⟨Nat.le_of_ble_eq_true rfl, Nat.le_of_ble_eq_true rfl⟩) (fun v2 S1 H locs hp w => ?_)
  obtain ⟨rfl, rfl⟩ := hp
  refine lv_if_eq (tgt := 28) hx hb dX16_enqueue_18 (by decide) (fun hw9 => ?_) (fun hw9 => ?_)
  · exact rV X w rfl dX16_enqueue_28 (by decide) (by decide) (⟨rfl, _, h, hK, hQ, by first | (rw [enA_f ((hE.wrong j).symm.trans (b2i_f hw9))]; exact hE) | (rw [show enA A j = A from if_neg (fun z => by rw [decide_eq_false (fun y => hz9 ((hE.1 253 rfl j).trans y)), Bool.and_false] at z; exact absurd z (by decide))]; exact hE)⟩)
  · refine lv_aload_n hx hb dX16_enqueue_21 rfl (lv_at hl 0 rfl) ?_
    refine g_15_13 (S := S) (x := (mI S 253 j)) X w (h.e_ta j hj).2 wF_X16_161 (rfl) dX16_enqueue_22 ?_
    refine lv_if_eq (tgt := 29) hx hb dX16_enqueue_25 (by decide) (fun hz9 => ?_) (fun hz9 => ?_)
    · have hz9A : mI A 253 j = 0 := (hE.1 253 rfl j).symm.trans hz9
      have hwr9 := (hE.wrong j).symm.trans (b2i_t hw9)
      refine lv_aload_n hx hb dX16_enqueue_29 rfl (lv_at hl 0 rfl) ?_
      refine lv_iconst (v := 1) hx hb dX16_enqueue_30 (by decide) ?_
      refine p_15_13 (S := S) (x := 1) X w (h.e_ta j hj).2 wF_X16_161 dX16_enqueue_31 (fun H locs w => ?_)
      have h : RI ea (sI S 253 j 1) ns nj nm nt nr nq := h.stI (by decide)
      have hK : Kq hvQ hiQ hrQ S (sI S 253 j 1) := hK.sI rfl
      have hqr : nq + 1 ≤ cntB (fun y9 => decide (mI (sI S 253 j 1) 253 y9 ≠ 0)) nt := Nat.le_trans (Nat.succ_le_succ hQ.2) (cntB_lt nt (fun k _ z => decide_eq_true (by
          by_cases e : k = j
          · rw [e, show mI (sI S 253 j 1) 253 j = 1 from up2_s _ _ _ _]; decide
          · rw [show mI (sI S 253 j 1) 253 k = mI S 253 k from up2_n (fun y => e y.2)]; exact of_decide_eq_true z)) j hj (by simp [hz9]) (decide_eq_true (by rw [show mI (sI S 253 j 1) 253 j = 1 from up2_s _ _ _ _]; decide)))
      have hQ : QI s0 (sI S 253 j 1) nq nt := ⟨hQ.1, Nat.le_of_succ_le hqr⟩
      have hE : RF s0 (sI S 253 j 1) (sI A 253 j 1) nq nt := hE.bI
      refine lv_aload_n hx hb dX16_enqueue_34 rfl (lv_at hl 1 rfl) ?_
      refine g_16_11 (S := (sI S 253 j 1)) (x := (some (gG (sI S 253 j 1) 17 11))) X w h.v wF_X16_32 (h.f_qu) dX16_enqueue_35 ?_
      refine lv_iload_n hx hb dX16_enqueue_38 rfl (lv_at hl 2 rfl) ?_
      refine cS (S := (sI S 253 j 1)) (nA := 1) (As := [.int (nI j)]) (rest := [.ref (gG (sI S 253 j 1) 17 11)]) X w hl (m_J6_valueOf_2dffe G (sI S 253 j 1) j (Nat.lt_of_lt_of_le hj h.b_ta)) wY_J6_valueOf_2dffe wM_X16_164 wSt_J6_valueOf_2dffe wI_J6 (by decide +kernel) rfl rfl dX16_enqueue_39 ⟨by decide, by decide⟩ (Nat.le_of_ble_eq_true rfl) (⟨Nat.le_of_ble_eq_true rfl, Nat.le_of_ble_eq_true rfl⟩) (fun v3 S1 H locs hp w => ?_)
      obtain ⟨rfl, rfl⟩ := hp
      refine cF (S := (sI S 253 j 1)) (t := 17) (nA := 1) (As := [.ref (iq s0 j)]) (rest := []) X w hl h.l_qu.1 (add_qu G (sI S 253 j 1) ea ns nj nm nt nr nq h hea hQ j hj) wY_Jx4a65c_add_9ea2d wM_X16_170 wIn_Jx4a65c_add_9ea2d wSe_Jx4a65c_Jx4a65c_add_9ea2d_of_java_util_List_add__Ljava_lang_Object__Z wI_Jx4a65c fw_add (by decide) rfl (by decide +kernel) rfl rfl dX16_enqueue_42 ⟨by decide, by decide⟩ (Nat.le_of_ble_eq_true rfl) (⟨Nat.le_of_ble_eq_true rfl, Nat.le_of_ble_eq_true rfl⟩) (fun v4 S1 H locs hp w => ?_)
      obtain ⟨rfl, q2, m2, b2, rfl, hb0, hb1⟩ := hp
      have h : RI ea (addS (sI S 253 j 1) 11 q2 (capOf (nq + 1)) m2 (nI (nq + 1)) b2) ns nj nm nt nr (nq + 1) := h.addqu (Nat.lt_of_lt_of_le hqr (Nat.le_trans (cntB_le _ nt) hb9))
      have hK : Kq hvQ hiQ hrQ S (addS (sI S 253 j 1) 11 q2 (capOf (nq + 1)) m2 (nI (nq + 1)) b2) := hK.add rfl rfl rfl rfl
      have hQ : QI s0 (addS (sI S 253 j 1) 11 q2 (capOf (nq + 1)) m2 (nI (nq + 1)) b2) (nq + 1) nt := hQ.add hj hqr hb0 hb1
      have hE : RF s0 (addS (sI S 253 j 1) 11 q2 (capOf (nq + 1)) m2 (nI (nq + 1)) b2) (enA A j) (nq + 1) nt := by rw [enA_t hwr9 hz9A, hE0.2.2.1]; exact hE.add hj hb0 hb1
      refine lv_pop hx hb dX16_enqueue_47 rfl ?_
      exact rV X w rfl dX16_enqueue_48 (by decide) (by decide) (⟨rfl, _, h, hK, hQ, hE⟩)
    · exact rV X w rfl dX16_enqueue_28 (by decide) (by decide) (⟨rfl, _, h, hK, hQ, by first | (rw [enA_f ((hE.wrong j).symm.trans (b2i_f hw9))]; exact hE) | (rw [show enA A j = A from if_neg (fun z => by rw [decide_eq_false (fun y => hz9 ((hE.1 253 rfl j).trans y)), Bool.and_false] at z; exact absurd z (by decide))]; exact hE)⟩)

abbrev rm_r_X16_enqueue_y (nq : Nat) : Room := { frames := 7, cells := addC nq, slots := addL nq, locals := 191 }
set_option maxHeartbeats 4000000 in
set_option maxRecDepth 100000 in
theorem r_X16_enqueue_y {s0 : State} {l : Launch} {D : va_G} {cy : Nat → ClassId} (G : Gl s0 l D cy) (S : HS) (ea ns nj nm nt nr nq : Nat) (h : RI ea S ns nj nm nt nr nq) (A : HS) (hE : RF s0 S A nq nt) (hea : ea = eaOf s0) (j : Nat) (hj : j < nt) (hQ : QI s0 S nq nt) (hy : rWrong (mI S 247 j) (mI S 246 j) (mI S 245 j) (mI S 248 j) = true) (hz : mI S 253 j = 0) : Ctr s0 l D cy yX16_enqueue cX16_enqueue 3 none (rm_r_X16_enqueue_y nq) S [.ref (gG S 16 0), .int (nI j)] (fun v S' => none = v ∧ RI ea S' ns nj nm nt nr (nq + 1) ∧ Kq hvQ hiQ hrQ S S' ∧ QI s0 S' (nq + 1) nt ∧ RF s0 S' (enA A j) (nq + 1) nt ∧ (∀ i, mI S' 247 i = mI S 247 i)) := by
  refine pro "CavershamShiftModel" G rfl rfl (Nat.le_of_ble_eq_true rfl) (fun p e s m below meth c ls X w hnm hl => ?_)
  have hx := X.1
  have hb := X.2.1
  have hown := X.2.2.2.1
  have hts := X.2.2.2.2.1
  have hl : lv_has ls 3 [(0, .ref (gG S 16 0)), (1, .int (nI j))] := hl
  have h0 := h
  have hK : Kq hvQ hiQ hrQ S S := Kq.rf
  have hb9 := h.b_ta
  have hq9 := hQ.le
  have hE0 := hE
  have hz9A : mI A 253 j = 0 := (hE.1 253 rfl j).symm.trans hz
  have hwr9 := (hE.wrong j).symm.trans hy
  refine lv_aload_n hx hb dX16_enqueue_0 rfl (lv_at hl 0 rfl) ?_
  refine g_16_9 (S := S) (x := (some (gG S 17 9))) X w h.v wF_X16_26 (h.f_ta) dX16_enqueue_1 ?_
  refine lv_iload_n hx hb dX16_enqueue_4 rfl (lv_at hl 1 rfl) ?_
  refine cF (S := S) (t := 17) (nA := 1) (As := [.int (nI j)]) (rest := []) X w hl h.l_ta.1 (m_get G S ea 9 j nt (some (gG S 15 j)) h.l_ta hj (h.e_ta j hj).1) wY_Jx4a65c_get_915e3 wM_X16_46 wIn_Jx4a65c_get_915e3 wSe_Jx4a65c_Jx4a65c_get_915e3_of_java_util_List_get__I_Ljava_lang_Object_ wI_Jx4a65c fw_get (by decide) rfl (by decide +kernel) rfl rfl dX16_enqueue_5 ⟨Nat.le_of_ble_eq_true rfl, Nat.le_of_ble_eq_true rfl⟩ (Nat.le_of_ble_eq_true rfl) (⟨Nat.le_of_ble_eq_true rfl, Nat.le_of_ble_eq_true rfl⟩) (fun v1 S1 H locs hp w => ?_)
  obtain ⟨rfl, rfl⟩ := hp
  refine ckC (S := S) (t := 15) X w (h.e_ta j hj).2 (by decide) rfl wC_X16_105 dX16_enqueue_10 ?_
  refine lv_astore_n (lv' := [(2, .ref (gG S 15 j)), (0, .ref (gG S 16 0)), (1, .int (nI j))]) hx hb dX16_enqueue_13 rfl hl (by decide) rfl (fun ls hl => ?_)
  refine lv_aload_n hx hb dX16_enqueue_14 rfl (lv_at hl 0 rfl) ?_
  refine cV (S := S) (nA := 0) (As := []) (rest := []) X w hl (h.e_ta j hj).2 (m_X15_isWrong G S j (h.e_ta j hj).2) wY_X15_isWrong wM_X16_157 wIn_X15_isWrong wSe_X15_X15_isWrong wI_X15 (by decide) rfl (by decide +kernel) rfl rfl dX16_enqueue_15 ⟨Nat.le_of_ble_eq_true rfl, Nat.le_of_ble_eq_true rfl⟩ (Nat.le_of_ble_eq_true rfl) (⟨Nat.le_of_ble_eq_true rfl, Nat.le_of_ble_eq_true rfl⟩) (fun v2 S1 H locs hp w => ?_)
  obtain ⟨rfl, rfl⟩ := hp
  refine lv_if_eq (tgt := 28) hx hb dX16_enqueue_18 (by decide) (fun hw9 => ?_) (fun hw9 => ?_)
  · exact absurd (b2i_f hw9) (by rw [hy]; decide)
  · refine lv_aload_n hx hb dX16_enqueue_21 rfl (lv_at hl 0 rfl) ?_
    refine g_15_13 (S := S) (x := (mI S 253 j)) X w (h.e_ta j hj).2 wF_X16_161 (rfl) dX16_enqueue_22 ?_
    refine lv_if_eq (tgt := 29) hx hb dX16_enqueue_25 (by decide) (fun hz9 => ?_) (fun hz9 => ?_)
    · refine lv_aload_n hx hb dX16_enqueue_29 rfl (lv_at hl 0 rfl) ?_
      refine lv_iconst (v := 1) hx hb dX16_enqueue_30 (by decide) ?_
      refine p_15_13 (S := S) (x := 1) X w (h.e_ta j hj).2 wF_X16_161 dX16_enqueue_31 (fun H locs w => ?_)
      have h : RI ea (sI S 253 j 1) ns nj nm nt nr nq := h.stI (by decide)
      have hK : Kq hvQ hiQ hrQ S (sI S 253 j 1) := hK.sI rfl
      have hqr : nq + 1 ≤ cntB (fun y9 => decide (mI (sI S 253 j 1) 253 y9 ≠ 0)) nt := Nat.le_trans (Nat.succ_le_succ hQ.2) (cntB_lt nt (fun k _ z => decide_eq_true (by
          by_cases e : k = j
          · rw [e, show mI (sI S 253 j 1) 253 j = 1 from up2_s _ _ _ _]; decide
          · rw [show mI (sI S 253 j 1) 253 k = mI S 253 k from up2_n (fun y => e y.2)]; exact of_decide_eq_true z)) j hj (by simp [hz]) (decide_eq_true (by rw [show mI (sI S 253 j 1) 253 j = 1 from up2_s _ _ _ _]; decide)))
      have hQ : QI s0 (sI S 253 j 1) nq nt := ⟨hQ.1, Nat.le_of_succ_le hqr⟩
      have hE : RF s0 (sI S 253 j 1) (sI A 253 j 1) nq nt := hE.bI
      refine lv_aload_n hx hb dX16_enqueue_34 rfl (lv_at hl 1 rfl) ?_
      refine g_16_11 (S := (sI S 253 j 1)) (x := (some (gG (sI S 253 j 1) 17 11))) X w h.v wF_X16_32 (h.f_qu) dX16_enqueue_35 ?_
      refine lv_iload_n hx hb dX16_enqueue_38 rfl (lv_at hl 2 rfl) ?_
      refine cS (S := (sI S 253 j 1)) (nA := 1) (As := [.int (nI j)]) (rest := [.ref (gG (sI S 253 j 1) 17 11)]) X w hl (m_J6_valueOf_2dffe G (sI S 253 j 1) j (Nat.lt_of_lt_of_le hj h.b_ta)) wY_J6_valueOf_2dffe wM_X16_164 wSt_J6_valueOf_2dffe wI_J6 (by decide +kernel) rfl rfl dX16_enqueue_39 ⟨Nat.le_of_ble_eq_true rfl, Nat.le_of_ble_eq_true rfl⟩ (Nat.le_of_ble_eq_true rfl) (⟨Nat.le_of_ble_eq_true rfl, Nat.le_of_ble_eq_true rfl⟩) (fun v3 S1 H locs hp w => ?_)
      obtain ⟨rfl, rfl⟩ := hp
      refine cF (S := (sI S 253 j 1)) (t := 17) (nA := 1) (As := [.ref (iq s0 j)]) (rest := []) X w hl h.l_qu.1 (add_qun G (sI S 253 j 1) ea ns nj nm nt nr nq h hea hQ j hj) wY_Jx4a65c_add_9ea2d wM_X16_170 wIn_Jx4a65c_add_9ea2d wSe_Jx4a65c_Jx4a65c_add_9ea2d_of_java_util_List_add__Ljava_lang_Object__Z wI_Jx4a65c fw_add (by decide) rfl (by decide +kernel) rfl rfl dX16_enqueue_42 ⟨Nat.le_of_ble_eq_true rfl, Nat.le_of_ble_eq_true rfl⟩ (Nat.le_of_ble_eq_true rfl) (⟨show 0 + addC nq ≤ addC nq by omega, show 0 + addL nq ≤ addL nq by omega⟩) (fun v4 S1 H locs hp w => ?_)
      obtain ⟨rfl, q2, m2, b2, rfl, hb0, hb1⟩ := hp
      have h : RI ea (addS (sI S 253 j 1) 11 q2 (capOf (nq + 1)) m2 (nI (nq + 1)) b2) ns nj nm nt nr (nq + 1) := h.addqu (Nat.lt_of_lt_of_le hqr (Nat.le_trans (cntB_le _ nt) hb9))
      have hK : Kq hvQ hiQ hrQ S (addS (sI S 253 j 1) 11 q2 (capOf (nq + 1)) m2 (nI (nq + 1)) b2) := hK.add rfl rfl rfl rfl
      have hQ : QI s0 (addS (sI S 253 j 1) 11 q2 (capOf (nq + 1)) m2 (nI (nq + 1)) b2) (nq + 1) nt := hQ.add hj hqr hb0 hb1
      have hE : RF s0 (addS (sI S 253 j 1) 11 q2 (capOf (nq + 1)) m2 (nI (nq + 1)) b2) (enA A j) (nq + 1) nt := by rw [enA_t hwr9 hz9A, hE0.2.2.1]; exact hE.add hj hb0 hb1
      refine lv_pop hx hb dX16_enqueue_47 rfl ?_
      exact rV X w rfl dX16_enqueue_48 (show 0 + addC nq ≤ addC nq by omega) (show 0 + addL nq ≤ addL nq by omega) (⟨rfl, h, hK, hQ, hE, fun _ => rfl⟩)
    · exact absurd hz hz9

