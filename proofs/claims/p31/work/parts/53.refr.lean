theorem wh_v {A : HS} {ns nj j x b : Nat} (h : rRec A ns nj j x 3 = nI b) (hb : b < 3) : whF A ns nj j x = rQual A ns nj (sitN A x b) (tS A j) (nI x) := by
  unfold whF
  rw [h, if_neg (nI_neg1 (by omega)), nI_clamp (by omega)]
theorem RF.whx {s0 : State} {S A : HS} {nq nt : Nat} (h : RF s0 S A nq nt) (ns nj j : Nat) : whF S ns nj j (tH S j % 24) = whF A ns nj j (tH A j % 24) := by
  have e1 : tH S j = tH A j := by unfold tH; rw [h.1 241 rfl j]
  have e2 : rRec S ns nj j (tH A j % 24) 3 = rRec A ns nj j (tH A j % 24) 3 := h.rec ns nj j _ 3
  rw [e1]
  unfold whF
  rw [e2, h.qual, h.sit, h.tSq]

theorem dX16_wouldHear_0 : decode cX16_wouldHear 0 = .ok (.aload_n 0, 1) := by decide +kernel
theorem dX16_wouldHear_1 : decode cX16_wouldHear 1 = .ok (.iconst 0, 1) := by decide +kernel
theorem dX16_wouldHear_2 : decode cX16_wouldHear 2 = .ok (.putfield 43, 3) := by decide +kernel
theorem dX16_wouldHear_5 : decode cX16_wouldHear 5 = .ok (.aload_n 0, 1) := by decide +kernel
theorem dX16_wouldHear_6 : decode cX16_wouldHear 6 = .ok (.iload_n 1, 1) := by decide +kernel
theorem dX16_wouldHear_7 : decode cX16_wouldHear 7 = .ok (.invokevirtual 246, 3) := by decide +kernel
theorem dX16_wouldHear_10 : decode cX16_wouldHear 10 = .ok (.ifCond .ne 9, 3) := by decide +kernel
theorem dX16_wouldHear_13 : decode cX16_wouldHear 13 = .ok (.aload_n 0, 1) := by decide +kernel
theorem dX16_wouldHear_14 : decode cX16_wouldHear 14 = .ok (.iconst 1, 1) := by decide +kernel
theorem dX16_wouldHear_15 : decode cX16_wouldHear 15 = .ok (.invokevirtual 229, 3) := by decide +kernel
theorem dX16_wouldHear_18 : decode cX16_wouldHear 18 = .ok (.ireturn, 1) := by decide +kernel
theorem dX16_wouldHear_19 : decode cX16_wouldHear 19 = .ok (.aload_n 0, 1) := by decide +kernel
theorem dX16_wouldHear_20 : decode cX16_wouldHear 20 = .ok (.getfield 26, 3) := by decide +kernel
theorem dX16_wouldHear_23 : decode cX16_wouldHear 23 = .ok (.iload_n 1, 1) := by decide +kernel
theorem dX16_wouldHear_24 : decode cX16_wouldHear 24 = .ok (.invokeinterface 46 2, 5) := by decide +kernel
theorem dX16_wouldHear_29 : decode cX16_wouldHear 29 = .ok (.checkcast 105, 3) := by decide +kernel
theorem dX16_wouldHear_32 : decode cX16_wouldHear 32 = .ok (.astore_n 2, 1) := by decide +kernel
theorem dX16_wouldHear_33 : decode cX16_wouldHear 33 = .ok (.aload_n 0, 1) := by decide +kernel
theorem dX16_wouldHear_34 : decode cX16_wouldHear 34 = .ok (.getfield 125, 3) := by decide +kernel
theorem dX16_wouldHear_37 : decode cX16_wouldHear 37 = .ok (.aload_n 2, 1) := by decide +kernel
theorem dX16_wouldHear_38 : decode cX16_wouldHear 38 = .ok (.getfield 112, 3) := by decide +kernel
theorem dX16_wouldHear_41 : decode cX16_wouldHear 41 = .ok (.if_icmp .le 9, 3) := by decide +kernel
theorem dX16_wouldHear_44 : decode cX16_wouldHear 44 = .ok (.aload_n 0, 1) := by decide +kernel
theorem dX16_wouldHear_45 : decode cX16_wouldHear 45 = .ok (.iconst 2, 1) := by decide +kernel
theorem dX16_wouldHear_46 : decode cX16_wouldHear 46 = .ok (.invokevirtual 229, 3) := by decide +kernel
theorem dX16_wouldHear_49 : decode cX16_wouldHear 49 = .ok (.ireturn, 1) := by decide +kernel
theorem dX16_wouldHear_50 : decode cX16_wouldHear 50 = .ok (.aload_n 0, 1) := by decide +kernel
theorem dX16_wouldHear_51 : decode cX16_wouldHear 51 = .ok (.aload_n 2, 1) := by decide +kernel
theorem dX16_wouldHear_52 : decode cX16_wouldHear 52 = .ok (.invokevirtual 118, 3) := by decide +kernel
theorem dX16_wouldHear_55 : decode cX16_wouldHear 55 = .ok (.istore_n 3, 1) := by decide +kernel
theorem dX16_wouldHear_56 : decode cX16_wouldHear 56 = .ok (.iload_n 3, 1) := by decide +kernel
theorem dX16_wouldHear_57 : decode cX16_wouldHear 57 = .ok (.iconst (-1), 1) := by decide +kernel
theorem dX16_wouldHear_58 : decode cX16_wouldHear 58 = .ok (.if_icmp .ne 7, 3) := by decide +kernel
theorem dX16_wouldHear_61 : decode cX16_wouldHear 61 = .ok (.iconst 0, 1) := by decide +kernel
theorem dX16_wouldHear_62 : decode cX16_wouldHear 62 = .ok (.goto 32, 3) := by decide +kernel
theorem dX16_wouldHear_65 : decode cX16_wouldHear 65 = .ok (.aload_n 0, 1) := by decide +kernel
theorem dX16_wouldHear_66 : decode cX16_wouldHear 66 = .ok (.aload_n 0, 1) := by decide +kernel
theorem dX16_wouldHear_67 : decode cX16_wouldHear 67 = .ok (.getfield 40, 3) := by decide +kernel
theorem dX16_wouldHear_70 : decode cX16_wouldHear 70 = .ok (.aload_n 2, 1) := by decide +kernel
theorem dX16_wouldHear_71 : decode cX16_wouldHear 71 = .ok (.getfield 112, 3) := by decide +kernel
theorem dX16_wouldHear_74 : decode cX16_wouldHear 74 = .ok (.bipush 24, 2) := by decide +kernel
theorem dX16_wouldHear_76 : decode cX16_wouldHear 76 = .ok (.irem, 1) := by decide +kernel
theorem dX16_wouldHear_77 : decode cX16_wouldHear 77 = .ok (.aaload, 1) := by decide +kernel
theorem dX16_wouldHear_78 : decode cX16_wouldHear 78 = .ok (.iload_n 3, 1) := by decide +kernel
theorem dX16_wouldHear_79 : decode cX16_wouldHear 79 = .ok (.iaload, 1) := by decide +kernel
theorem dX16_wouldHear_80 : decode cX16_wouldHear 80 = .ok (.aload_n 2, 1) := by decide +kernel
theorem dX16_wouldHear_81 : decode cX16_wouldHear 81 = .ok (.getfield 104, 3) := by decide +kernel
theorem dX16_wouldHear_84 : decode cX16_wouldHear 84 = .ok (.aload_n 2, 1) := by decide +kernel
theorem dX16_wouldHear_85 : decode cX16_wouldHear 85 = .ok (.getfield 112, 3) := by decide +kernel
theorem dX16_wouldHear_88 : decode cX16_wouldHear 88 = .ok (.bipush 24, 2) := by decide +kernel
theorem dX16_wouldHear_90 : decode cX16_wouldHear 90 = .ok (.irem, 1) := by decide +kernel
theorem dX16_wouldHear_91 : decode cX16_wouldHear 91 = .ok (.invokevirtual 115, 3) := by decide +kernel
theorem dX16_wouldHear_94 : decode cX16_wouldHear 94 = .ok (.ireturn, 1) := by decide +kernel
abbrev rm_m_X16_wouldHear : Room := { frames := 7, cells := 0, slots := 0, locals := 161 }
set_option maxHeartbeats 4000000 in
set_option maxRecDepth 100000 in
theorem m_X16_wouldHear {s0 : State} {l : Launch} {D : va_G} {cy : Nat → ClassId} (G : Gl s0 l D cy) (S : HS) (ea ns nj nm nt nr nq : Nat) (h : RI ea S ns nj nm nt nr nq) (hea : ea = eaOf s0) (hQ : QI s0 S nq nt) (hZr : Zr S) (A : HS) (g0 : Nat) (hF : RF s0 S A nq nt) (hg : mI S 257 0 = nI g0) (a : Int32) : Ctr s0 l D cy yX16_wouldHear cX16_wouldHear 4 (some .int) rm_m_X16_wouldHear S [.ref (gG S 16 0), .int a] (PF s0 S (ns, nj, nm, nr, nt, g0, A) (whK nt a (mI A 241 a.toNatClampNeg) (nI g0)) (whF A ns nj a.toNatClampNeg (tH A a.toNatClampNeg % 24)) (ns, nj, nm, nr, nt, g0, A)) := by
  refine pro "CavershamShiftModel" G rfl rfl (Nat.le_of_ble_eq_true rfl) (fun p e s m below meth c ls X w hnm hl => ?_)
  have hx := X.1
  have hb := X.2.1
  have hown := X.2.2.2.1
  have hts := X.2.2.2.2.1
  have hl : lv_has ls 4 [(0, .ref (gG S 16 0)), (1, .int a)] := hl
  have h0 := h
  have hK : Kq hvTm hiTm hrTm S S := Kq.rf
  have hE : RE S A := hF.re
  have hF0 : RF s0 (sI S 256 0 0) A nq nt := hF.oI rfl
  refine lv_aload_n hx hb dX16_wouldHear_0 rfl (lv_at hl 0 rfl) ?_
  refine lv_iconst (v := 0) hx hb dX16_wouldHear_1 (by decide) ?_
  refine p_16_0 (S := S) (x := 0) X w h.v wF_X16_43 dX16_wouldHear_2 (fun H locs w => ?_)
  have h : RI ea (sI S 256 0 0) ns nj nm nt nr nq := h.stI (by decide)
  have hK : Kq hvTm hiTm hrTm S (sI S 256 0 0) := hK.sI rfl
  refine lv_aload_n hx hb dX16_wouldHear_5 rfl (lv_at hl 0 rfl) ?_
  refine lv_iload_n hx hb dX16_wouldHear_6 rfl (lv_at hl 1 rfl) ?_
  refine cV (S := (sI S 256 0 0)) (nA := 1) (As := [.int a]) (rest := []) X w hl h.v (m_X16_isTalk G (sI S 256 0 0) ea ns nj nm nt nr nq h a) wY_X16_isTalk wM_X16_246 wIn_X16_isTalk wSe_X16_X16_isTalk wI_X16 (by decide) rfl (by decide +kernel) rfl rfl dX16_wouldHear_7 ⟨by decide, by decide⟩ (Nat.le_of_ble_eq_true rfl) (⟨Nat.le_of_ble_eq_true rfl, Nat.le_of_ble_eq_true rfl⟩) (fun v1 S1 H locs hp w => ?_)
  obtain ⟨rfl, rfl⟩ := hp
  refine lv_if_ne (tgt := 19) hx hb dX16_wouldHear_10 (by decide) (fun hy10 => ?_) (fun hy10 => ?_)
  · obtain ⟨j9, hl9, hv9⟩ := out_in (n := nt) (by have hb1 := h.b_ta; omega) (by simpa using b2i_t hy10)
    rw [hv9] at hl
    refine lv_aload_n hx hb dX16_wouldHear_19 rfl (lv_at hl 0 rfl) ?_
    refine g_16_9 (S := (sI S 256 0 0)) (x := (some (gG (sI S 256 0 0) 17 9))) X w h.v wF_X16_26 (h.f_ta) dX16_wouldHear_20 ?_
    refine lv_iload_n hx hb dX16_wouldHear_23 rfl (lv_at hl 1 rfl) ?_
    refine cF (S := (sI S 256 0 0)) (t := 17) (nA := 1) (As := [.int (nI j9)]) (rest := []) X w hl h.l_ta.1 (m_get G (sI S 256 0 0) ea 9 j9 nt (some (gG (sI S 256 0 0) 15 j9)) h.l_ta hl9 (h.e_ta j9 hl9).1) wY_Jx4a65c_get_915e3 wM_X16_46 wIn_Jx4a65c_get_915e3 wSe_Jx4a65c_Jx4a65c_get_915e3_of_java_util_List_get__I_Ljava_lang_Object_ wI_Jx4a65c fw_get (by decide) rfl (by decide +kernel) rfl rfl dX16_wouldHear_24 ⟨by decide, by decide⟩ (Nat.le_of_ble_eq_true rfl) (⟨Nat.le_of_ble_eq_true rfl, Nat.le_of_ble_eq_true rfl⟩) (fun v2 S1 H locs hp w => ?_)
    obtain ⟨rfl, rfl⟩ := hp
    refine ckC (S := (sI S 256 0 0)) (t := 15) X w (h.e_ta j9 hl9).2 (by decide) rfl wC_X16_105 dX16_wouldHear_29 ?_
    refine lv_astore_n (lv' := [(2, .ref (gG (sI S 256 0 0) 15 j9)), (0, .ref (gG S 16 0)), (1, .int (nI j9))]) hx hb dX16_wouldHear_32 rfl hl (by decide) rfl (fun ls hl => ?_)
    refine lv_aload_n hx hb dX16_wouldHear_33 rfl (lv_at hl 1 rfl) ?_
    refine g_16_1 (S := (sI S 256 0 0)) (x := (mI S 257 0)) X w h.v wF_X16_125 (rfl) dX16_wouldHear_34 ?_
    refine lv_aload_n hx hb dX16_wouldHear_37 rfl (lv_at hl 0 rfl) ?_
    refine g_15_1 (S := (sI S 256 0 0)) (x := (mI S 241 j9)) X w (h.e_ta j9 hl9).2 wF_X16_112 (rfl) dX16_wouldHear_38 ?_
    refine lv_icmp_le (tgt := 50) hx hb dX16_wouldHear_41 (by decide) (fun hy41 => ?_) (fun hy41 => ?_)
    · refine lv_aload_n hx hb dX16_wouldHear_50 rfl (lv_at hl 1 rfl) ?_
      refine lv_aload_n hx hb dX16_wouldHear_51 rfl (lv_at hl 0 rfl) ?_
      refine cV (S := (sI S 256 0 0)) (nA := 1) (As := [.ref (gG (sI S 256 0 0) 15 j9)]) (rest := []) X w hl h.v (m_X16_recorder G (sI S 256 0 0) ea ns nj nm nt nr nq h j9 hl9) wY_X16_recorder wM_X16_118 wIn_X16_recorder wSe_X16_X16_recorder wI_X16 (by decide) rfl (by decide +kernel) rfl rfl dX16_wouldHear_52 ⟨by decide, by decide⟩ (Nat.le_of_ble_eq_true rfl) (⟨Nat.le_of_ble_eq_true rfl, Nat.le_of_ble_eq_true rfl⟩) (fun v3 S1 H locs hp w => ?_)
      obtain ⟨rfl, rfl⟩ := hp
      refine lv_topi (fun rc erc => ?_)
      have erc : rc = rRec S ns nj j9 (tH S j9 % 24) 3 := erc
      refine lv_istore_n (lv' := [(3, .int rc), (2, .ref (gG (sI S 256 0 0) 15 j9)), (0, .ref (gG S 16 0)), (1, .int (nI j9))]) hx hb dX16_wouldHear_55 rfl hl (by decide) rfl (fun ls hl => ?_)
      refine lv_iload_n hx hb dX16_wouldHear_56 rfl (lv_at hl 0 rfl) ?_
      refine lv_iconst (v := (-1)) hx hb dX16_wouldHear_57 (by decide) ?_
      refine lv_icmp_ne (tgt := 65) hx hb dX16_wouldHear_58 (by decide) (fun hne => ?_) (fun hne => ?_)
      · obtain ⟨b, hb3, hbe, hbn⟩ := (rRec_in (S := S) (ns := ns) (nj := nj) (j := j9) (a := (tH S j9 % 24)) 3).resolve_left (fun z => hne (erc.trans z))
        obtain rfl : rc = nI b := erc.trans hbe
        have hsb := h0.sit (a := (tH S j9 % 24)) (k := b) (g := tS S j9) (Nat.mod_lt _ (by decide)) hb3 (rSlot_h hbn) (by have := (h0.tSx j9 hl9).1; have := h0.b_st; omega)
        refine lv_aload_n hx hb dX16_wouldHear_65 rfl (lv_at hl 2 rfl) ?_
        refine lv_aload_n hx hb dX16_wouldHear_66 rfl (lv_at hl 2 rfl) ?_
        refine g_16_13 (S := (sI S 256 0 0)) (x := (some (gG (sI S 256 0 0) 38 1))) X w h.v wF_X16_40 (h.s1.2.2) dX16_wouldHear_67 ?_
        refine lv_aload_n hx hb dX16_wouldHear_70 rfl (lv_at hl 1 rfl) ?_
        refine g_15_1 (S := (sI S 256 0 0)) (x := (nI (tH (sI S 256 0 0) j9))) X w (h.e_ta j9 hl9).2 wF_X16_112 ((h.tHx j9 hl9).2) dX16_wouldHear_71 ?_
        refine lv_bipush (v := 24) hx hb dX16_wouldHear_74 (by decide) ?_
        refine lv_irem hx hb dX16_wouldHear_76 (by decide) ?_
        refine lv_topi (fun z4 ez4 => ?_)
        obtain rfl : z4 = nI (tH S j9 % 24) := ez4.trans (pk_rem (d := 24) (Nat.lt_trans (h0.tHx j9 hl9).1 (by decide)) (by decide) (by decide))
        refine aLdR (S := (sI S 256 0 0)) (t := 38) (v := (some (gG (sI S 256 0 0) 37 (tH S j9 % 24)))) X w h.s1.1 (by decide) rfl rfl (Or.inr ⟨_, rfl⟩) (by rw [h.s1.2.1]; exact nI_vp (Nat.mod_lt _ (by decide)) (by decide)) (by rw [cl_nI (n := 24) (Nat.mod_lt _ (by decide)) (by decide)]; exact (h.s2 (tH S j9 % 24) (Nat.mod_lt _ (by decide))).1) dX16_wouldHear_77 ?_
        refine lv_iload_n hx hb dX16_wouldHear_78 rfl (lv_at hl 0 rfl) ?_
        refine aLdI (S := (sI S 256 0 0)) (t := 37) (v := nI (sitN S (tH S j9 % 24) b)) X w (h.s2 (tH S j9 % 24) (Nat.mod_lt _ (by decide))).2.1 (by decide) rfl rfl (by rw [(h.s2 (tH S j9 % 24) (Nat.mod_lt _ (by decide))).2.2]; exact nI_vp hb3 (by decide)) (by rw [cl_nI (n := 3) hb3 (by decide)]; exact hsb.2) dX16_wouldHear_79 ?_
        refine lv_aload_n hx hb dX16_wouldHear_80 rfl (lv_at hl 1 rfl) ?_
        refine g_15_0 (S := (sI S 256 0 0)) (x := (nI (tS (sI S 256 0 0) j9))) X w (h.e_ta j9 hl9).2 wF_X16_104 ((h.tSx j9 hl9).2) dX16_wouldHear_81 ?_
        refine lv_aload_n hx hb dX16_wouldHear_84 rfl (lv_at hl 1 rfl) ?_
        refine g_15_1 (S := (sI S 256 0 0)) (x := (nI (tH (sI S 256 0 0) j9))) X w (h.e_ta j9 hl9).2 wF_X16_112 ((h.tHx j9 hl9).2) dX16_wouldHear_85 ?_
        refine lv_bipush (v := 24) hx hb dX16_wouldHear_88 (by decide) ?_
        refine lv_irem hx hb dX16_wouldHear_90 (by decide) ?_
        refine lv_topi (fun z5 ez5 => ?_)
        obtain rfl : z5 = nI (tH S j9 % 24) := ez5.trans (pk_rem (d := 24) (Nat.lt_trans (h0.tHx j9 hl9).1 (by decide)) (by decide) (by decide))
        refine cV (S := (sI S 256 0 0)) (nA := 3) (As := [.int (nI (sitN S (tH S j9 % 24) b)), .int (nI (tS (sI S 256 0 0) j9)), .int (nI (tH S j9 % 24))]) (rest := []) X w hl h.v (m_X16_qualityNow G (sI S 256 0 0) ea ns nj nm nt nr nq h (sitN S (tH S j9 % 24) b) (tS (sI S 256 0 0) j9) hsb.1 (h.tSx j9 hl9).1 (nI (tH S j9 % 24))) wY_X16_qualityNow wM_X16_115 wIn_X16_qualityNow wSe_X16_X16_qualityNow wI_X16 (by decide) rfl (by decide +kernel) rfl rfl dX16_wouldHear_91 ⟨by decide, by decide⟩ (Nat.le_of_ble_eq_true rfl) (⟨Nat.le_of_ble_eq_true rfl, Nat.le_of_ble_eq_true rfl⟩) (fun v6 S1 H locs hp w => ?_)
        obtain ⟨rfl, rfl⟩ := hp
        exact rI X w rfl dX16_wouldHear_94 (by decide) (by decide) (Or.inr ⟨whK_0 (by simpa using b2i_t hy10) (by rw [tnI hl9 (Nat.le_trans h0.b_ta (by decide)) hv9, ← hF.1 241 rfl j9, ← hg]; exact Int32.not_lt.mpr hy41), by rw [tnI hl9 (Nat.le_trans h0.b_ta (by decide)) hv9, ← hF.whx]; first | exact congrArg (fun z => some (Value.int z)) (if_pos (erc.symm.trans hne)) | exact congrArg (fun z => some (Value.int z)) (wh_v hbe hb3), ⟨_, hea ▸ h, hQ, hZr, hF.keepT hK, (hK.I (f := 257) (i := 0) rfl).trans hg⟩, Kq.rB (kTR hK), rfl⟩)
      · refine lv_iconst (v := 0) hx hb dX16_wouldHear_61 (by decide) ?_
        refine lv_goto (tgt := 94) hx hb dX16_wouldHear_62 (by decide) ?_
        exact rI X w rfl dX16_wouldHear_94 (by decide) (by decide) (Or.inr ⟨whK_0 (by simpa using b2i_t hy10) (by rw [tnI hl9 (Nat.le_trans h0.b_ta (by decide)) hv9, ← hF.1 241 rfl j9, ← hg]; exact Int32.not_lt.mpr hy41), by rw [tnI hl9 (Nat.le_trans h0.b_ta (by decide)) hv9, ← hF.whx]; first | exact congrArg (fun z => some (Value.int z)) (if_pos (erc.symm.trans hne)) | exact congrArg (fun z => some (Value.int z)) (wh_v hbe hb3), ⟨_, hea ▸ h, hQ, hZr, hF.keepT hK, (hK.I (f := 257) (i := 0) rfl).trans hg⟩, Kq.rB (kTR hK), rfl⟩)
    · refine lv_aload_n hx hb dX16_wouldHear_44 rfl (lv_at hl 1 rfl) ?_
      refine lv_iconst (v := 2) hx hb dX16_wouldHear_45 (by decide) ?_
      refine cV (S := (sI S 256 0 0)) (nA := 1) (As := [.int 2]) (rest := []) X w hl h.v (m_X16_no G (sI S 256 0 0) ea ns nj nm nt nr nq h 2) wY_X16_no wM_X16_229 wIn_X16_no wSe_X16_X16_no wI_X16 (by decide) rfl (by decide +kernel) rfl rfl dX16_wouldHear_46 ⟨by decide, by decide⟩ (Nat.le_of_ble_eq_true rfl) (⟨Nat.le_of_ble_eq_true rfl, Nat.le_of_ble_eq_true rfl⟩) (fun v7 S1 H locs hp w => ?_)
      obtain ⟨rfl, rfl⟩ := hp
      have h : RI ea (sI (sI S 256 0 0) 256 0 2) ns nj nm nt nr nq := h.stI (by decide)
      have hK : Kq hvTm hiTm hrTm S (sI (sI S 256 0 0) 256 0 2) := hK.sI rfl
      exact rI X w rfl dX16_wouldHear_49 (by decide) (by decide) (pf_x (k := 2) (whK_2 (by simpa using b2i_t hy10) (by rw [tnI hl9 (Nat.le_trans h0.b_ta (by decide)) hv9, ← hF.1 241 rfl j9, ← hg]; exact Int32.not_le.mp hy41)) (by decide) (by decide) ⟨_, hea ▸ h, hQ, hZr, (hF.oI rfl).oI rfl, hg⟩)
  · refine lv_aload_n hx hb dX16_wouldHear_13 rfl (lv_at hl 0 rfl) ?_
    refine lv_iconst (v := 1) hx hb dX16_wouldHear_14 (by decide) ?_
    refine cV (S := (sI S 256 0 0)) (nA := 1) (As := [.int 1]) (rest := []) X w hl h.v (m_X16_no G (sI S 256 0 0) ea ns nj nm nt nr nq h 1) wY_X16_no wM_X16_229 wIn_X16_no wSe_X16_X16_no wI_X16 (by decide) rfl (by decide +kernel) rfl rfl dX16_wouldHear_15 ⟨by decide, by decide⟩ (Nat.le_of_ble_eq_true rfl) (⟨Nat.le_of_ble_eq_true rfl, Nat.le_of_ble_eq_true rfl⟩) (fun v8 S1 H locs hp w => ?_)
    obtain ⟨rfl, rfl⟩ := hp
    have h : RI ea (sI (sI S 256 0 0) 256 0 1) ns nj nm nt nr nq := h.stI (by decide)
    have hK : Kq hvTm hiTm hrTm S (sI (sI S 256 0 0) 256 0 1) := hK.sI rfl
    exact rI X w rfl dX16_wouldHear_18 (by decide) (by decide) (pf_x (k := 1) (whK_1 (by simpa using b2i_f hy10)) (by decide) (by decide) ⟨_, hea ▸ h, hQ, hZr, (hF.oI rfl).oI rfl, hg⟩)

