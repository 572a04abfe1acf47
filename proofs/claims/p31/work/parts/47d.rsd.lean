theorem goS_tS {A : HS} {j i n : Nat} : tS (goS A j n) i = tS A i := by
  unfold tS
  rw [goS_I]
theorem gFor_A {A : HS} {g j r : Nat} : gFor (seT0 A g j) j r = (sIn (mI A 208 r) (mI A 226 (tS A j)) && sIn (mI A 209 r) (mI A 242 j)) := rfl

abbrev rm_r_X16_send_n : Room := { frames := 5, cells := 0, slots := 0, locals := 103 }
set_option maxHeartbeats 4000000 in
set_option maxRecDepth 100000 in
theorem r_X16_send_n {s0 : State} {l : Launch} {D : va_G} {cy : Nat → ClassId} (G : Gl s0 l D cy) (S : HS) (ea ns nj nm nt nr nq : Nat) (h : RI ea S ns nj nm nt nr nq) (A : HS) (hE : RF s0 S A nq nt) (g : Nat) (hg : mI S 257 0 = nI g) (hg7 : g ≤ 720) (hea : ea = eaOf s0) (j : Nat) (hj : j < nt) (hQ : QI s0 S nq nt) (hno : ¬ (rWrong 1 (mI S 246 j) (mI S 245 j) (mI S 248 j) = true ∧ mI S 253 j = 0)) : Ctr s0 l D cy yX16_send cX16_send 4 none rm_r_X16_send_n S [.ref (gG S 16 0), .int (nI j)] (fun v S' => none = v ∧ RI ea S' ns nj nm nt nr nq ∧ Kq hvQ hiQ hrQ S S' ∧ QI s0 S' nq nt ∧ RF s0 S' (seT A nr g j) nq nt ∧ (∀ i, mI S' 247 i = if i = j then 1 else mI S 247 i)) := by
  refine pro "CavershamShiftModel" G rfl rfl (Nat.le_of_ble_eq_true rfl) (fun p e s m below meth c ls X w hnm hl => ?_)
  have hx := X.1
  have hb := X.2.1
  have hown := X.2.2.2.1
  have hts := X.2.2.2.2.1
  have hl : lv_has ls 4 [(0, .ref (gG S 16 0)), (1, .int (nI j))] := hl
  have h0 := h
  have hK : Kq hvQ hiQ hrQ S S := Kq.rf
  have hE0 := hE
  refine lv_aload_n hx hb dX16_send_0 rfl (lv_at hl 0 rfl) ?_
  refine g_16_9 (S := S) (x := (some (gG S 17 9))) X w h.v wF_X16_26 (h.f_ta) dX16_send_1 ?_
  refine lv_iload_n hx hb dX16_send_4 rfl (lv_at hl 1 rfl) ?_
  refine cF (S := S) (t := 17) (nA := 1) (As := [.int (nI j)]) (rest := []) X w hl h.l_ta.1 (m_get G S ea 9 j nt (some (gG S 15 j)) h.l_ta hj (h.e_ta j hj).1) wY_Jx4a65c_get_915e3 wM_X16_46 wIn_Jx4a65c_get_915e3 wSe_Jx4a65c_Jx4a65c_get_915e3_of_java_util_List_get__I_Ljava_lang_Object_ wI_Jx4a65c fw_get (by decide) rfl (by decide +kernel) rfl rfl dX16_send_5 ⟨by decide, by decide⟩ (Nat.le_of_ble_eq_true rfl) (⟨Nat.le_of_ble_eq_true rfl, Nat.le_of_ble_eq_true rfl⟩) (fun v1 S1 H locs hp w => ?_)
  obtain ⟨rfl, rfl⟩ := hp
  refine ckC (S := S) (t := 15) X w (h.e_ta j hj).2 (by decide) rfl wC_X16_105 dX16_send_10 ?_
  refine lv_astore_n (lv' := [(2, .ref (gG S 15 j)), (0, .ref (gG S 16 0)), (1, .int (nI j))]) hx hb dX16_send_13 rfl hl (by decide) rfl (fun ls hl => ?_)
  refine lv_aload_n hx hb dX16_send_14 rfl (lv_at hl 0 rfl) ?_
  refine lv_iconst (v := 1) hx hb dX16_send_15 (by decide) ?_
  refine p_15_7 (S := S) (x := 1) X w (h.e_ta j hj).2 wF_X16_144 dX16_send_16 (fun H locs w => ?_)
  have h : RI ea (sI S 247 j 1) ns nj nm nt nr nq := h.s247 ⟨1, by decide, rfl⟩
  have hK : Kq hvQ hiQ hrQ S (sI S 247 j 1) := hK.sI rfl
  have hE : RF s0 (sI S 247 j 1) (sI A 247 j 1) nq nt := hE.bI
  refine lv_aload_n hx hb dX16_send_19 rfl (lv_at hl 0 rfl) ?_
  refine lv_aload_n hx hb dX16_send_20 rfl (lv_at hl 1 rfl) ?_
  refine g_16_1 (S := (sI S 247 j 1)) (x := (nI g)) X w h.v wF_X16_125 (hg) dX16_send_21 ?_
  refine p_15_11 (S := (sI S 247 j 1)) (x := (nI g)) X w (h.e_ta j hj).2 wF_X16_182 dX16_send_24 (fun H locs w => ?_)
  have h : RI ea (sI (sI S 247 j 1) 251 j (nI g)) ns nj nm nt nr nq := h.stI (by decide)
  have hK : Kq hvQ hiQ hrQ S (sI (sI S 247 j 1) 251 j (nI g)) := hK.sI rfl
  have hE : RF s0 (sI (sI S 247 j 1) 251 j (nI g)) (sI (sI A 247 j 1) 251 j (nI g)) nq nt := hE.bI
  refine lv_aload_n hx hb dX16_send_27 rfl (lv_at hl 0 rfl) ?_
  refine lv_aload_n hx hb dX16_send_28 rfl (lv_at hl 1 rfl) ?_
  refine lv_dup hx hb dX16_send_29 rfl ?_
  refine g_16_5 (S := (sI (sI S 247 j 1) 251 j (nI g))) (x := (mI A 261 0)) X w h.v wF_X16_185 (hE0.1 261 rfl 0) dX16_send_30 ?_
  refine lv_dup_x1 hx hb dX16_send_33 rfl rfl ?_
  refine lv_iconst (v := 1) hx hb dX16_send_34 (by decide) ?_
  refine lv_iadd hx hb dX16_send_35 ?_
  refine p_16_5 (S := (sI (sI S 247 j 1) 251 j (nI g))) (x := ((mI A 261 0) + 1)) X w h.v wF_X16_185 dX16_send_36 (fun H locs w => ?_)
  have h : RI ea (sI (sI (sI S 247 j 1) 251 j (nI g)) 261 0 ((mI A 261 0) + 1)) ns nj nm nt nr nq := h.stI (by decide)
  have hK : Kq hvQ hiQ hrQ S (sI (sI (sI S 247 j 1) 251 j (nI g)) 261 0 ((mI A 261 0) + 1)) := hK.sI rfl
  have hE : RF s0 (sI (sI (sI S 247 j 1) 251 j (nI g)) 261 0 ((mI A 261 0) + 1)) (sI (sI (sI A 247 j 1) 251 j (nI g)) 261 0 ((mI A 261 0) + 1)) nq nt := hE.bI
  refine p_15_12 (S := (sI (sI (sI S 247 j 1) 251 j (nI g)) 261 0 ((mI A 261 0) + 1))) (x := (mI A 261 0)) X w (h.e_ta j hj).2 wF_X16_188 dX16_send_39 (fun H locs w => ?_)
  have h : RI ea (sI (sI (sI (sI S 247 j 1) 251 j (nI g)) 261 0 ((mI A 261 0) + 1)) 252 j (mI A 261 0)) ns nj nm nt nr nq := h.stI (by decide)
  have hK : Kq hvQ hiQ hrQ S (sI (sI (sI (sI S 247 j 1) 251 j (nI g)) 261 0 ((mI A 261 0) + 1)) 252 j (mI A 261 0)) := hK.sI rfl
  have hE : RF s0 (sI (sI (sI (sI S 247 j 1) 251 j (nI g)) 261 0 ((mI A 261 0) + 1)) 252 j (mI A 261 0)) (sI (sI (sI (sI A 247 j 1) 251 j (nI g)) 261 0 ((mI A 261 0) + 1)) 252 j (mI A 261 0)) nq nt := hE.bI
  refine lv_aload_n hx hb dX16_send_42 rfl (lv_at hl 1 rfl) ?_
  refine lv_dup hx hb dX16_send_43 rfl ?_
  refine g_16_2 (S := (sI (sI (sI (sI S 247 j 1) 251 j (nI g)) 261 0 ((mI A 261 0) + 1)) 252 j (mI A 261 0))) (x := (mI A 258 0)) X w h.v wF_X16_7 (hE0.1 258 rfl 0) dX16_send_44 ?_
  refine lv_aload_n hx hb dX16_send_47 rfl (lv_at hl 0 rfl) ?_
  refine cV (S := (sI (sI (sI (sI S 247 j 1) 251 j (nI g)) 261 0 ((mI A 261 0) + 1)) 252 j (mI A 261 0))) (nA := 0) (As := []) (rest := [.int (mI A 258 0), .ref (gG S 16 0)]) X w hl (h.e_ta j hj).2 (m_X15_length G (sI (sI (sI (sI S 247 j 1) 251 j (nI g)) 261 0 ((mI A 261 0) + 1)) 252 j (mI A 261 0)) j (h.e_ta j hj).2) wY_X15_length wM_X16_151 wIn_X15_length wSe_X15_X15_length wI_X15 (by decide) rfl (by decide +kernel) rfl rfl dX16_send_48 ⟨by decide, by decide⟩ (Nat.le_of_ble_eq_true rfl) (⟨Nat.le_of_ble_eq_true rfl, Nat.le_of_ble_eq_true rfl⟩) (fun v2 S1 H locs hp w => ?_)
  obtain ⟨rfl, rfl⟩ := hp
  refine lv_topi (fun z3 ez3 => ?_)
  obtain rfl : z3 = (rLen (mI A 244 j) (mI A 243 j) (mI A 248 j)) := ez3.trans (hE0.len j)
  refine lv_isub hx hb dX16_send_51 ?_
  refine p_16_2 (S := (sI (sI (sI (sI S 247 j 1) 251 j (nI g)) 261 0 ((mI A 261 0) + 1)) 252 j (mI A 261 0))) (x := ((mI A 258 0) - (rLen (mI A 244 j) (mI A 243 j) (mI A 248 j)))) X w h.v wF_X16_7 dX16_send_52 (fun H locs w => ?_)
  have h : RI ea (sI (sI (sI (sI (sI S 247 j 1) 251 j (nI g)) 261 0 ((mI A 261 0) + 1)) 252 j (mI A 261 0)) 258 0 ((mI A 258 0) - (rLen (mI A 244 j) (mI A 243 j) (mI A 248 j)))) ns nj nm nt nr nq := h.stI (by decide)
  have hK : Kq hvQ hiQ hrQ S (sI (sI (sI (sI (sI S 247 j 1) 251 j (nI g)) 261 0 ((mI A 261 0) + 1)) 252 j (mI A 261 0)) 258 0 ((mI A 258 0) - (rLen (mI A 244 j) (mI A 243 j) (mI A 248 j)))) := hK.sI rfl
  have hE : RF s0 (sI (sI (sI (sI (sI S 247 j 1) 251 j (nI g)) 261 0 ((mI A 261 0) + 1)) 252 j (mI A 261 0)) 258 0 ((mI A 258 0) - (rLen (mI A 244 j) (mI A 243 j) (mI A 248 j)))) (sI (sI (sI (sI (sI A 247 j 1) 251 j (nI g)) 261 0 ((mI A 261 0) + 1)) 252 j (mI A 261 0)) 258 0 ((mI A 258 0) - (rLen (mI A 244 j) (mI A 243 j) (mI A 248 j)))) nq nt := hE.bI
  have hE : RF s0 (sI (sI (sI (sI (sI S 247 j 1) 251 j (nI g)) 261 0 ((mI A 261 0) + 1)) 252 j (mI A 261 0)) 258 0 ((mI A 258 0) - (rLen (mI A 244 j) (mI A 243 j) (mI A 248 j)))) (seT0 A g j) nq nt := by rw [seT0_sw]; exact hE
  refine lv_iconst (v := 0) hx hb dX16_send_55 (by decide) ?_
  refine lv_istore_n (lv' := [(3, .int 0), (2, .ref (gG S 15 j)), (0, .ref (gG S 16 0)), (1, .int (nI j))]) hx hb dX16_send_56 rfl hl (by decide) rfl (fun ls hl => ?_)
  have L57 : ∀ (N : Nat) (k57 : Nat) (T57 : HS) (H : Heap) (locs : List Loc) (ls : Array Slot), nr - k57 < N → (k57 ≤ nr) → (RF s0 T57 (goS (seT0 A g j) j k57) nq nt) → (RI ea T57 ns nj nm nt nr nq) → (Kq hvQ hiQ hrQ S T57) → (∀ i, mI T57 247 i = if i = j then 1 else mI S 247 i) → ((mI T57 247 j = 1 ∧ mI T57 246 j = mI S 246 j ∧ mI T57 245 j = mI S 245 j ∧ mI T57 248 j = mI S 248 j) ∧ mI T57 253 j = mI S 253 j) → (QI s0 T57 nq nt) → Wd s0 D cy T57 s.heap H locs → lv_has ls 4 [(3, .int (nI k57)), (2, .ref (gG S 15 j)), (0, .ref (gG S 16 0)), (1, .int (nI j))] → W p l e rm_r_X16_send_n s m ([.ref (gG S 16 0), .int (nI j)] : List Value).toArray below meth c H locs 0 0 (MQ below (GQ s0 D cy (fun v S' => none = v ∧ RI ea S' ns nj nm nt nr nq ∧ Kq hvQ hiQ hrQ S S' ∧ QI s0 S' nq nt ∧ RF s0 S' (seT A nr g j) nq nt ∧ (∀ i, mI S' 247 i = if i = j then 1 else mI S 247 i))) ([.ref (gG S 16 0), .int (nI j)] : List Value).toArray s rm_r_X16_send_n.cells rm_r_X16_send_n.slots (A0 s0)) (F0 m 57 ls []) := by
    intro N
    induction N with
    | zero => intros; omega
    | succ N ih57 =>
      intro k57 T57 H locs ls hmu hk_k57 hE h hK_T57 e247 eP hQ w hl
      have hK := hK_T57
      refine lv_iload_n hx hb dX16_send_57 rfl (lv_at hl 0 rfl) ?_
      refine lv_aload_n hx hb dX16_send_58 rfl (lv_at hl 2 rfl) ?_
      refine rE0 ((rfl).trans ((hK_T57.G (t := 16) (i := 0) rfl)).symm) ?_
      refine g_16_10 (S := T57) (x := (some (gG T57 17 10))) X w h.v wF_X16_29 (h.f_re) dX16_send_59 ?_
      refine cF (S := T57) (t := 17) (nA := 0) (As := []) (rest := [.int (nI k57)]) X w hl h.l_re.1 (m_size G T57 ea 10 nr h.l_re) wY_Jx4a65c_size_8abf5 wM_X16_73 wIn_Jx4a65c_size_8abf5 wSe_Jx4a65c_Jx4a65c_size_8abf5_of_java_util_List_size___I wI_Jx4a65c fw_size (by decide) rfl (by decide +kernel) rfl rfl dX16_send_62 ⟨by decide, by decide⟩ (Nat.le_of_ble_eq_true rfl) (⟨Nat.le_of_ble_eq_true rfl, Nat.le_of_ble_eq_true rfl⟩) (fun v4 S1 H locs hp w => ?_)
      obtain ⟨rfl, rfl⟩ := hp
      refine lv_icmp_ge (tgt := 148) hx hb dX16_send_67 (by decide) (fun hc_k57 => ?_) (fun hc_k57 => ?_)
      · have hge_k57 : nr ≤ k57 := by
          have hb1 := h.b_re
          exact (nI_leI (a := nr) (b := k57) (by omega) (by omega)).mp hc_k57
        have hk9 : k57 = nr := by omega
        rw [hk9] at hE
        have hE : RF s0 T57 (goS (seT0 A g j) j nr) nq nt := hE
        refine lv_aload_n hx hb dX16_send_148 rfl (lv_at hl 2 rfl) ?_
        refine lv_iload_n hx hb dX16_send_149 rfl (lv_at hl 3 rfl) ?_
        refine rE1 ((rfl).trans ((hK_T57.G (t := 16) (i := 0) rfl)).symm) ?_
        refine cV (S := T57) (nA := 1) (As := [.int (nI j)]) (rest := []) X w hl h.v (m_X16_enqueue_n G T57 ea ns nj nm nt nr nq h j hj (by rw [eP.1.1, eP.1.2.1, eP.1.2.2.1, eP.1.2.2.2, eP.2]; exact hno)) wY_X16_enqueue wM_X16_200 wIn_X16_enqueue wSe_X16_X16_enqueue wI_X16 (by decide) rfl (by decide +kernel) rfl rfl dX16_send_150 ⟨by decide, by decide⟩ (Nat.le_of_ble_eq_true rfl) (⟨Nat.le_of_ble_eq_true rfl, Nat.le_of_ble_eq_true rfl⟩) (fun v5 S1 H locs hp w => ?_)
        obtain ⟨rfl, rfl⟩ := hp
        have e247c : ∀ i, mI T57 247 i = mI T57 247 i := fun _ => rfl
        have hE : RF s0 T57 (seT A nr g j) nq nt := by
          have e9 : enA (goS (seT0 A g j) j nr) j = goS (seT0 A g j) j nr := by
            refine if_neg (fun z => hno ?_)
            rw [Bool.and_eq_true] at z
            refine ⟨?_, ?_⟩
            · rw [← z.1, ← hE.wrong j, eP.1.1, eP.1.2.1, eP.1.2.2.1, eP.1.2.2.2]
            · rw [← eP.2, hE.1 253 rfl j]; exact of_decide_eq_true z.2
          show RF s0 _ (enA (goS (seT0 A g j) j nr) j) _ nt
          rw [e9]; exact hE
        exact rV X w rfl dX16_send_153 (by decide) (by decide) (⟨rfl, h, hK, hQ, hE, fun i => (e247c i).trans (e247 i)⟩)
      · have hlt_k57 : k57 < nr := by
          have hb1 := h.b_re
          exact Nat.lt_of_not_le (fun z => hc_k57 ((nI_leI (a := nr) (b := k57) (by omega) (by omega)).mpr z))
        refine lv_aload_n hx hb dX16_send_70 rfl (lv_at hl 2 rfl) ?_
        refine rE0 ((rfl).trans ((hK_T57.G (t := 16) (i := 0) rfl)).symm) ?_
        refine g_16_10 (S := T57) (x := (some (gG T57 17 10))) X w h.v wF_X16_29 (h.f_re) dX16_send_71 ?_
        refine lv_iload_n hx hb dX16_send_74 rfl (lv_at hl 0 rfl) ?_
        refine cF (S := T57) (t := 17) (nA := 1) (As := [.int (nI k57)]) (rest := []) X w hl h.l_re.1 (m_get G T57 ea 10 k57 nr (some (gG T57 13 k57)) h.l_re hlt_k57 (h.e_re k57 hlt_k57).1) wY_Jx4a65c_get_915e3 wM_X16_46 wIn_Jx4a65c_get_915e3 wSe_Jx4a65c_Jx4a65c_get_915e3_of_java_util_List_get__I_Ljava_lang_Object_ wI_Jx4a65c fw_get (by decide) rfl (by decide +kernel) rfl rfl dX16_send_75 ⟨by decide, by decide⟩ (Nat.le_of_ble_eq_true rfl) (⟨Nat.le_of_ble_eq_true rfl, Nat.le_of_ble_eq_true rfl⟩) (fun v6 S1 H locs hp w => ?_)
        obtain ⟨rfl, rfl⟩ := hp
        refine ckC (S := T57) (t := 13) X w (h.e_re k57 hlt_k57).2.1 (by decide) rfl wC_X16_177 dX16_send_80 ?_
        refine g_13_0 (S := T57) (x := (mI A 208 k57)) X w (h.e_re k57 hlt_k57).2.1 wF_X16_191 ((hE.1 208 rfl k57).trans (by rw [goS_I]; rfl)) dX16_send_83 ?_
        refine lv_aload_n hx hb dX16_send_86 rfl (lv_at hl 2 rfl) ?_
        refine lv_aload_n hx hb dX16_send_87 rfl (lv_at hl 1 rfl) ?_
        refine rE0 ((rfl).trans ((hK_T57.G (t := 15) (i := j) rfl)).symm) ?_
        refine rE1 ((rfl).trans ((hK_T57.G (t := 16) (i := 0) rfl)).symm) ?_
        refine cV (S := T57) (nA := 1) (As := [.ref (gG T57 15 j)]) (rest := [.int (mI A 208 k57)]) X w hl h.v (m_X16_landOf G T57 ea ns nj nm nt nr nq h j hj) wY_X16_landOf wM_X16_141 wIn_X16_landOf wSe_X16_X16_landOf wI_X16 (by decide) rfl (by decide +kernel) rfl rfl dX16_send_88 ⟨by decide, by decide⟩ (Nat.le_of_ble_eq_true rfl) (⟨Nat.le_of_ble_eq_true rfl, Nat.le_of_ble_eq_true rfl⟩) (fun v7 S1 H locs hp w => ?_)
        obtain ⟨rfl, rfl⟩ := hp
        refine lv_topi (fun z8 ez8 => ?_)
        obtain rfl : z8 = (mI A 226 (tS A j)) := ez8.trans (by rw [hE.1 226 rfl, hE.tSq, goS_I, goS_tS]; rfl)
        refine cS (S := T57) (nA := 2) (As := [.int (mI A 208 k57), .int (mI A 226 (tS A j))]) (rest := []) X w hl (m_X16_has G T57 (mI A 208 k57) (mI A 226 (tS A j))) wY_X16_has wM_X16_57 wSt_X16_has wI_X16 (by decide +kernel) rfl rfl dX16_send_91 ⟨by decide, by decide⟩ (Nat.le_of_ble_eq_true rfl) (⟨Nat.le_of_ble_eq_true rfl, Nat.le_of_ble_eq_true rfl⟩) (fun v9 S1 H locs hp w => ?_)
        obtain ⟨rfl, rfl⟩ := hp
        refine lv_if_eq (tgt := 142) hx hb dX16_send_94 (by decide) (fun hk94 => ?_) (fun hk94 => ?_)
        · refine lv_iinc (v := nI (k57 + 1)) (lv' := [(3, .int (nI (k57 + 1))), (2, .ref (gG S 15 j)), (0, .ref (gG S 16 0)), (1, .int (nI j))]) hx hb dX16_send_142 hl (k := 0) rfl (nI_1 _) (by decide) rfl (fun ls hl => ?_)
          refine lv_goto (tgt := 57) hx hb dX16_send_145 (by decide) ?_
          have hE : RF s0 T57 (goS (seT0 A g j) j (k57 + 1)) nq nt := by first | exact hE | (rw [goS_f (by rw [gFor_A, b2i_f hk94, Bool.false_and])]; exact hE) | (rw [goS_f (by rw [gFor_A, b2i_f hk120, Bool.and_false])]; exact hE)
          exact ih57 (k57 + 1) T57 _ _ _ (by omega) (hlt_k57) (hE) (h) (hK) (e247) (eP) (hQ) w (lv_sub hl [0, 1, 2, 3] rfl)
        · refine lv_aload_n hx hb dX16_send_97 rfl (lv_at hl 2 rfl) ?_
          refine rE0 ((rfl).trans ((hK_T57.G (t := 16) (i := 0) rfl)).symm) ?_
          refine g_16_10 (S := T57) (x := (some (gG T57 17 10))) X w h.v wF_X16_29 (h.f_re) dX16_send_98 ?_
          refine lv_iload_n hx hb dX16_send_101 rfl (lv_at hl 0 rfl) ?_
          refine cF (S := T57) (t := 17) (nA := 1) (As := [.int (nI k57)]) (rest := []) X w hl h.l_re.1 (m_get G T57 ea 10 k57 nr (some (gG T57 13 k57)) h.l_re hlt_k57 (h.e_re k57 hlt_k57).1) wY_Jx4a65c_get_915e3 wM_X16_46 wIn_Jx4a65c_get_915e3 wSe_Jx4a65c_Jx4a65c_get_915e3_of_java_util_List_get__I_Ljava_lang_Object_ wI_Jx4a65c fw_get (by decide) rfl (by decide +kernel) rfl rfl dX16_send_102 ⟨by decide, by decide⟩ (Nat.le_of_ble_eq_true rfl) (⟨Nat.le_of_ble_eq_true rfl, Nat.le_of_ble_eq_true rfl⟩) (fun v10 S1 H locs hp w => ?_)
          obtain ⟨rfl, rfl⟩ := hp
          refine ckC (S := T57) (t := 13) X w (h.e_re k57 hlt_k57).2.1 (by decide) rfl wC_X16_177 dX16_send_107 ?_
          refine g_13_1 (S := T57) (x := (mI A 209 k57)) X w (h.e_re k57 hlt_k57).2.1 wF_X16_194 ((hE.1 209 rfl k57).trans (by rw [goS_I]; rfl)) dX16_send_110 ?_
          refine lv_aload_n hx hb dX16_send_113 rfl (lv_at hl 1 rfl) ?_
          refine rE0 ((rfl).trans ((hK_T57.G (t := 15) (i := j) rfl)).symm) ?_
          refine g_15_2 (S := T57) (x := (mI A 242 j)) X w (h.e_ta j hj).2 wF_X16_197 ((hE.1 242 rfl j).trans (by rw [goS_I]; rfl)) dX16_send_114 ?_
          refine cS (S := T57) (nA := 2) (As := [.int (mI A 209 k57), .int (mI A 242 j)]) (rest := []) X w hl (m_X16_has G T57 (mI A 209 k57) (mI A 242 j)) wY_X16_has wM_X16_57 wSt_X16_has wI_X16 (by decide +kernel) rfl rfl dX16_send_117 ⟨by decide, by decide⟩ (Nat.le_of_ble_eq_true rfl) (⟨Nat.le_of_ble_eq_true rfl, Nat.le_of_ble_eq_true rfl⟩) (fun v11 S1 H locs hp w => ?_)
          obtain ⟨rfl, rfl⟩ := hp
          refine lv_if_eq (tgt := 142) hx hb dX16_send_120 (by decide) (fun hk120 => ?_) (fun hk120 => ?_)
          · refine lv_iinc (v := nI (k57 + 1)) (lv' := [(3, .int (nI (k57 + 1))), (2, .ref (gG S 15 j)), (0, .ref (gG S 16 0)), (1, .int (nI j))]) hx hb dX16_send_142 hl (k := 0) rfl (nI_1 _) (by decide) rfl (fun ls hl => ?_)
            refine lv_goto (tgt := 57) hx hb dX16_send_145 (by decide) ?_
            have hE : RF s0 T57 (goS (seT0 A g j) j (k57 + 1)) nq nt := by first | exact hE | (rw [goS_f (by rw [gFor_A, b2i_f hk94, Bool.false_and])]; exact hE) | (rw [goS_f (by rw [gFor_A, b2i_f hk120, Bool.and_false])]; exact hE)
            exact ih57 (k57 + 1) T57 _ _ _ (by omega) (hlt_k57) (hE) (h) (hK) (e247) (eP) (hQ) w (lv_sub hl [0, 1, 2, 3] rfl)
          · refine lv_aload_n hx hb dX16_send_123 rfl (lv_at hl 2 rfl) ?_
            refine rE0 ((rfl).trans ((hK_T57.G (t := 16) (i := 0) rfl)).symm) ?_
            refine g_16_10 (S := T57) (x := (some (gG T57 17 10))) X w h.v wF_X16_29 (h.f_re) dX16_send_124 ?_
            refine lv_iload_n hx hb dX16_send_127 rfl (lv_at hl 0 rfl) ?_
            refine cF (S := T57) (t := 17) (nA := 1) (As := [.int (nI k57)]) (rest := []) X w hl h.l_re.1 (m_get G T57 ea 10 k57 nr (some (gG T57 13 k57)) h.l_re hlt_k57 (h.e_re k57 hlt_k57).1) wY_Jx4a65c_get_915e3 wM_X16_46 wIn_Jx4a65c_get_915e3 wSe_Jx4a65c_Jx4a65c_get_915e3_of_java_util_List_get__I_Ljava_lang_Object_ wI_Jx4a65c fw_get (by decide) rfl (by decide +kernel) rfl rfl dX16_send_128 ⟨by decide, by decide⟩ (Nat.le_of_ble_eq_true rfl) (⟨Nat.le_of_ble_eq_true rfl, Nat.le_of_ble_eq_true rfl⟩) (fun v12 S1 H locs hp w => ?_)
            obtain ⟨rfl, rfl⟩ := hp
            refine ckC (S := T57) (t := 13) X w (h.e_re k57 hlt_k57).2.1 (by decide) rfl wC_X16_177 dX16_send_133 ?_
            refine g_13_2 (S := T57) (x := (some (gG T57 35 k57))) X w (h.e_re k57 hlt_k57).2.1 wF_X16_179 ((h.e_re k57 hlt_k57).2.2.1) dX16_send_136 ?_
            refine lv_iload_n hx hb dX16_send_139 rfl (lv_at hl 3 rfl) ?_
            refine lv_iconst (v := 1) hx hb dX16_send_140 (by decide) ?_
            refine aStI (S := T57) (t := 35) X w (h.e_re k57 hlt_k57).2.2.2.1 (by decide) rfl rfl (by show vp_in _ (mN _ 35 k57); rw [(h.e_re k57 hlt_k57).2.2.2.2]; exact nI_vp (Nat.lt_of_lt_of_le hj h.b_ta) (by decide)) dX16_send_141 (fun H locs w => ?_)
            have h : RI ea (sA T57 35 k57 (upd (mA T57 35 k57) (nI j).toNatClampNeg 1)) ns nj nm nt nr nq := h.a35 _ _
            have hK : Kq hvQ hiQ hrQ S (sA T57 35 k57 (upd (mA T57 35 k57) (nI j).toNatClampNeg 1)) := hK.sA rfl
            have hE : RF s0 (sA T57 35 k57 (upd (mA T57 35 k57) (nI j).toNatClampNeg 1)) (sA (goS (seT0 A g j) j k57) 35 k57 (upd (mA (goS (seT0 A g j) j k57) 35 k57) (nI j).toNatClampNeg 1)) nq nt := hE.sU rfl
            have hE : RF s0 (sA T57 35 k57 (upd (mA T57 35 k57) (nI j).toNatClampNeg 1)) (goS (seT0 A g j) j (k57 + 1)) nq nt := by rw [goS_t (by rw [gFor_A, b2i_t hk94, b2i_t hk120]; rfl)]; rw [show (nI j).toNatClampNeg = j from nI_clamp (by have := h.b_ta; omega)] at hE ⊢; exact hE
            refine lv_iinc (v := nI (k57 + 1)) (lv' := [(3, .int (nI (k57 + 1))), (2, .ref (gG S 15 j)), (0, .ref (gG S 16 0)), (1, .int (nI j))]) hx hb dX16_send_142 hl (k := 0) rfl (nI_1 _) (by decide) rfl (fun ls hl => ?_)
            refine lv_goto (tgt := 57) hx hb dX16_send_145 (by decide) ?_
            have hE : RF s0 (sA T57 35 k57 (upd (mA T57 35 k57) (nI j).toNatClampNeg 1)) (goS (seT0 A g j) j (k57 + 1)) nq nt := by first | exact hE | (rw [goS_f (by rw [gFor_A, b2i_f hk94, Bool.false_and])]; exact hE) | (rw [goS_f (by rw [gFor_A, b2i_f hk120, Bool.and_false])]; exact hE)
            exact ih57 (k57 + 1) (sA T57 35 k57 (upd (mA T57 35 k57) (nI j).toNatClampNeg 1)) _ _ _ (by omega) (hlt_k57) (hE) (h) (hK) (e247) (eP) (hQ) w (lv_sub hl [0, 1, 2, 3] rfl)
  exact L57 _ 0 (sI (sI (sI (sI (sI S 247 j 1) 251 j (nI g)) 261 0 ((mI A 261 0) + 1)) 252 j (mI A 261 0)) 258 0 ((mI A 258 0) - (rLen (mI A 244 j) (mI A 243 j) (mI A 248 j)))) _ _ _ (Nat.lt_succ_self _) (Nat.zero_le _) (hE) (h) (hK) (fun i => by simp [mI, sI, up2]) (by simp [mI, sI, up2]) (⟨hQ.1, hQ.2⟩) w (lv_sub hl [0, 1, 2, 3] rfl)

abbrev rm_r_X16_send_y (nq : Nat) : Room := { frames := 8, cells := addC nq, slots := addL nq, locals := 213 }
set_option maxHeartbeats 4000000 in
set_option maxRecDepth 100000 in
theorem r_X16_send_y {s0 : State} {l : Launch} {D : va_G} {cy : Nat → ClassId} (G : Gl s0 l D cy) (S : HS) (ea ns nj nm nt nr nq : Nat) (h : RI ea S ns nj nm nt nr nq) (A : HS) (hE : RF s0 S A nq nt) (g : Nat) (hg : mI S 257 0 = nI g) (hg7 : g ≤ 720) (hea : ea = eaOf s0) (j : Nat) (hj : j < nt) (hQ : QI s0 S nq nt) (hyes : rWrong 1 (mI S 246 j) (mI S 245 j) (mI S 248 j) = true ∧ mI S 253 j = 0) : Ctr s0 l D cy yX16_send cX16_send 4 none (rm_r_X16_send_y nq) S [.ref (gG S 16 0), .int (nI j)] (fun v S' => none = v ∧ RI ea S' ns nj nm nt nr (nq + 1) ∧ Kq hvQ hiQ hrQ S S' ∧ QI s0 S' (nq + 1) nt ∧ RF s0 S' (seT A nr g j) (nq + 1) nt ∧ (∀ i, mI S' 247 i = if i = j then 1 else mI S 247 i)) := by
  refine pro "CavershamShiftModel" G rfl rfl (Nat.le_of_ble_eq_true rfl) (fun p e s m below meth c ls X w hnm hl => ?_)
  have hx := X.1
  have hb := X.2.1
  have hown := X.2.2.2.1
  have hts := X.2.2.2.2.1
  have hl : lv_has ls 4 [(0, .ref (gG S 16 0)), (1, .int (nI j))] := hl
  have h0 := h
  have hK : Kq hvQ hiQ hrQ S S := Kq.rf
  have hE0 := hE
  refine lv_aload_n hx hb dX16_send_0 rfl (lv_at hl 0 rfl) ?_
  refine g_16_9 (S := S) (x := (some (gG S 17 9))) X w h.v wF_X16_26 (h.f_ta) dX16_send_1 ?_
  refine lv_iload_n hx hb dX16_send_4 rfl (lv_at hl 1 rfl) ?_
  refine cF (S := S) (t := 17) (nA := 1) (As := [.int (nI j)]) (rest := []) X w hl h.l_ta.1 (m_get G S ea 9 j nt (some (gG S 15 j)) h.l_ta hj (h.e_ta j hj).1) wY_Jx4a65c_get_915e3 wM_X16_46 wIn_Jx4a65c_get_915e3 wSe_Jx4a65c_Jx4a65c_get_915e3_of_java_util_List_get__I_Ljava_lang_Object_ wI_Jx4a65c fw_get (by decide) rfl (by decide +kernel) rfl rfl dX16_send_5 ⟨Nat.le_of_ble_eq_true rfl, Nat.le_of_ble_eq_true rfl⟩ (Nat.le_of_ble_eq_true rfl) (⟨Nat.le_of_ble_eq_true rfl, Nat.le_of_ble_eq_true rfl⟩) (fun v1 S1 H locs hp w => ?_)
  obtain ⟨rfl, rfl⟩ := hp
  refine ckC (S := S) (t := 15) X w (h.e_ta j hj).2 (by decide) rfl wC_X16_105 dX16_send_10 ?_
  refine lv_astore_n (lv' := [(2, .ref (gG S 15 j)), (0, .ref (gG S 16 0)), (1, .int (nI j))]) hx hb dX16_send_13 rfl hl (by decide) rfl (fun ls hl => ?_)
  refine lv_aload_n hx hb dX16_send_14 rfl (lv_at hl 0 rfl) ?_
  refine lv_iconst (v := 1) hx hb dX16_send_15 (by decide) ?_
  refine p_15_7 (S := S) (x := 1) X w (h.e_ta j hj).2 wF_X16_144 dX16_send_16 (fun H locs w => ?_)
  have h : RI ea (sI S 247 j 1) ns nj nm nt nr nq := h.s247 ⟨1, by decide, rfl⟩
  have hK : Kq hvQ hiQ hrQ S (sI S 247 j 1) := hK.sI rfl
  have hE : RF s0 (sI S 247 j 1) (sI A 247 j 1) nq nt := hE.bI
  refine lv_aload_n hx hb dX16_send_19 rfl (lv_at hl 0 rfl) ?_
  refine lv_aload_n hx hb dX16_send_20 rfl (lv_at hl 1 rfl) ?_
  refine g_16_1 (S := (sI S 247 j 1)) (x := (nI g)) X w h.v wF_X16_125 (hg) dX16_send_21 ?_
  refine p_15_11 (S := (sI S 247 j 1)) (x := (nI g)) X w (h.e_ta j hj).2 wF_X16_182 dX16_send_24 (fun H locs w => ?_)
  have h : RI ea (sI (sI S 247 j 1) 251 j (nI g)) ns nj nm nt nr nq := h.stI (by decide)
  have hK : Kq hvQ hiQ hrQ S (sI (sI S 247 j 1) 251 j (nI g)) := hK.sI rfl
  have hE : RF s0 (sI (sI S 247 j 1) 251 j (nI g)) (sI (sI A 247 j 1) 251 j (nI g)) nq nt := hE.bI
  refine lv_aload_n hx hb dX16_send_27 rfl (lv_at hl 0 rfl) ?_
  refine lv_aload_n hx hb dX16_send_28 rfl (lv_at hl 1 rfl) ?_
  refine lv_dup hx hb dX16_send_29 rfl ?_
  refine g_16_5 (S := (sI (sI S 247 j 1) 251 j (nI g))) (x := (mI A 261 0)) X w h.v wF_X16_185 (hE0.1 261 rfl 0) dX16_send_30 ?_
  refine lv_dup_x1 hx hb dX16_send_33 rfl rfl ?_
  refine lv_iconst (v := 1) hx hb dX16_send_34 (by decide) ?_
  refine lv_iadd hx hb dX16_send_35 ?_
  refine p_16_5 (S := (sI (sI S 247 j 1) 251 j (nI g))) (x := ((mI A 261 0) + 1)) X w h.v wF_X16_185 dX16_send_36 (fun H locs w => ?_)
  have h : RI ea (sI (sI (sI S 247 j 1) 251 j (nI g)) 261 0 ((mI A 261 0) + 1)) ns nj nm nt nr nq := h.stI (by decide)
  have hK : Kq hvQ hiQ hrQ S (sI (sI (sI S 247 j 1) 251 j (nI g)) 261 0 ((mI A 261 0) + 1)) := hK.sI rfl
  have hE : RF s0 (sI (sI (sI S 247 j 1) 251 j (nI g)) 261 0 ((mI A 261 0) + 1)) (sI (sI (sI A 247 j 1) 251 j (nI g)) 261 0 ((mI A 261 0) + 1)) nq nt := hE.bI
  refine p_15_12 (S := (sI (sI (sI S 247 j 1) 251 j (nI g)) 261 0 ((mI A 261 0) + 1))) (x := (mI A 261 0)) X w (h.e_ta j hj).2 wF_X16_188 dX16_send_39 (fun H locs w => ?_)
  have h : RI ea (sI (sI (sI (sI S 247 j 1) 251 j (nI g)) 261 0 ((mI A 261 0) + 1)) 252 j (mI A 261 0)) ns nj nm nt nr nq := h.stI (by decide)
  have hK : Kq hvQ hiQ hrQ S (sI (sI (sI (sI S 247 j 1) 251 j (nI g)) 261 0 ((mI A 261 0) + 1)) 252 j (mI A 261 0)) := hK.sI rfl
  have hE : RF s0 (sI (sI (sI (sI S 247 j 1) 251 j (nI g)) 261 0 ((mI A 261 0) + 1)) 252 j (mI A 261 0)) (sI (sI (sI (sI A 247 j 1) 251 j (nI g)) 261 0 ((mI A 261 0) + 1)) 252 j (mI A 261 0)) nq nt := hE.bI
  refine lv_aload_n hx hb dX16_send_42 rfl (lv_at hl 1 rfl) ?_
  refine lv_dup hx hb dX16_send_43 rfl ?_
  refine g_16_2 (S := (sI (sI (sI (sI S 247 j 1) 251 j (nI g)) 261 0 ((mI A 261 0) + 1)) 252 j (mI A 261 0))) (x := (mI A 258 0)) X w h.v wF_X16_7 (hE0.1 258 rfl 0) dX16_send_44 ?_
  refine lv_aload_n hx hb dX16_send_47 rfl (lv_at hl 0 rfl) ?_
  refine cV (S := (sI (sI (sI (sI S 247 j 1) 251 j (nI g)) 261 0 ((mI A 261 0) + 1)) 252 j (mI A 261 0))) (nA := 0) (As := []) (rest := [.int (mI A 258 0), .ref (gG S 16 0)]) X w hl (h.e_ta j hj).2 (m_X15_length G (sI (sI (sI (sI S 247 j 1) 251 j (nI g)) 261 0 ((mI A 261 0) + 1)) 252 j (mI A 261 0)) j (h.e_ta j hj).2) wY_X15_length wM_X16_151 wIn_X15_length wSe_X15_X15_length wI_X15 (by decide) rfl (by decide +kernel) rfl rfl dX16_send_48 ⟨Nat.le_of_ble_eq_true rfl, Nat.le_of_ble_eq_true rfl⟩ (Nat.le_of_ble_eq_true rfl) (⟨Nat.le_of_ble_eq_true rfl, Nat.le_of_ble_eq_true rfl⟩) (fun v2 S1 H locs hp w => ?_)
  obtain ⟨rfl, rfl⟩ := hp
  refine lv_topi (fun z3 ez3 => ?_)
  obtain rfl : z3 = (rLen (mI A 244 j) (mI A 243 j) (mI A 248 j)) := ez3.trans (hE0.len j)
  refine lv_isub hx hb dX16_send_51 ?_
  refine p_16_2 (S := (sI (sI (sI (sI S 247 j 1) 251 j (nI g)) 261 0 ((mI A 261 0) + 1)) 252 j (mI A 261 0))) (x := ((mI A 258 0) - (rLen (mI A 244 j) (mI A 243 j) (mI A 248 j)))) X w h.v wF_X16_7 dX16_send_52 (fun H locs w => ?_)
  have h : RI ea (sI (sI (sI (sI (sI S 247 j 1) 251 j (nI g)) 261 0 ((mI A 261 0) + 1)) 252 j (mI A 261 0)) 258 0 ((mI A 258 0) - (rLen (mI A 244 j) (mI A 243 j) (mI A 248 j)))) ns nj nm nt nr nq := h.stI (by decide)
  have hK : Kq hvQ hiQ hrQ S (sI (sI (sI (sI (sI S 247 j 1) 251 j (nI g)) 261 0 ((mI A 261 0) + 1)) 252 j (mI A 261 0)) 258 0 ((mI A 258 0) - (rLen (mI A 244 j) (mI A 243 j) (mI A 248 j)))) := hK.sI rfl
  have hE : RF s0 (sI (sI (sI (sI (sI S 247 j 1) 251 j (nI g)) 261 0 ((mI A 261 0) + 1)) 252 j (mI A 261 0)) 258 0 ((mI A 258 0) - (rLen (mI A 244 j) (mI A 243 j) (mI A 248 j)))) (sI (sI (sI (sI (sI A 247 j 1) 251 j (nI g)) 261 0 ((mI A 261 0) + 1)) 252 j (mI A 261 0)) 258 0 ((mI A 258 0) - (rLen (mI A 244 j) (mI A 243 j) (mI A 248 j)))) nq nt := hE.bI
  have hE : RF s0 (sI (sI (sI (sI (sI S 247 j 1) 251 j (nI g)) 261 0 ((mI A 261 0) + 1)) 252 j (mI A 261 0)) 258 0 ((mI A 258 0) - (rLen (mI A 244 j) (mI A 243 j) (mI A 248 j)))) (seT0 A g j) nq nt := by rw [seT0_sw]; exact hE
  refine lv_iconst (v := 0) hx hb dX16_send_55 (by decide) ?_
  refine lv_istore_n (lv' := [(3, .int 0), (2, .ref (gG S 15 j)), (0, .ref (gG S 16 0)), (1, .int (nI j))]) hx hb dX16_send_56 rfl hl (by decide) rfl (fun ls hl => ?_)
  have L57 : ∀ (N : Nat) (k57 : Nat) (T57 : HS) (H : Heap) (locs : List Loc) (ls : Array Slot), nr - k57 < N → (k57 ≤ nr) → (RF s0 T57 (goS (seT0 A g j) j k57) nq nt) → (RI ea T57 ns nj nm nt nr nq) → (Kq hvQ hiQ hrQ S T57) → (∀ i, mI T57 247 i = if i = j then 1 else mI S 247 i) → ((mI T57 247 j = 1 ∧ mI T57 246 j = mI S 246 j ∧ mI T57 245 j = mI S 245 j ∧ mI T57 248 j = mI S 248 j) ∧ mI T57 253 j = mI S 253 j) → (QI s0 T57 nq nt) → Wd s0 D cy T57 s.heap H locs → lv_has ls 4 [(3, .int (nI k57)), (2, .ref (gG S 15 j)), (0, .ref (gG S 16 0)), (1, .int (nI j))] → W p l e (rm_r_X16_send_y nq) s m ([.ref (gG S 16 0), .int (nI j)] : List Value).toArray below meth c H locs (0) (0) (MQ below (GQ s0 D cy (fun v S' => none = v ∧ RI ea S' ns nj nm nt nr (nq + 1) ∧ Kq hvQ hiQ hrQ S S' ∧ QI s0 S' (nq + 1) nt ∧ RF s0 S' (seT A nr g j) (nq + 1) nt ∧ (∀ i, mI S' 247 i = if i = j then 1 else mI S 247 i))) ([.ref (gG S 16 0), .int (nI j)] : List Value).toArray s (rm_r_X16_send_y nq).cells (rm_r_X16_send_y nq).slots (A0 s0)) (F0 m 57 ls []) := by
    intro N
    induction N with
    | zero => intros; omega
    | succ N ih57 =>
      intro k57 T57 H locs ls hmu hk_k57 hE h hK_T57 e247 eP hQ w hl
      have hK := hK_T57
      refine lv_iload_n hx hb dX16_send_57 rfl (lv_at hl 0 rfl) ?_
      refine lv_aload_n hx hb dX16_send_58 rfl (lv_at hl 2 rfl) ?_
      refine rE0 ((rfl).trans ((hK_T57.G (t := 16) (i := 0) rfl)).symm) ?_
      refine g_16_10 (S := T57) (x := (some (gG T57 17 10))) X w h.v wF_X16_29 (h.f_re) dX16_send_59 ?_
      refine cF (S := T57) (t := 17) (nA := 0) (As := []) (rest := [.int (nI k57)]) X w hl h.l_re.1 (m_size G T57 ea 10 nr h.l_re) wY_Jx4a65c_size_8abf5 wM_X16_73 wIn_Jx4a65c_size_8abf5 wSe_Jx4a65c_Jx4a65c_size_8abf5_of_java_util_List_size___I wI_Jx4a65c fw_size (by decide) rfl (by decide +kernel) rfl rfl dX16_send_62 ⟨Nat.le_of_ble_eq_true rfl, Nat.le_of_ble_eq_true rfl⟩ (Nat.le_of_ble_eq_true rfl) (⟨Nat.le_of_ble_eq_true rfl, Nat.le_of_ble_eq_true rfl⟩) (fun v4 S1 H locs hp w => ?_)
      obtain ⟨rfl, rfl⟩ := hp
      refine lv_icmp_ge (tgt := 148) hx hb dX16_send_67 (by decide) (fun hc_k57 => ?_) (fun hc_k57 => ?_)
      · have hge_k57 : nr ≤ k57 := by
          have hb1 := h.b_re
          exact (nI_leI (a := nr) (b := k57) (by omega) (by omega)).mp hc_k57
        have hk9 : k57 = nr := by omega
        rw [hk9] at hE
        have hE : RF s0 T57 (goS (seT0 A g j) j nr) nq nt := hE
        refine lv_aload_n hx hb dX16_send_148 rfl (lv_at hl 2 rfl) ?_
        refine lv_iload_n hx hb dX16_send_149 rfl (lv_at hl 3 rfl) ?_
        refine rE1 ((rfl).trans ((hK_T57.G (t := 16) (i := 0) rfl)).symm) ?_
        refine cV (S := T57) (nA := 1) (As := [.int (nI j)]) (rest := []) X w hl h.v (r_X16_enqueue_y G T57 ea ns nj nm nt nr nq h (goS (seT0 A g j) j nr) hE hea j hj hQ (by rw [eP.1.1, eP.1.2.1, eP.1.2.2.1, eP.1.2.2.2]; exact hyes.1) (by rw [eP.2]; exact hyes.2)) wY_X16_enqueue wM_X16_200 wIn_X16_enqueue wSe_X16_X16_enqueue wI_X16 (by decide) rfl (by decide +kernel) rfl rfl dX16_send_150 ⟨Nat.le_of_ble_eq_true rfl, Nat.le_of_ble_eq_true rfl⟩ (Nat.le_of_ble_eq_true rfl) (⟨show 0 + addC nq ≤ addC nq by omega, show 0 + addL nq ≤ addL nq by omega⟩) (fun v6 U5 H locs hp w => ?_)
        obtain ⟨rfl, h, hkU5, hQ, hE, e247c⟩ := hp
        have hK_U5 : Kq hvQ hiQ hrQ S U5 := hK.tr hkU5
        have hK := hK_U5
        exact rV X w rfl dX16_send_153 (show 0 + addC nq ≤ addC nq by omega) (show 0 + addL nq ≤ addL nq by omega) (⟨rfl, h, hK, hQ, hE, fun i => (e247c i).trans (e247 i)⟩)
      · have hlt_k57 : k57 < nr := by
          have hb1 := h.b_re
          exact Nat.lt_of_not_le (fun z => hc_k57 ((nI_leI (a := nr) (b := k57) (by omega) (by omega)).mpr z))
        refine lv_aload_n hx hb dX16_send_70 rfl (lv_at hl 2 rfl) ?_
        refine rE0 ((rfl).trans ((hK_T57.G (t := 16) (i := 0) rfl)).symm) ?_
        refine g_16_10 (S := T57) (x := (some (gG T57 17 10))) X w h.v wF_X16_29 (h.f_re) dX16_send_71 ?_
        refine lv_iload_n hx hb dX16_send_74 rfl (lv_at hl 0 rfl) ?_
        refine cF (S := T57) (t := 17) (nA := 1) (As := [.int (nI k57)]) (rest := []) X w hl h.l_re.1 (m_get G T57 ea 10 k57 nr (some (gG T57 13 k57)) h.l_re hlt_k57 (h.e_re k57 hlt_k57).1) wY_Jx4a65c_get_915e3 wM_X16_46 wIn_Jx4a65c_get_915e3 wSe_Jx4a65c_Jx4a65c_get_915e3_of_java_util_List_get__I_Ljava_lang_Object_ wI_Jx4a65c fw_get (by decide) rfl (by decide +kernel) rfl rfl dX16_send_75 ⟨Nat.le_of_ble_eq_true rfl, Nat.le_of_ble_eq_true rfl⟩ (Nat.le_of_ble_eq_true rfl) (⟨Nat.le_of_ble_eq_true rfl, Nat.le_of_ble_eq_true rfl⟩) (fun v7 S1 H locs hp w => ?_)
        obtain ⟨rfl, rfl⟩ := hp
        refine ckC (S := T57) (t := 13) X w (h.e_re k57 hlt_k57).2.1 (by decide) rfl wC_X16_177 dX16_send_80 ?_
        refine g_13_0 (S := T57) (x := (mI A 208 k57)) X w (h.e_re k57 hlt_k57).2.1 wF_X16_191 ((hE.1 208 rfl k57).trans (by rw [goS_I]; rfl)) dX16_send_83 ?_
        refine lv_aload_n hx hb dX16_send_86 rfl (lv_at hl 2 rfl) ?_
        refine lv_aload_n hx hb dX16_send_87 rfl (lv_at hl 1 rfl) ?_
        refine rE0 ((rfl).trans ((hK_T57.G (t := 15) (i := j) rfl)).symm) ?_
        refine rE1 ((rfl).trans ((hK_T57.G (t := 16) (i := 0) rfl)).symm) ?_
        refine cV (S := T57) (nA := 1) (As := [.ref (gG T57 15 j)]) (rest := [.int (mI A 208 k57)]) X w hl h.v (m_X16_landOf G T57 ea ns nj nm nt nr nq h j hj) wY_X16_landOf wM_X16_141 wIn_X16_landOf wSe_X16_X16_landOf wI_X16 (by decide) rfl (by decide +kernel) rfl rfl dX16_send_88 ⟨Nat.le_of_ble_eq_true rfl, Nat.le_of_ble_eq_true rfl⟩ (Nat.le_of_ble_eq_true rfl) (⟨Nat.le_of_ble_eq_true rfl, Nat.le_of_ble_eq_true rfl⟩) (fun v8 S1 H locs hp w => ?_)
        obtain ⟨rfl, rfl⟩ := hp
        refine lv_topi (fun z9 ez9 => ?_)
        obtain rfl : z9 = (mI A 226 (tS A j)) := ez9.trans (by rw [hE.1 226 rfl, hE.tSq, goS_I, goS_tS]; rfl)
        refine cS (S := T57) (nA := 2) (As := [.int (mI A 208 k57), .int (mI A 226 (tS A j))]) (rest := []) X w hl (m_X16_has G T57 (mI A 208 k57) (mI A 226 (tS A j))) wY_X16_has wM_X16_57 wSt_X16_has wI_X16 (by decide +kernel) rfl rfl dX16_send_91 ⟨Nat.le_of_ble_eq_true rfl, Nat.le_of_ble_eq_true rfl⟩ (Nat.le_of_ble_eq_true rfl) (⟨Nat.le_of_ble_eq_true rfl, Nat.le_of_ble_eq_true rfl⟩) (fun v10 S1 H locs hp w => ?_)
        obtain ⟨rfl, rfl⟩ := hp
        refine lv_if_eq (tgt := 142) hx hb dX16_send_94 (by decide) (fun hk94 => ?_) (fun hk94 => ?_)
        · refine lv_iinc (v := nI (k57 + 1)) (lv' := [(3, .int (nI (k57 + 1))), (2, .ref (gG S 15 j)), (0, .ref (gG S 16 0)), (1, .int (nI j))]) hx hb dX16_send_142 hl (k := 0) rfl (nI_1 _) (by decide) rfl (fun ls hl => ?_)
          refine lv_goto (tgt := 57) hx hb dX16_send_145 (by decide) ?_
          have hE : RF s0 T57 (goS (seT0 A g j) j (k57 + 1)) nq nt := by first | exact hE | (rw [goS_f (by rw [gFor_A, b2i_f hk94, Bool.false_and])]; exact hE) | (rw [goS_f (by rw [gFor_A, b2i_f hk120, Bool.and_false])]; exact hE)
          exact ih57 (k57 + 1) T57 _ _ _ (by omega) (hlt_k57) (hE) (h) (hK) (e247) (eP) (hQ) w (lv_sub hl [0, 1, 2, 3] rfl)
        · refine lv_aload_n hx hb dX16_send_97 rfl (lv_at hl 2 rfl) ?_
          refine rE0 ((rfl).trans ((hK_T57.G (t := 16) (i := 0) rfl)).symm) ?_
          refine g_16_10 (S := T57) (x := (some (gG T57 17 10))) X w h.v wF_X16_29 (h.f_re) dX16_send_98 ?_
          refine lv_iload_n hx hb dX16_send_101 rfl (lv_at hl 0 rfl) ?_
          refine cF (S := T57) (t := 17) (nA := 1) (As := [.int (nI k57)]) (rest := []) X w hl h.l_re.1 (m_get G T57 ea 10 k57 nr (some (gG T57 13 k57)) h.l_re hlt_k57 (h.e_re k57 hlt_k57).1) wY_Jx4a65c_get_915e3 wM_X16_46 wIn_Jx4a65c_get_915e3 wSe_Jx4a65c_Jx4a65c_get_915e3_of_java_util_List_get__I_Ljava_lang_Object_ wI_Jx4a65c fw_get (by decide) rfl (by decide +kernel) rfl rfl dX16_send_102 ⟨Nat.le_of_ble_eq_true rfl, Nat.le_of_ble_eq_true rfl⟩ (Nat.le_of_ble_eq_true rfl) (⟨Nat.le_of_ble_eq_true rfl, Nat.le_of_ble_eq_true rfl⟩) (fun v11 S1 H locs hp w => ?_)
          obtain ⟨rfl, rfl⟩ := hp
          refine ckC (S := T57) (t := 13) X w (h.e_re k57 hlt_k57).2.1 (by decide) rfl wC_X16_177 dX16_send_107 ?_
          refine g_13_1 (S := T57) (x := (mI A 209 k57)) X w (h.e_re k57 hlt_k57).2.1 wF_X16_194 ((hE.1 209 rfl k57).trans (by rw [goS_I]; rfl)) dX16_send_110 ?_
          refine lv_aload_n hx hb dX16_send_113 rfl (lv_at hl 1 rfl) ?_
          refine rE0 ((rfl).trans ((hK_T57.G (t := 15) (i := j) rfl)).symm) ?_
          refine g_15_2 (S := T57) (x := (mI A 242 j)) X w (h.e_ta j hj).2 wF_X16_197 ((hE.1 242 rfl j).trans (by rw [goS_I]; rfl)) dX16_send_114 ?_
          refine cS (S := T57) (nA := 2) (As := [.int (mI A 209 k57), .int (mI A 242 j)]) (rest := []) X w hl (m_X16_has G T57 (mI A 209 k57) (mI A 242 j)) wY_X16_has wM_X16_57 wSt_X16_has wI_X16 (by decide +kernel) rfl rfl dX16_send_117 ⟨Nat.le_of_ble_eq_true rfl, Nat.le_of_ble_eq_true rfl⟩ (Nat.le_of_ble_eq_true rfl) (⟨Nat.le_of_ble_eq_true rfl, Nat.le_of_ble_eq_true rfl⟩) (fun v12 S1 H locs hp w => ?_)
          obtain ⟨rfl, rfl⟩ := hp
          refine lv_if_eq (tgt := 142) hx hb dX16_send_120 (by decide) (fun hk120 => ?_) (fun hk120 => ?_)
          · refine lv_iinc (v := nI (k57 + 1)) (lv' := [(3, .int (nI (k57 + 1))), (2, .ref (gG S 15 j)), (0, .ref (gG S 16 0)), (1, .int (nI j))]) hx hb dX16_send_142 hl (k := 0) rfl (nI_1 _) (by decide) rfl (fun ls hl => ?_)
            refine lv_goto (tgt := 57) hx hb dX16_send_145 (by decide) ?_
            have hE : RF s0 T57 (goS (seT0 A g j) j (k57 + 1)) nq nt := by first | exact hE | (rw [goS_f (by rw [gFor_A, b2i_f hk94, Bool.false_and])]; exact hE) | (rw [goS_f (by rw [gFor_A, b2i_f hk120, Bool.and_false])]; exact hE)
            exact ih57 (k57 + 1) T57 _ _ _ (by omega) (hlt_k57) (hE) (h) (hK) (e247) (eP) (hQ) w (lv_sub hl [0, 1, 2, 3] rfl)
          · refine lv_aload_n hx hb dX16_send_123 rfl (lv_at hl 2 rfl) ?_
            refine rE0 ((rfl).trans ((hK_T57.G (t := 16) (i := 0) rfl)).symm) ?_
            refine g_16_10 (S := T57) (x := (some (gG T57 17 10))) X w h.v wF_X16_29 (h.f_re) dX16_send_124 ?_
            refine lv_iload_n hx hb dX16_send_127 rfl (lv_at hl 0 rfl) ?_
            refine cF (S := T57) (t := 17) (nA := 1) (As := [.int (nI k57)]) (rest := []) X w hl h.l_re.1 (m_get G T57 ea 10 k57 nr (some (gG T57 13 k57)) h.l_re hlt_k57 (h.e_re k57 hlt_k57).1) wY_Jx4a65c_get_915e3 wM_X16_46 wIn_Jx4a65c_get_915e3 wSe_Jx4a65c_Jx4a65c_get_915e3_of_java_util_List_get__I_Ljava_lang_Object_ wI_Jx4a65c fw_get (by decide) rfl (by decide +kernel) rfl rfl dX16_send_128 ⟨Nat.le_of_ble_eq_true rfl, Nat.le_of_ble_eq_true rfl⟩ (Nat.le_of_ble_eq_true rfl) (⟨Nat.le_of_ble_eq_true rfl, Nat.le_of_ble_eq_true rfl⟩) (fun v13 S1 H locs hp w => ?_)
            obtain ⟨rfl, rfl⟩ := hp
            refine ckC (S := T57) (t := 13) X w (h.e_re k57 hlt_k57).2.1 (by decide) rfl wC_X16_177 dX16_send_133 ?_
            refine g_13_2 (S := T57) (x := (some (gG T57 35 k57))) X w (h.e_re k57 hlt_k57).2.1 wF_X16_179 ((h.e_re k57 hlt_k57).2.2.1) dX16_send_136 ?_
            refine lv_iload_n hx hb dX16_send_139 rfl (lv_at hl 3 rfl) ?_
            refine lv_iconst (v := 1) hx hb dX16_send_140 (by decide) ?_
            refine aStI (S := T57) (t := 35) X w (h.e_re k57 hlt_k57).2.2.2.1 (by decide) rfl rfl (by show vp_in _ (mN _ 35 k57); rw [(h.e_re k57 hlt_k57).2.2.2.2]; exact nI_vp (Nat.lt_of_lt_of_le hj h.b_ta) (by decide)) dX16_send_141 (fun H locs w => ?_)
            have h : RI ea (sA T57 35 k57 (upd (mA T57 35 k57) (nI j).toNatClampNeg 1)) ns nj nm nt nr nq := h.a35 _ _
            have hK : Kq hvQ hiQ hrQ S (sA T57 35 k57 (upd (mA T57 35 k57) (nI j).toNatClampNeg 1)) := hK.sA rfl
            have hE : RF s0 (sA T57 35 k57 (upd (mA T57 35 k57) (nI j).toNatClampNeg 1)) (sA (goS (seT0 A g j) j k57) 35 k57 (upd (mA (goS (seT0 A g j) j k57) 35 k57) (nI j).toNatClampNeg 1)) nq nt := hE.sU rfl
            have hE : RF s0 (sA T57 35 k57 (upd (mA T57 35 k57) (nI j).toNatClampNeg 1)) (goS (seT0 A g j) j (k57 + 1)) nq nt := by rw [goS_t (by rw [gFor_A, b2i_t hk94, b2i_t hk120]; rfl)]; rw [show (nI j).toNatClampNeg = j from nI_clamp (by have := h.b_ta; omega)] at hE ⊢; exact hE
            refine lv_iinc (v := nI (k57 + 1)) (lv' := [(3, .int (nI (k57 + 1))), (2, .ref (gG S 15 j)), (0, .ref (gG S 16 0)), (1, .int (nI j))]) hx hb dX16_send_142 hl (k := 0) rfl (nI_1 _) (by decide) rfl (fun ls hl => ?_)
            refine lv_goto (tgt := 57) hx hb dX16_send_145 (by decide) ?_
            have hE : RF s0 (sA T57 35 k57 (upd (mA T57 35 k57) (nI j).toNatClampNeg 1)) (goS (seT0 A g j) j (k57 + 1)) nq nt := by first | exact hE | (rw [goS_f (by rw [gFor_A, b2i_f hk94, Bool.false_and])]; exact hE) | (rw [goS_f (by rw [gFor_A, b2i_f hk120, Bool.and_false])]; exact hE)
            exact ih57 (k57 + 1) (sA T57 35 k57 (upd (mA T57 35 k57) (nI j).toNatClampNeg 1)) _ _ _ (by omega) (hlt_k57) (hE) (h) (hK) (e247) (eP) (hQ) w (lv_sub hl [0, 1, 2, 3] rfl)
  exact L57 _ 0 (sI (sI (sI (sI (sI S 247 j 1) 251 j (nI g)) 261 0 ((mI A 261 0) + 1)) 252 j (mI A 261 0)) 258 0 ((mI A 258 0) - (rLen (mI A 244 j) (mI A 243 j) (mI A 248 j)))) _ _ _ (Nat.lt_succ_self _) (Nat.zero_le _) (hE) (h) (hK) (fun i => by simp [mI, sI, up2]) (by simp [mI, sI, up2]) (⟨hQ.1, hQ.2⟩) w (lv_sub hl [0, 1, 2, 3] rfl)

/-- who may go for so many words, by those passed over -/
def nxR (S : HS) (l : Int32) (p : Nat → Int32) (k : Nat) : Bool := decide (mI S 247 k = 0) && (!(rStale S k) && (decide (p k = 0) && decide (¬ l < rLen (mI S 244 k) (mI S 243 k) (mI S 248 k))))
theorem nxR_f {S : HS} {l : Int32} {p : Nat → Int32} {k : Nat} (h : ¬ (mI S 247 k = 0 ∧ rStale S k = false ∧ p k = 0 ∧ ¬ l < rLen (mI S 244 k) (mI S 243 k) (mI S 248 k))) : nxR S l p k = false := by
  cases e : nxR S l p k with
  | false => rfl
  | true =>
    unfold nxR at e
    rw [Bool.and_eq_true, Bool.and_eq_true, Bool.and_eq_true] at e
    exact absurd ⟨of_decide_eq_true e.1, by simpa using e.2.1, of_decide_eq_true e.2.2.1, of_decide_eq_true e.2.2.2⟩ h
theorem nxR_t {S : HS} {l : Int32} {p : Nat → Int32} {k : Nat} (h1 : mI S 247 k = 0) (h2 : rStale S k = false) (h3 : p k = 0) (h4 : ¬ l < rLen (mI S 244 k) (mI S 243 k) (mI S 248 k)) : nxR S l p k = true := by
  unfold nxR
  rw [decide_eq_true h1, h2, decide_eq_true h3, decide_eq_true h4]; rfl
theorem rNx_t {A : HS} {P : Nat → Bool} {k : Nat} (h1 : P k = true) (h2 : rNx A P k = -1 ∨ nxB A k (rNx A P k).toNatClampNeg = true) : rNx A P (k + 1) = nI k := if_pos ⟨h1, h2⟩
theorem rNx_f {A : HS} {P : Nat → Bool} {k : Nat} (h1 : ¬ rNx A P k = -1) (h2 : nxB A k (rNx A P k).toNatClampNeg = false) : rNx A P (k + 1) = rNx A P k := if_neg (fun z => z.2.elim h1 (fun y => by rw [h2] at y; exact absurd y (by decide)))
theorem nxB_1 {A : HS} {j b : Nat} (h : rSort (mI A 244 b) < rSort (mI A 244 j)) : nxB A j b = true := by
  unfold nxB
  rw [decide_eq_true h, Bool.true_or]
theorem nxB_2 {A : HS} {j b : Nat} (h1 : rSort (mI A 244 j) = rSort (mI A 244 b)) (h2 : mI A 244 b < mI A 244 j) : nxB A j b = true := by
  unfold nxB
  rw [decide_eq_true h1, decide_eq_true h2, Bool.and_self, Bool.or_true]
theorem nxB_3 {A : HS} {j b : Nat} (h0 : ¬ rSort (mI A 244 b) < rSort (mI A 244 j)) (h1 : ¬ rSort (mI A 244 j) = rSort (mI A 244 b)) : nxB A j b = false := by
  unfold nxB
  rw [decide_eq_false h0, decide_eq_false h1]; rfl
theorem nxB_4 {A : HS} {j b : Nat} (h0 : ¬ rSort (mI A 244 b) < rSort (mI A 244 j)) (h2 : ¬ mI A 244 b < mI A 244 j) : nxB A j b = false := by
  unfold nxB
  rw [decide_eq_false h0, decide_eq_false h2, Bool.and_false]; rfl

abbrev rm_r_X16_next : Room := { frames := 3, cells := 0, slots := 0, locals := 64 }
set_option maxHeartbeats 4000000 in
set_option maxRecDepth 100000 in
theorem r_X16_next {s0 : State} {l : Launch} {D : va_G} {cy : Nat → ClassId} (G : Gl s0 l D cy) (S : HS) (ea ns nj nm nt nr nq : Nat) (h : RI ea S ns nj nm nt nr nq) (a : Int32) (hV4 : vV S 40 0) (hN4 : mN S 40 0 = nt) : Ctr s0 l D cy yX16_next cX16_next 6 (some .int) rm_r_X16_next S [.ref (gG S 16 0), .int a, .ref (gG S 40 0)] (PU S (some (.int (rNx S (nxR S a (mA S 40 0)) nt)))) := by
  refine pro "CavershamShiftModel" G rfl rfl (Nat.le_of_ble_eq_true rfl) (fun p e s m below meth c ls X w hnm hl => ?_)
  have hx := X.1
  have hb := X.2.1
  have hown := X.2.2.2.1
  have hts := X.2.2.2.2.1
  have hl : lv_has ls 6 [(0, .ref (gG S 16 0)), (1, .int a), (2, .ref (gG S 40 0))] := hl
  refine lv_iconst (v := (-1)) hx hb dX16_next_0 (by decide) ?_
  refine lv_istore_n (lv' := [(3, .int (-1)), (0, .ref (gG S 16 0)), (1, .int a), (2, .ref (gG S 40 0))]) hx hb dX16_next_1 rfl hl (by decide) rfl (fun ls hl => ?_)
  refine lv_iconst (v := 0) hx hb dX16_next_2 (by decide) ?_
  refine lv_istore (lv' := [(4, .int 0), (3, .int (-1)), (0, .ref (gG S 16 0)), (1, .int a), (2, .ref (gG S 40 0))]) hx hb dX16_next_3 hl (by decide) rfl (fun ls hl => ?_)
  have L5 : ∀ (N : Nat) (k : Nat) (best : Int32) (H : Heap) (locs : List Loc) (ls : Array Slot), nt - k < N → (k ≤ nt) → (best = rNx S (nxR S a (mA S 40 0)) k) → Wd s0 D cy S s.heap H locs → lv_has ls 6 [(0, .ref (gG S 16 0)), (1, .int a), (2, .ref (gG S 40 0)), (3, .int best), (4, .int (nI k))] → W p l e rm_r_X16_next s m ([.ref (gG S 16 0), .int a, .ref (gG S 40 0)] : List Value).toArray below meth c H locs 0 0 (MQ below (GQ s0 D cy (PU S (some (.int (rNx S (nxR S a (mA S 40 0)) nt))))) ([.ref (gG S 16 0), .int a, .ref (gG S 40 0)] : List Value).toArray s rm_r_X16_next.cells rm_r_X16_next.slots (A0 s0)) (F0 m 5 ls []) := by
    intro N
    induction N with
    | zero => intros; omega
    | succ N ih5 =>
      intro k best H locs ls hmu hk hB w hl
      refine lv_iload hx hb dX16_next_5 (lv_at hl 4 rfl) ?_
      refine lv_aload_n hx hb dX16_next_7 rfl (lv_at hl 0 rfl) ?_
      refine g_16_9 (S := S) (x := (some (gG S 17 9))) X w h.v wF_X16_26 (h.f_ta) dX16_next_8 ?_
      refine cF (S := S) (t := 17) (nA := 0) (As := []) (rest := [.int (nI k)]) X w hl h.l_ta.1 (m_size G S ea 9 nt h.l_ta) wY_Jx4a65c_size_8abf5 wM_X16_73 wIn_Jx4a65c_size_8abf5 wSe_Jx4a65c_Jx4a65c_size_8abf5_of_java_util_List_size___I wI_Jx4a65c fw_size (by decide) rfl (by decide +kernel) rfl rfl dX16_next_11 ⟨by decide, by decide⟩ (Nat.le_of_ble_eq_true rfl) (⟨Nat.le_of_ble_eq_true rfl, Nat.le_of_ble_eq_true rfl⟩) (fun v1 S1 H locs hp w => ?_)
      obtain ⟨rfl, rfl⟩ := hp
      refine lv_icmp_ge (tgt := 157) hx hb dX16_next_16 (by decide) (fun hc9 => ?_) (fun hc9 => ?_)
      · have hge : nt ≤ k := by
          have hb1 := h.b_ta
          exact (nI_leI (by omega) (by omega)).mp hc9
        refine lv_iload_n hx hb dX16_next_157 rfl (lv_at hl 3 rfl) ?_
        exact rI X w rfl dX16_next_158 (by decide) (by decide) (pu_i (by rw [hB, show k = nt by omega]))
      · have hlt : k < nt := by
          have hb1 := h.b_ta
          exact Nat.lt_of_not_le (fun z => hc9 ((nI_leI (by omega) (by omega)).mpr z))
        refine lv_aload_n hx hb dX16_next_19 rfl (lv_at hl 0 rfl) ?_
        refine g_16_9 (S := S) (x := (some (gG S 17 9))) X w h.v wF_X16_26 (h.f_ta) dX16_next_20 ?_
        refine lv_iload hx hb dX16_next_23 (lv_at hl 4 rfl) ?_
        refine cF (S := S) (t := 17) (nA := 1) (As := [.int (nI k)]) (rest := []) X w hl h.l_ta.1 (m_get G S ea 9 k nt (some (gG S 15 k)) h.l_ta hlt (h.e_ta k hlt).1) wY_Jx4a65c_get_915e3 wM_X16_46 wIn_Jx4a65c_get_915e3 wSe_Jx4a65c_Jx4a65c_get_915e3_of_java_util_List_get__I_Ljava_lang_Object_ wI_Jx4a65c fw_get (by decide) rfl (by decide +kernel) rfl rfl dX16_next_25 ⟨by decide, by decide⟩ (Nat.le_of_ble_eq_true rfl) (⟨Nat.le_of_ble_eq_true rfl, Nat.le_of_ble_eq_true rfl⟩) (fun v2 S1 H locs hp w => ?_)
        obtain ⟨rfl, rfl⟩ := hp
        refine ckC (S := S) (t := 15) X w (h.e_ta k hlt).2 (by decide) rfl wC_X16_105 dX16_next_30 ?_
        refine lv_astore (lv' := [(5, .ref (gG S 15 k)), (0, .ref (gG S 16 0)), (1, .int a), (2, .ref (gG S 40 0)), (3, .int best), (4, .int (nI k))]) hx hb dX16_next_33 hl (by decide) rfl (fun ls hl => ?_)
        refine lv_aload hx hb dX16_next_35 (lv_at hl 0 rfl) ?_
        refine g_15_7 (S := S) (x := (mI S 247 k)) X w (h.e_ta k hlt).2 wF_X16_144 (rfl) dX16_next_37 ?_
        refine lv_if_ne (tgt := 151) hx hb dX16_next_40 (by decide) (fun hs0 => ?_) (fun hs0 => ?_)
        · refine lv_iinc (v := nI (k + 1)) (lv' := [(4, .int (nI (k + 1))), (5, .ref (gG S 15 k)), (0, .ref (gG S 16 0)), (1, .int a), (2, .ref (gG S 40 0)), (3, .int best)]) hx hb dX16_next_151 hl (k := 5) rfl (nI_1 _) (by decide) rfl (fun ls hl => ?_)
          refine lv_goto (tgt := 5) hx hb dX16_next_154 (by decide) ?_
          exact ih5 (k + 1) best _ _ _ (by omega) (by omega) (by first | exact hB.trans (rNx_n (nxR_f (fun z => hs0 z.1))).symm | exact hB.trans (rNx_n (nxR_f (fun z => absurd ((b2i_t hk49).symm.trans z.2.1) (by decide)))).symm | exact hB.trans (rNx_n (nxR_f (fun z => hp0 z.2.2.1))).symm | exact hB.trans (rNx_n (nxR_f (fun z => z.2.2.2 (Int32.not_le.mp hk65)))).symm | exact (rNx_t hPk (Or.inl (hB.symm.trans hbm))).symm | exact (rNx_t hPk (Or.inr (by rw [← hB, nI_clamp (by have := h.b_ta; omega)]; exact nxB_1 hk97))).symm | exact (rNx_t hPk (Or.inr (by rw [← hB, nI_clamp (by have := h.b_ta; omega)]; exact nxB_2 hk121 (Int32.not_le.mp hk145)))).symm | exact hB.trans (rNx_f (fun z => nI_neg1 (by have := h.b_ta; omega) (hB.trans z)) (by rw [← hB, nI_clamp (by have := h.b_ta; omega)]; exact nxB_3 hk97 hk121)).symm | exact hB.trans (rNx_f (fun z => nI_neg1 (by have := h.b_ta; omega) (hB.trans z)) (by rw [← hB, nI_clamp (by have := h.b_ta; omega)]; exact nxB_4 hk97 (Int32.not_lt.mpr hk145))).symm) w (lv_sub hl [2, 3, 4, 5, 0] rfl)
        · refine lv_aload_n hx hb dX16_next_43 rfl (lv_at hl 1 rfl) ?_
          refine lv_aload hx hb dX16_next_44 (lv_at hl 0 rfl) ?_
          refine cV (S := S) (nA := 1) (As := [.ref (gG S 15 k)]) (rest := []) X w hl h.v (m_X16_isStale G S ea ns nj nm nt nr nq h k hlt) wY_X16_isStale wM_X16_147 wIn_X16_isStale wSe_X16_X16_isStale wI_X16 (by decide) rfl (by decide +kernel) rfl rfl dX16_next_46 ⟨by decide, by decide⟩ (Nat.le_of_ble_eq_true rfl) (⟨Nat.le_of_ble_eq_true rfl, Nat.le_of_ble_eq_true rfl⟩) (fun v3 S1 H locs hp w => ?_)
          obtain ⟨rfl, rfl⟩ := hp
          refine lv_if_ne (tgt := 151) hx hb dX16_next_49 (by decide) (fun hk49 => ?_) (fun hk49 => ?_)
          · refine lv_iinc (v := nI (k + 1)) (lv' := [(4, .int (nI (k + 1))), (5, .ref (gG S 15 k)), (0, .ref (gG S 16 0)), (1, .int a), (2, .ref (gG S 40 0)), (3, .int best)]) hx hb dX16_next_151 hl (k := 5) rfl (nI_1 _) (by decide) rfl (fun ls hl => ?_)
            refine lv_goto (tgt := 5) hx hb dX16_next_154 (by decide) ?_
            exact ih5 (k + 1) best _ _ _ (by omega) (by omega) (by first | exact hB.trans (rNx_n (nxR_f (fun z => hs0 z.1))).symm | exact hB.trans (rNx_n (nxR_f (fun z => absurd ((b2i_t hk49).symm.trans z.2.1) (by decide)))).symm | exact hB.trans (rNx_n (nxR_f (fun z => hp0 z.2.2.1))).symm | exact hB.trans (rNx_n (nxR_f (fun z => z.2.2.2 (Int32.not_le.mp hk65)))).symm | exact (rNx_t hPk (Or.inl (hB.symm.trans hbm))).symm | exact (rNx_t hPk (Or.inr (by rw [← hB, nI_clamp (by have := h.b_ta; omega)]; exact nxB_1 hk97))).symm | exact (rNx_t hPk (Or.inr (by rw [← hB, nI_clamp (by have := h.b_ta; omega)]; exact nxB_2 hk121 (Int32.not_le.mp hk145)))).symm | exact hB.trans (rNx_f (fun z => nI_neg1 (by have := h.b_ta; omega) (hB.trans z)) (by rw [← hB, nI_clamp (by have := h.b_ta; omega)]; exact nxB_3 hk97 hk121)).symm | exact hB.trans (rNx_f (fun z => nI_neg1 (by have := h.b_ta; omega) (hB.trans z)) (by rw [← hB, nI_clamp (by have := h.b_ta; omega)]; exact nxB_4 hk97 (Int32.not_lt.mpr hk145))).symm) w (lv_sub hl [2, 3, 4, 5, 0] rfl)
          · refine lv_aload_n hx hb dX16_next_52 rfl (lv_at hl 3 rfl) ?_
            refine lv_iload hx hb dX16_next_53 (lv_at hl 5 rfl) ?_
            refine aLdZ (S := S) (t := 40) (i := 0) (v := mA S 40 0 k) X w hV4 (by decide) rfl rfl (by rw [hN4]; exact nI_vp hlt (by have := h.b_ta; omega)) (by rw [cl_nI (n := nt) hlt (by have := h.b_ta; omega)]) dX16_next_55 ?_
            refine lv_if_ne (tgt := 151) hx hb dX16_next_56 (by decide) (fun hp0 => ?_) (fun hp0 => ?_)
            · refine lv_iinc (v := nI (k + 1)) (lv' := [(4, .int (nI (k + 1))), (5, .ref (gG S 15 k)), (0, .ref (gG S 16 0)), (1, .int a), (2, .ref (gG S 40 0)), (3, .int best)]) hx hb dX16_next_151 hl (k := 5) rfl (nI_1 _) (by decide) rfl (fun ls hl => ?_)
              refine lv_goto (tgt := 5) hx hb dX16_next_154 (by decide) ?_
              exact ih5 (k + 1) best _ _ _ (by omega) (by omega) (by first | exact hB.trans (rNx_n (nxR_f (fun z => hs0 z.1))).symm | exact hB.trans (rNx_n (nxR_f (fun z => absurd ((b2i_t hk49).symm.trans z.2.1) (by decide)))).symm | exact hB.trans (rNx_n (nxR_f (fun z => hp0 z.2.2.1))).symm | exact hB.trans (rNx_n (nxR_f (fun z => z.2.2.2 (Int32.not_le.mp hk65)))).symm | exact (rNx_t hPk (Or.inl (hB.symm.trans hbm))).symm | exact (rNx_t hPk (Or.inr (by rw [← hB, nI_clamp (by have := h.b_ta; omega)]; exact nxB_1 hk97))).symm | exact (rNx_t hPk (Or.inr (by rw [← hB, nI_clamp (by have := h.b_ta; omega)]; exact nxB_2 hk121 (Int32.not_le.mp hk145)))).symm | exact hB.trans (rNx_f (fun z => nI_neg1 (by have := h.b_ta; omega) (hB.trans z)) (by rw [← hB, nI_clamp (by have := h.b_ta; omega)]; exact nxB_3 hk97 hk121)).symm | exact hB.trans (rNx_f (fun z => nI_neg1 (by have := h.b_ta; omega) (hB.trans z)) (by rw [← hB, nI_clamp (by have := h.b_ta; omega)]; exact nxB_4 hk97 (Int32.not_lt.mpr hk145))).symm) w (lv_sub hl [2, 3, 4, 5, 0] rfl)
            · refine lv_aload hx hb dX16_next_59 (lv_at hl 0 rfl) ?_
              refine cV (S := S) (nA := 0) (As := []) (rest := []) X w hl (h.e_ta k hlt).2 (m_X15_length G S k (h.e_ta k hlt).2) wY_X15_length wM_X16_151 wIn_X15_length wSe_X15_X15_length wI_X15 (by decide) rfl (by decide +kernel) rfl rfl dX16_next_61 ⟨by decide, by decide⟩ (Nat.le_of_ble_eq_true rfl) (⟨Nat.le_of_ble_eq_true rfl, Nat.le_of_ble_eq_true rfl⟩) (fun v4 S1 H locs hp w => ?_)
              obtain ⟨rfl, rfl⟩ := hp
              refine lv_iload_n hx hb dX16_next_64 rfl (lv_at hl 2 rfl) ?_
              refine lv_icmp_le (tgt := 71) hx hb dX16_next_65 (by decide) (fun hk65 => ?_) (fun hk65 => ?_)
              · have hPk : (nxR S a (mA S 40 0)) k = true := nxR_t hs0 (b2i_f hk49) hp0 (Int32.not_lt.mpr hk65)
                refine lv_iload_n hx hb dX16_next_71 rfl (lv_at hl 4 rfl) ?_
                refine lv_iconst (v := (-1)) hx hb dX16_next_72 (by decide) ?_
                refine lv_icmp_eq (tgt := 148) hx hb dX16_next_73 (by decide) (fun hbm => ?_) (fun hbm => ?_)
                · refine lv_iload hx hb dX16_next_148 (lv_at hl 5 rfl) ?_
                  refine lv_istore_n (lv' := [(3, .int (nI k)), (5, .ref (gG S 15 k)), (0, .ref (gG S 16 0)), (1, .int a), (2, .ref (gG S 40 0)), (4, .int (nI k))]) hx hb dX16_next_150 rfl hl (by decide) rfl (fun ls hl => ?_)
                  refine lv_iinc (v := nI (k + 1)) (lv' := [(4, .int (nI (k + 1))), (3, .int (nI k)), (5, .ref (gG S 15 k)), (0, .ref (gG S 16 0)), (1, .int a), (2, .ref (gG S 40 0))]) hx hb dX16_next_151 hl (k := 5) rfl (nI_1 _) (by decide) rfl (fun ls hl => ?_)
                  refine lv_goto (tgt := 5) hx hb dX16_next_154 (by decide) ?_
                  exact ih5 (k + 1) (nI k) _ _ _ (by omega) (by omega) (by first | exact hB.trans (rNx_n (nxR_f (fun z => hs0 z.1))).symm | exact hB.trans (rNx_n (nxR_f (fun z => absurd ((b2i_t hk49).symm.trans z.2.1) (by decide)))).symm | exact hB.trans (rNx_n (nxR_f (fun z => hp0 z.2.2.1))).symm | exact hB.trans (rNx_n (nxR_f (fun z => z.2.2.2 (Int32.not_le.mp hk65)))).symm | exact (rNx_t hPk (Or.inl (hB.symm.trans hbm))).symm | exact (rNx_t hPk (Or.inr (by rw [← hB, nI_clamp (by have := h.b_ta; omega)]; exact nxB_1 hk97))).symm | exact (rNx_t hPk (Or.inr (by rw [← hB, nI_clamp (by have := h.b_ta; omega)]; exact nxB_2 hk121 (Int32.not_le.mp hk145)))).symm | exact hB.trans (rNx_f (fun z => nI_neg1 (by have := h.b_ta; omega) (hB.trans z)) (by rw [← hB, nI_clamp (by have := h.b_ta; omega)]; exact nxB_3 hk97 hk121)).symm | exact hB.trans (rNx_f (fun z => nI_neg1 (by have := h.b_ta; omega) (hB.trans z)) (by rw [← hB, nI_clamp (by have := h.b_ta; omega)]; exact nxB_4 hk97 (Int32.not_lt.mpr hk145))).symm) w (lv_sub hl [3, 4, 5, 1, 0] rfl)
                · obtain ⟨b, hlb0, hbe, -⟩ := (rNx_in (A := S) (P := (nxR S a (mA S 40 0))) k (by have := h.b_ta; omega)).resolve_left (fun z => hbm (hB.trans z))
                  have hlb : b < nt := by omega
                  obtain rfl : best = nI b := hB.trans hbe
                  refine lv_aload hx hb dX16_next_76 (lv_at hl 0 rfl) ?_
                  refine cV (S := S) (nA := 0) (As := []) (rest := []) X w hl (h.e_ta k hlt).2 (m_X15_sort G S k (h.e_ta k hlt).2) wY_X15_sort wM_X16_135 wIn_X15_sort wSe_X15_X15_sort wI_X15 (by decide) rfl (by decide +kernel) rfl rfl dX16_next_78 ⟨by decide, by decide⟩ (Nat.le_of_ble_eq_true rfl) (⟨Nat.le_of_ble_eq_true rfl, Nat.le_of_ble_eq_true rfl⟩) (fun v5 S1 H locs hp w => ?_)
                  obtain ⟨rfl, rfl⟩ := hp
                  refine lv_aload_n hx hb dX16_next_81 rfl (lv_at hl 1 rfl) ?_
                  refine g_16_9 (S := S) (x := (some (gG S 17 9))) X w h.v wF_X16_26 (h.f_ta) dX16_next_82 ?_
                  refine lv_iload_n hx hb dX16_next_85 rfl (lv_at hl 4 rfl) ?_
                  refine cF (S := S) (t := 17) (nA := 1) (As := [.int (nI b)]) (rest := [.int (rSort (mI S 244 k))]) X w hl h.l_ta.1 (m_get G S ea 9 b nt (some (gG S 15 b)) h.l_ta hlb (h.e_ta b hlb).1) wY_Jx4a65c_get_915e3 wM_X16_46 wIn_Jx4a65c_get_915e3 wSe_Jx4a65c_Jx4a65c_get_915e3_of_java_util_List_get__I_Ljava_lang_Object_ wI_Jx4a65c fw_get (by decide) rfl (by decide +kernel) rfl rfl dX16_next_86 ⟨by decide, by decide⟩ (Nat.le_of_ble_eq_true rfl) (⟨Nat.le_of_ble_eq_true rfl, Nat.le_of_ble_eq_true rfl⟩) (fun v6 S1 H locs hp w => ?_)
                  obtain ⟨rfl, rfl⟩ := hp
                  refine ckC (S := S) (t := 15) X w (h.e_ta b hlb).2 (by decide) rfl wC_X16_105 dX16_next_91 ?_
                  refine cV (S := S) (nA := 0) (As := []) (rest := [.int (rSort (mI S 244 k))]) X w hl (h.e_ta b hlb).2 (m_X15_sort G S b (h.e_ta b hlb).2) wY_X15_sort wM_X16_135 wIn_X15_sort wSe_X15_X15_sort wI_X15 (by decide) rfl (by decide +kernel) rfl rfl dX16_next_94 ⟨by decide, by decide⟩ (Nat.le_of_ble_eq_true rfl) (⟨Nat.le_of_ble_eq_true rfl, Nat.le_of_ble_eq_true rfl⟩) (fun v7 S1 H locs hp w => ?_)
                  obtain ⟨rfl, rfl⟩ := hp
                  refine lv_icmp_gt (tgt := 148) hx hb dX16_next_97 (by decide) (fun hk97 => ?_) (fun hk97 => ?_)
                  · refine lv_iload hx hb dX16_next_148 (lv_at hl 5 rfl) ?_
                    refine lv_istore_n (lv' := [(3, .int (nI k)), (5, .ref (gG S 15 k)), (0, .ref (gG S 16 0)), (1, .int a), (2, .ref (gG S 40 0)), (4, .int (nI k))]) hx hb dX16_next_150 rfl hl (by decide) rfl (fun ls hl => ?_)
                    refine lv_iinc (v := nI (k + 1)) (lv' := [(4, .int (nI (k + 1))), (3, .int (nI k)), (5, .ref (gG S 15 k)), (0, .ref (gG S 16 0)), (1, .int a), (2, .ref (gG S 40 0))]) hx hb dX16_next_151 hl (k := 5) rfl (nI_1 _) (by decide) rfl (fun ls hl => ?_)
                    refine lv_goto (tgt := 5) hx hb dX16_next_154 (by decide) ?_
                    exact ih5 (k + 1) (nI k) _ _ _ (by omega) (by omega) (by first | exact hB.trans (rNx_n (nxR_f (fun z => hs0 z.1))).symm | exact hB.trans (rNx_n (nxR_f (fun z => absurd ((b2i_t hk49).symm.trans z.2.1) (by decide)))).symm | exact hB.trans (rNx_n (nxR_f (fun z => hp0 z.2.2.1))).symm | exact hB.trans (rNx_n (nxR_f (fun z => z.2.2.2 (Int32.not_le.mp hk65)))).symm | exact (rNx_t hPk (Or.inl (hB.symm.trans hbm))).symm | exact (rNx_t hPk (Or.inr (by rw [← hB, nI_clamp (by have := h.b_ta; omega)]; exact nxB_1 hk97))).symm | exact (rNx_t hPk (Or.inr (by rw [← hB, nI_clamp (by have := h.b_ta; omega)]; exact nxB_2 hk121 (Int32.not_le.mp hk145)))).symm | exact hB.trans (rNx_f (fun z => nI_neg1 (by have := h.b_ta; omega) (hB.trans z)) (by rw [← hB, nI_clamp (by have := h.b_ta; omega)]; exact nxB_3 hk97 hk121)).symm | exact hB.trans (rNx_f (fun z => nI_neg1 (by have := h.b_ta; omega) (hB.trans z)) (by rw [← hB, nI_clamp (by have := h.b_ta; omega)]; exact nxB_4 hk97 (Int32.not_lt.mpr hk145))).symm) w (lv_sub hl [3, 4, 5, 1, 0] rfl)
                  · refine lv_aload hx hb dX16_next_100 (lv_at hl 0 rfl) ?_
                    refine cV (S := S) (nA := 0) (As := []) (rest := []) X w hl (h.e_ta k hlt).2 (m_X15_sort G S k (h.e_ta k hlt).2) wY_X15_sort wM_X16_135 wIn_X15_sort wSe_X15_X15_sort wI_X15 (by decide) rfl (by decide +kernel) rfl rfl dX16_next_102 ⟨by decide, by decide⟩ (Nat.le_of_ble_eq_true rfl) (⟨Nat.le_of_ble_eq_true rfl, Nat.le_of_ble_eq_true rfl⟩) (fun v8 S1 H locs hp w => ?_)
                    obtain ⟨rfl, rfl⟩ := hp
                    refine lv_aload_n hx hb dX16_next_105 rfl (lv_at hl 1 rfl) ?_
                    refine g_16_9 (S := S) (x := (some (gG S 17 9))) X w h.v wF_X16_26 (h.f_ta) dX16_next_106 ?_
                    refine lv_iload_n hx hb dX16_next_109 rfl (lv_at hl 4 rfl) ?_
                    refine cF (S := S) (t := 17) (nA := 1) (As := [.int (nI b)]) (rest := [.int (rSort (mI S 244 k))]) X w hl h.l_ta.1 (m_get G S ea 9 b nt (some (gG S 15 b)) h.l_ta hlb (h.e_ta b hlb).1) wY_Jx4a65c_get_915e3 wM_X16_46 wIn_Jx4a65c_get_915e3 wSe_Jx4a65c_Jx4a65c_get_915e3_of_java_util_List_get__I_Ljava_lang_Object_ wI_Jx4a65c fw_get (by decide) rfl (by decide +kernel) rfl rfl dX16_next_110 ⟨by decide, by decide⟩ (Nat.le_of_ble_eq_true rfl) (⟨Nat.le_of_ble_eq_true rfl, Nat.le_of_ble_eq_true rfl⟩) (fun v9 S1 H locs hp w => ?_)
                    obtain ⟨rfl, rfl⟩ := hp
                    refine ckC (S := S) (t := 15) X w (h.e_ta b hlb).2 (by decide) rfl wC_X16_105 dX16_next_115 ?_
                    refine cV (S := S) (nA := 0) (As := []) (rest := [.int (rSort (mI S 244 k))]) X w hl (h.e_ta b hlb).2 (m_X15_sort G S b (h.e_ta b hlb).2) wY_X15_sort wM_X16_135 wIn_X15_sort wSe_X15_X15_sort wI_X15 (by decide) rfl (by decide +kernel) rfl rfl dX16_next_118 ⟨by decide, by decide⟩ (Nat.le_of_ble_eq_true rfl) (⟨Nat.le_of_ble_eq_true rfl, Nat.le_of_ble_eq_true rfl⟩) (fun v10 S1 H locs hp w => ?_)
                    obtain ⟨rfl, rfl⟩ := hp
                    refine lv_icmp_ne (tgt := 151) hx hb dX16_next_121 (by decide) (fun hk121 => ?_) (fun hk121 => ?_)
                    · refine lv_iinc (v := nI (k + 1)) (lv' := [(4, .int (nI (k + 1))), (5, .ref (gG S 15 k)), (0, .ref (gG S 16 0)), (1, .int a), (2, .ref (gG S 40 0)), (3, .int (nI b))]) hx hb dX16_next_151 hl (k := 5) rfl (nI_1 _) (by decide) rfl (fun ls hl => ?_)
                      refine lv_goto (tgt := 5) hx hb dX16_next_154 (by decide) ?_
                      exact ih5 (k + 1) (nI b) _ _ _ (by omega) (by omega) (by first | exact hB.trans (rNx_n (nxR_f (fun z => hs0 z.1))).symm | exact hB.trans (rNx_n (nxR_f (fun z => absurd ((b2i_t hk49).symm.trans z.2.1) (by decide)))).symm | exact hB.trans (rNx_n (nxR_f (fun z => hp0 z.2.2.1))).symm | exact hB.trans (rNx_n (nxR_f (fun z => z.2.2.2 (Int32.not_le.mp hk65)))).symm | exact (rNx_t hPk (Or.inl (hB.symm.trans hbm))).symm | exact (rNx_t hPk (Or.inr (by rw [← hB, nI_clamp (by have := h.b_ta; omega)]; exact nxB_1 hk97))).symm | exact (rNx_t hPk (Or.inr (by rw [← hB, nI_clamp (by have := h.b_ta; omega)]; exact nxB_2 hk121 (Int32.not_le.mp hk145)))).symm | exact hB.trans (rNx_f (fun z => nI_neg1 (by have := h.b_ta; omega) (hB.trans z)) (by rw [← hB, nI_clamp (by have := h.b_ta; omega)]; exact nxB_3 hk97 hk121)).symm | exact hB.trans (rNx_f (fun z => nI_neg1 (by have := h.b_ta; omega) (hB.trans z)) (by rw [← hB, nI_clamp (by have := h.b_ta; omega)]; exact nxB_4 hk97 (Int32.not_lt.mpr hk145))).symm) w (lv_sub hl [2, 3, 4, 5, 0] rfl)
                    · refine lv_aload hx hb dX16_next_124 (lv_at hl 0 rfl) ?_
                      refine g_15_4 (S := S) (x := (mI S 244 k)) X w (h.e_ta k hlt).2 wF_X16_154 (rfl) dX16_next_126 ?_
                      refine lv_aload_n hx hb dX16_next_129 rfl (lv_at hl 1 rfl) ?_
                      refine g_16_9 (S := S) (x := (some (gG S 17 9))) X w h.v wF_X16_26 (h.f_ta) dX16_next_130 ?_
                      refine lv_iload_n hx hb dX16_next_133 rfl (lv_at hl 4 rfl) ?_
                      refine cF (S := S) (t := 17) (nA := 1) (As := [.int (nI b)]) (rest := [.int (mI S 244 k)]) X w hl h.l_ta.1 (m_get G S ea 9 b nt (some (gG S 15 b)) h.l_ta hlb (h.e_ta b hlb).1) wY_Jx4a65c_get_915e3 wM_X16_46 wIn_Jx4a65c_get_915e3 wSe_Jx4a65c_Jx4a65c_get_915e3_of_java_util_List_get__I_Ljava_lang_Object_ wI_Jx4a65c fw_get (by decide) rfl (by decide +kernel) rfl rfl dX16_next_134 ⟨by decide, by decide⟩ (Nat.le_of_ble_eq_true rfl) (⟨Nat.le_of_ble_eq_true rfl, Nat.le_of_ble_eq_true rfl⟩) (fun v11 S1 H locs hp w => ?_)
                      obtain ⟨rfl, rfl⟩ := hp
                      refine ckC (S := S) (t := 15) X w (h.e_ta b hlb).2 (by decide) rfl wC_X16_105 dX16_next_139 ?_
                      refine g_15_4 (S := S) (x := (mI S 244 b)) X w (h.e_ta b hlb).2 wF_X16_154 (rfl) dX16_next_142 ?_
                      refine lv_icmp_le (tgt := 151) hx hb dX16_next_145 (by decide) (fun hk145 => ?_) (fun hk145 => ?_)
                      · refine lv_iinc (v := nI (k + 1)) (lv' := [(4, .int (nI (k + 1))), (5, .ref (gG S 15 k)), (0, .ref (gG S 16 0)), (1, .int a), (2, .ref (gG S 40 0)), (3, .int (nI b))]) hx hb dX16_next_151 hl (k := 5) rfl (nI_1 _) (by decide) rfl (fun ls hl => ?_)
                        refine lv_goto (tgt := 5) hx hb dX16_next_154 (by decide) ?_
                        exact ih5 (k + 1) (nI b) _ _ _ (by omega) (by omega) (by first | exact hB.trans (rNx_n (nxR_f (fun z => hs0 z.1))).symm | exact hB.trans (rNx_n (nxR_f (fun z => absurd ((b2i_t hk49).symm.trans z.2.1) (by decide)))).symm | exact hB.trans (rNx_n (nxR_f (fun z => hp0 z.2.2.1))).symm | exact hB.trans (rNx_n (nxR_f (fun z => z.2.2.2 (Int32.not_le.mp hk65)))).symm | exact (rNx_t hPk (Or.inl (hB.symm.trans hbm))).symm | exact (rNx_t hPk (Or.inr (by rw [← hB, nI_clamp (by have := h.b_ta; omega)]; exact nxB_1 hk97))).symm | exact (rNx_t hPk (Or.inr (by rw [← hB, nI_clamp (by have := h.b_ta; omega)]; exact nxB_2 hk121 (Int32.not_le.mp hk145)))).symm | exact hB.trans (rNx_f (fun z => nI_neg1 (by have := h.b_ta; omega) (hB.trans z)) (by rw [← hB, nI_clamp (by have := h.b_ta; omega)]; exact nxB_3 hk97 hk121)).symm | exact hB.trans (rNx_f (fun z => nI_neg1 (by have := h.b_ta; omega) (hB.trans z)) (by rw [← hB, nI_clamp (by have := h.b_ta; omega)]; exact nxB_4 hk97 (Int32.not_lt.mpr hk145))).symm) w (lv_sub hl [2, 3, 4, 5, 0] rfl)
                      · refine lv_iload hx hb dX16_next_148 (lv_at hl 5 rfl) ?_
                        refine lv_istore_n (lv' := [(3, .int (nI k)), (5, .ref (gG S 15 k)), (0, .ref (gG S 16 0)), (1, .int a), (2, .ref (gG S 40 0)), (4, .int (nI k))]) hx hb dX16_next_150 rfl hl (by decide) rfl (fun ls hl => ?_)
                        refine lv_iinc (v := nI (k + 1)) (lv' := [(4, .int (nI (k + 1))), (3, .int (nI k)), (5, .ref (gG S 15 k)), (0, .ref (gG S 16 0)), (1, .int a), (2, .ref (gG S 40 0))]) hx hb dX16_next_151 hl (k := 5) rfl (nI_1 _) (by decide) rfl (fun ls hl => ?_)
                        refine lv_goto (tgt := 5) hx hb dX16_next_154 (by decide) ?_
                        exact ih5 (k + 1) (nI k) _ _ _ (by omega) (by omega) (by first | exact hB.trans (rNx_n (nxR_f (fun z => hs0 z.1))).symm | exact hB.trans (rNx_n (nxR_f (fun z => absurd ((b2i_t hk49).symm.trans z.2.1) (by decide)))).symm | exact hB.trans (rNx_n (nxR_f (fun z => hp0 z.2.2.1))).symm | exact hB.trans (rNx_n (nxR_f (fun z => z.2.2.2 (Int32.not_le.mp hk65)))).symm | exact (rNx_t hPk (Or.inl (hB.symm.trans hbm))).symm | exact (rNx_t hPk (Or.inr (by rw [← hB, nI_clamp (by have := h.b_ta; omega)]; exact nxB_1 hk97))).symm | exact (rNx_t hPk (Or.inr (by rw [← hB, nI_clamp (by have := h.b_ta; omega)]; exact nxB_2 hk121 (Int32.not_le.mp hk145)))).symm | exact hB.trans (rNx_f (fun z => nI_neg1 (by have := h.b_ta; omega) (hB.trans z)) (by rw [← hB, nI_clamp (by have := h.b_ta; omega)]; exact nxB_3 hk97 hk121)).symm | exact hB.trans (rNx_f (fun z => nI_neg1 (by have := h.b_ta; omega) (hB.trans z)) (by rw [← hB, nI_clamp (by have := h.b_ta; omega)]; exact nxB_4 hk97 (Int32.not_lt.mpr hk145))).symm) w (lv_sub hl [3, 4, 5, 1, 0] rfl)
              · refine lv_goto (tgt := 151) hx hb dX16_next_68 (by decide) ?_
                refine lv_iinc (v := nI (k + 1)) (lv' := [(4, .int (nI (k + 1))), (5, .ref (gG S 15 k)), (0, .ref (gG S 16 0)), (1, .int a), (2, .ref (gG S 40 0)), (3, .int best)]) hx hb dX16_next_151 hl (k := 5) rfl (nI_1 _) (by decide) rfl (fun ls hl => ?_)
                refine lv_goto (tgt := 5) hx hb dX16_next_154 (by decide) ?_
                exact ih5 (k + 1) best _ _ _ (by omega) (by omega) (by first | exact hB.trans (rNx_n (nxR_f (fun z => hs0 z.1))).symm | exact hB.trans (rNx_n (nxR_f (fun z => absurd ((b2i_t hk49).symm.trans z.2.1) (by decide)))).symm | exact hB.trans (rNx_n (nxR_f (fun z => hp0 z.2.2.1))).symm | exact hB.trans (rNx_n (nxR_f (fun z => z.2.2.2 (Int32.not_le.mp hk65)))).symm | exact (rNx_t hPk (Or.inl (hB.symm.trans hbm))).symm | exact (rNx_t hPk (Or.inr (by rw [← hB, nI_clamp (by have := h.b_ta; omega)]; exact nxB_1 hk97))).symm | exact (rNx_t hPk (Or.inr (by rw [← hB, nI_clamp (by have := h.b_ta; omega)]; exact nxB_2 hk121 (Int32.not_le.mp hk145)))).symm | exact hB.trans (rNx_f (fun z => nI_neg1 (by have := h.b_ta; omega) (hB.trans z)) (by rw [← hB, nI_clamp (by have := h.b_ta; omega)]; exact nxB_3 hk97 hk121)).symm | exact hB.trans (rNx_f (fun z => nI_neg1 (by have := h.b_ta; omega) (hB.trans z)) (by rw [← hB, nI_clamp (by have := h.b_ta; omega)]; exact nxB_4 hk97 (Int32.not_lt.mpr hk145))).symm) w (lv_sub hl [2, 3, 4, 5, 0] rfl)
  exact L5 _ 0 (-1) _ _ _ (Nat.lt_succ_self _) (by omega) (rfl) w (lv_sub hl [2, 3, 4, 1, 0] rfl)

