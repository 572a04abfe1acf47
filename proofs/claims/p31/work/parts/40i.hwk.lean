abbrev rm_a_X7_tire : Room := { frames := 4, cells := 0, slots := 0, locals := 88 }
set_option maxHeartbeats 4000000 in
set_option maxRecDepth 100000 in
theorem a_X7_tire {s0 : State} {l : Launch} {D : va_G} {cy : Nat → ClassId} (G : Gl s0 l D cy) (S : HS) (ea ns nj nm nt nr nc : Nat) (h : CI ea S ns nj nm nt nr nc) (A : HS) (hA : RK S A ns nj nm nt nr nc) (x : Nat) (hx4 : x < 24) : Ctr s0 l D cy yX7_tire cX7_tire 5 none rm_a_X7_tire S [.ref (gG S 7 0), .int (nI x)] (fun v S' => none = v ∧ CI ea S' ns nj nm nt nr nc ∧ Kq (hidV false) hiH (hidR false) S S' ∧ RK S' (tiL A x nm) ns nj nm nt nr nc) := by
  refine pro "CavershamShift$Room" G rfl rfl (Nat.le_of_ble_eq_true rfl) (fun p e s m below meth c ls X w hnm hl => ?_)
  have hx := X.1
  have hb := X.2.1
  have hown := X.2.2.2.1
  have hts := X.2.2.2.2.1
  have hl : lv_has ls 5 [(0, .ref (gG S 7 0)), (1, .int (nI x))] := hl
  have h0 := h
  have hK : Kq (hidV false) hiH (hidR false) S S := Kq.rf
  refine lv_iconst (v := 0) hx hb dX7_tire_0 (by decide) ?_
  refine lv_istore_n (lv' := [(2, .int 0), (0, .ref (gG S 7 0)), (1, .int (nI x))]) hx hb dX7_tire_1 rfl hl (by decide) rfl (fun ls hl => ?_)
  have L2 : ∀ (N : Nat) (k2 : Nat) (T2 : HS) (H : Heap) (locs : List Loc) (ls : Array Slot), nm - k2 < N → (k2 ≤ nm) → (RK T2 (tiL A x k2) ns nj nm nt nr nc) → (CI ea T2 ns nj nm nt nr nc) → (Kq (hidV false) hiH (hidR false) S T2) → Wd s0 D cy T2 s.heap H locs → lv_has ls 5 [(2, .int (nI k2)), (0, .ref (gG S 7 0)), (1, .int (nI x))] → W p l e rm_a_X7_tire s m ([.ref (gG S 7 0), .int (nI x)] : List Value).toArray below meth c H locs 0 0 (MQ below (GQ s0 D cy (fun v S' => none = v ∧ CI ea S' ns nj nm nt nr nc ∧ Kq (hidV false) hiH (hidR false) S S' ∧ RK S' (tiL A x nm) ns nj nm nt nr nc)) ([.ref (gG S 7 0), .int (nI x)] : List Value).toArray s rm_a_X7_tire.cells rm_a_X7_tire.slots (A0 s0)) (F0 m 2 ls []) := by
    intro N
    induction N with
    | zero => intros; omega
    | succ N ih2 =>
      intro k2 T2 H locs ls hmu hk_k2 hA h hK_T2 w hl
      have hK := hK_T2
      refine lv_iload_n hx hb dX7_tire_2 rfl (lv_at hl 0 rfl) ?_
      refine lv_aload_n hx hb dX7_tire_3 rfl (lv_at hl 1 rfl) ?_
      refine rE0 ((rfl).trans ((hK_T2.G (t := 7) (i := 0) rfl)).symm) ?_
      refine g_7_1 (S := T2) (x := (some (gG T2 17 2))) X w h.v7 wF_X7_12 (h.f113) dX7_tire_4 ?_
      refine cV (S := T2) (nA := 0) (As := []) (rest := [.int (nI k2)]) X w hl h.l_mo.1 (m_size G T2 ea 2 nm h.l_mo) wY_Jx4a65c_size_8abf5 wM_X7_35 wIn_Jx4a65c_size_8abf5 wSe_Jx4a65c_Jx4a65c_size_8abf5 wI_Jx4a65c (by decide) rfl (by decide +kernel) rfl rfl dX7_tire_7 ⟨by decide, by decide⟩ (Nat.le_of_ble_eq_true rfl) (⟨Nat.le_of_ble_eq_true rfl, Nat.le_of_ble_eq_true rfl⟩) (fun v1 S1 H locs hp w => ?_)
      obtain ⟨rfl, rfl⟩ := hp
      refine lv_icmp_ge (tgt := 96) hx hb dX7_tire_10 (by decide) (fun hc_k2 => ?_) (fun hc_k2 => ?_)
      · have hge_k2 : nm ≤ k2 := by
          have hb1 := h.b_mo
          exact (nI_leI (a := nm) (b := k2) (by omega) (by omega)).mp hc_k2
        exact rV X w rfl dX7_tire_96 (by decide) (by decide) (⟨rfl, h, hK, by rw [show k2 = nm by omega] at hA; exact hA⟩)
      · have hlt_k2 : k2 < nm := by
          have hb1 := h.b_mo
          exact Nat.lt_of_not_le (fun z => hc_k2 ((nI_leI (a := nm) (b := k2) (by omega) (by omega)).mpr z))
        refine lv_aload_n hx hb dX7_tire_13 rfl (lv_at hl 1 rfl) ?_
        refine rE0 ((rfl).trans ((hK_T2.G (t := 7) (i := 0) rfl)).symm) ?_
        refine g_7_1 (S := T2) (x := (some (gG T2 17 2))) X w h.v7 wF_X7_12 (h.f113) dX7_tire_14 ?_
        refine lv_iload_n hx hb dX7_tire_17 rfl (lv_at hl 0 rfl) ?_
        refine cV (S := T2) (nA := 1) (As := [.int (nI k2)]) (rest := []) X w hl h.l_mo.1 (m_get G T2 ea 2 k2 nm (some (gG T2 3 k2)) h.l_mo hlt_k2 (h.e_mo k2 hlt_k2).1) wY_Jx4a65c_get_915e3 wM_X7_43 wIn_Jx4a65c_get_915e3 wSe_Jx4a65c_Jx4a65c_get_915e3 wI_Jx4a65c (by decide) rfl (by decide +kernel) rfl rfl dX7_tire_18 ⟨by decide, by decide⟩ (Nat.le_of_ble_eq_true rfl) (⟨Nat.le_of_ble_eq_true rfl, Nat.le_of_ble_eq_true rfl⟩) (fun v2 S1 H locs hp w => ?_)
        obtain ⟨rfl, rfl⟩ := hp
        refine ckC (S := T2) (t := 3) X w (h.e_mo k2 hlt_k2).2 (by decide) rfl wC_X7_47 dX7_tire_21 ?_
        refine lv_astore_n (lv' := [(3, .ref (gG T2 3 k2)), (2, .int (nI k2)), (0, .ref (gG S 7 0)), (1, .int (nI x))]) hx hb dX7_tire_24 rfl hl (by decide) rfl (fun ls hl => ?_)
        refine lv_aload_n hx hb dX7_tire_25 rfl (lv_at hl 2 rfl) ?_
        refine lv_iload_n hx hb dX7_tire_26 rfl (lv_at hl 3 rfl) ?_
        refine lv_aload_n hx hb dX7_tire_27 rfl (lv_at hl 0 rfl) ?_
        refine g_3_0 (S := T2) (x := (nI k2)) X w (h.e_mo k2 hlt_k2).2 wF_X7_101 (h.n_mo k2 hlt_k2) dX7_tire_28 ?_
        refine rE2 ((rfl).trans ((hK_T2.G (t := 7) (i := 0) rfl)).symm) ?_
        refine cV (S := T2) (nA := 2) (As := [.int (nI x), .int (nI k2)]) (rest := []) X w hl h.v7 (a_X7_setOf G T2 ea ns nj nm nt nr nc h (tiL A x k2) hA x hx4 (nI k2)) wY_X7_setOf wM_X7_102 wIn_X7_setOf wSe_X7_X7_setOf wI_X7 (by decide) rfl (by decide +kernel) rfl rfl dX7_tire_31 ⟨by decide, by decide⟩ (Nat.le_of_ble_eq_true rfl) (⟨Nat.le_of_ble_eq_true rfl, Nat.le_of_ble_eq_true rfl⟩) (fun v3 S1 H locs hp w => ?_)
        obtain ⟨rfl, rfl⟩ := hp
        refine lv_topi (fun z4 ez4 => ?_)
        obtain rfl : z4 = (rSetOf A x (nI k2)) := ez4.trans (rSetOf_pic (km_tiL k2))
        refine lv_iconst (v := (-1)) hx hb dX7_tire_34 (by decide) ?_
        refine lv_icmp_eq (tgt := 42) hx hb dX7_tire_35 (by decide) (fun hse => ?_) (fun hse => ?_)
        · refine lv_iconst (v := 0) hx hb dX7_tire_42 (by decide) ?_
          refine lv_istore (lv' := [(4, .int 0), (3, .ref (gG T2 3 k2)), (2, .int (nI k2)), (0, .ref (gG S 7 0)), (1, .int (nI x))]) hx hb dX7_tire_43 hl (by decide) rfl (fun ls hl => ?_)
          refine lv_aload_n hx hb dX7_tire_45 rfl (lv_at hl 1 rfl) ?_
          refine lv_aload_n hx hb dX7_tire_46 rfl (lv_at hl 1 rfl) ?_
          refine g_3_2 (S := T2) (x := (mI (tiL A x k2) 193 k2)) X w (h.e_mo k2 hlt_k2).2 wF_X7_77 ((hA.mo k2 hlt_k2).2.1) dX7_tire_47 ?_
          refine lv_iload hx hb dX7_tire_50 (lv_at hl 0 rfl) ?_
          refine lv_if_eq (tgt := 59) hx hb dX7_tire_52 (by decide) (fun hc5 => ?_) (fun hc5 => ?_)
          · refine lv_bipush (v := (-2)) hx hb dX7_tire_59 (by decide) ?_
            refine lv_iadd hx hb dX7_tire_61 ?_
            refine lv_iconst (v := 0) hx hb dX7_tire_62 (by decide) ?_
            refine lv_bipush (v := 40) hx hb dX7_tire_63 (by decide) ?_
            refine cSN (S := T2) (nA := 3) (As := [.int ((mI (tiL A x k2) 193 k2) + (-2)), .int 0, .int 40]) (rest := [.ref (gG T2 3 k2)]) X w hl (m_X10_hold G T2 ((mI (tiL A x k2) 193 k2) + (-2)) 0 40) wY_X10_hold wMN_X7_63 wSt_X10_hold wI_X10 (by decide +kernel) rfl rfl dX7_tire_65 ⟨by decide, by decide⟩ (Nat.le_of_ble_eq_true rfl) (⟨Nat.le_of_ble_eq_true rfl, Nat.le_of_ble_eq_true rfl⟩) (fun v6 S1 H locs hp w => ?_)
            obtain ⟨rfl, rfl⟩ := hp
            refine p_3_2 (S := T2) (x := (sHold ((mI (tiL A x k2) 193 k2) + (-2)) 0 40)) X w (h.e_mo k2 hlt_k2).2 wF_X7_77 dX7_tire_68 (fun H locs w => ?_)
            have h : CI ea (sI T2 50 k2 (sHold ((mI (tiL A x k2) 193 k2) + (-2)) 0 40)) ns nj nm nt nr nc := h.stI (by decide)
            have hK : Kq (hidV false) hiH (hidR false) S (sI T2 50 k2 (sHold ((mI (tiL A x k2) 193 k2) + (-2)) 0 40)) := hK.sI rfl
            have hA : RK (sI T2 50 k2 (sHold ((mI (tiL A x k2) 193 k2) + (-2)) 0 40)) (sI (tiL A x k2) 193 k2 (sHold ((mI (tiL A x k2) 193 k2) + (-2)) 0 40)) ns nj nm nt nr nc := hA.ti50
            refine lv_aload_n hx hb dX7_tire_71 rfl (lv_at hl 1 rfl) ?_
            refine lv_dup hx hb dX7_tire_72 rfl ?_
            refine g_3_3 (S := (sI T2 50 k2 (sHold ((mI (tiL A x k2) 193 k2) + (-2)) 0 40))) (x := (mI (sI (tiL A x k2) 193 k2 (sHold ((mI (tiL A x k2) 193 k2) + (-2)) 0 40)) 194 k2)) X w (h.e_mo k2 hlt_k2).2 wF_X7_105 ((hA.mo k2 hlt_k2).2.2) dX7_tire_73 ?_
            refine lv_iload hx hb dX7_tire_76 (lv_at hl 0 rfl) ?_
            refine lv_if_eq (tgt := 85) hx hb dX7_tire_78 (by decide) (fun hc7 => ?_) (fun hc7 => ?_)
            · refine lv_iconst (v := 0) hx hb dX7_tire_85 (by decide) ?_
              refine lv_iadd hx hb dX7_tire_86 ?_
              refine p_3_3 (S := (sI T2 50 k2 (sHold ((mI (tiL A x k2) 193 k2) + (-2)) 0 40))) (x := ((mI (sI (tiL A x k2) 193 k2 (sHold ((mI (tiL A x k2) 193 k2) + (-2)) 0 40)) 194 k2) + 0)) X w (h.e_mo k2 hlt_k2).2 wF_X7_105 dX7_tire_87 (fun H locs w => ?_)
              have h : CI ea (sI (sI T2 50 k2 (sHold ((mI (tiL A x k2) 193 k2) + (-2)) 0 40)) 51 k2 ((mI (sI (tiL A x k2) 193 k2 (sHold ((mI (tiL A x k2) 193 k2) + (-2)) 0 40)) 194 k2) + 0)) ns nj nm nt nr nc := h.stI (by decide)
              have hK : Kq (hidV false) hiH (hidR false) S (sI (sI T2 50 k2 (sHold ((mI (tiL A x k2) 193 k2) + (-2)) 0 40)) 51 k2 ((mI (sI (tiL A x k2) 193 k2 (sHold ((mI (tiL A x k2) 193 k2) + (-2)) 0 40)) 194 k2) + 0)) := hK.sI rfl
              have hA : RK (sI (sI T2 50 k2 (sHold ((mI (tiL A x k2) 193 k2) + (-2)) 0 40)) 51 k2 ((mI (sI (tiL A x k2) 193 k2 (sHold ((mI (tiL A x k2) 193 k2) + (-2)) 0 40)) 194 k2) + 0)) (sI (sI (tiL A x k2) 193 k2 (sHold ((mI (tiL A x k2) 193 k2) + (-2)) 0 40)) 194 k2 ((mI (sI (tiL A x k2) 193 k2 (sHold ((mI (tiL A x k2) 193 k2) + (-2)) 0 40)) 194 k2) + 0)) ns nj nm nt nr nc := hA.ti51
              refine lv_iinc (v := nI (k2 + 1)) (lv' := [(2, .int (nI (k2 + 1))), (4, .int 0), (3, .ref (gG T2 3 k2)), (0, .ref (gG S 7 0)), (1, .int (nI x))]) hx hb dX7_tire_90 hl (k := 2) rfl (nI_1 _) (by decide) rfl (fun ls hl => ?_)
              refine lv_goto (tgt := 2) hx hb dX7_tire_93 (by decide) ?_
              have hA : RK (sI (sI T2 50 k2 (sHold ((mI (tiL A x k2) 193 k2) + (-2)) 0 40)) 51 k2 ((mI (sI (tiL A x k2) 193 k2 (sHold ((mI (tiL A x k2) 193 k2) + (-2)) 0 40)) 194 k2) + 0)) (tiL A x (k2 + 1)) ns nj nm nt nr nc := by first | (rw [tiL_T hse]; exact hA) | (rw [tiL_F hse]; exact hA)
              exact ih2 (k2 + 1) (sI (sI T2 50 k2 (sHold ((mI (tiL A x k2) 193 k2) + (-2)) 0 40)) 51 k2 ((mI (sI (tiL A x k2) 193 k2 (sHold ((mI (tiL A x k2) 193 k2) + (-2)) 0 40)) 194 k2) + 0)) _ _ _ (by omega) (hlt_k2) (hA) (h) (hK) w (lv_sub hl [0, 3, 4] rfl)
            · exact absurd hc7 (by decide)
          · exact absurd hc5 (by decide)
        · refine lv_iconst (v := 1) hx hb dX7_tire_38 (by decide) ?_
          refine lv_goto (tgt := 43) hx hb dX7_tire_39 (by decide) ?_
          refine lv_istore (lv' := [(4, .int 1), (3, .ref (gG T2 3 k2)), (2, .int (nI k2)), (0, .ref (gG S 7 0)), (1, .int (nI x))]) hx hb dX7_tire_43 hl (by decide) rfl (fun ls hl => ?_)
          refine lv_aload_n hx hb dX7_tire_45 rfl (lv_at hl 1 rfl) ?_
          refine lv_aload_n hx hb dX7_tire_46 rfl (lv_at hl 1 rfl) ?_
          refine g_3_2 (S := T2) (x := (mI (tiL A x k2) 193 k2)) X w (h.e_mo k2 hlt_k2).2 wF_X7_77 ((hA.mo k2 hlt_k2).2.1) dX7_tire_47 ?_
          refine lv_iload hx hb dX7_tire_50 (lv_at hl 0 rfl) ?_
          refine lv_if_eq (tgt := 59) hx hb dX7_tire_52 (by decide) (fun hc8 => ?_) (fun hc8 => ?_)
          · exact absurd hc8 (by decide)
          · refine lv_iconst (v := 3) hx hb dX7_tire_55 (by decide) ?_
            refine lv_goto (tgt := 61) hx hb dX7_tire_56 (by decide) ?_
            refine lv_iadd hx hb dX7_tire_61 ?_
            refine lv_iconst (v := 0) hx hb dX7_tire_62 (by decide) ?_
            refine lv_bipush (v := 40) hx hb dX7_tire_63 (by decide) ?_
            refine cSN (S := T2) (nA := 3) (As := [.int ((mI (tiL A x k2) 193 k2) + 3), .int 0, .int 40]) (rest := [.ref (gG T2 3 k2)]) X w hl (m_X10_hold G T2 ((mI (tiL A x k2) 193 k2) + 3) 0 40) wY_X10_hold wMN_X7_63 wSt_X10_hold wI_X10 (by decide +kernel) rfl rfl dX7_tire_65 ⟨by decide, by decide⟩ (Nat.le_of_ble_eq_true rfl) (⟨Nat.le_of_ble_eq_true rfl, Nat.le_of_ble_eq_true rfl⟩) (fun v9 S1 H locs hp w => ?_)
            obtain ⟨rfl, rfl⟩ := hp
            refine p_3_2 (S := T2) (x := (sHold ((mI (tiL A x k2) 193 k2) + 3) 0 40)) X w (h.e_mo k2 hlt_k2).2 wF_X7_77 dX7_tire_68 (fun H locs w => ?_)
            have h : CI ea (sI T2 50 k2 (sHold ((mI (tiL A x k2) 193 k2) + 3) 0 40)) ns nj nm nt nr nc := h.stI (by decide)
            have hK : Kq (hidV false) hiH (hidR false) S (sI T2 50 k2 (sHold ((mI (tiL A x k2) 193 k2) + 3) 0 40)) := hK.sI rfl
            have hA : RK (sI T2 50 k2 (sHold ((mI (tiL A x k2) 193 k2) + 3) 0 40)) (sI (tiL A x k2) 193 k2 (sHold ((mI (tiL A x k2) 193 k2) + 3) 0 40)) ns nj nm nt nr nc := hA.ti50
            refine lv_aload_n hx hb dX7_tire_71 rfl (lv_at hl 1 rfl) ?_
            refine lv_dup hx hb dX7_tire_72 rfl ?_
            refine g_3_3 (S := (sI T2 50 k2 (sHold ((mI (tiL A x k2) 193 k2) + 3) 0 40))) (x := (mI (sI (tiL A x k2) 193 k2 (sHold ((mI (tiL A x k2) 193 k2) + 3) 0 40)) 194 k2)) X w (h.e_mo k2 hlt_k2).2 wF_X7_105 ((hA.mo k2 hlt_k2).2.2) dX7_tire_73 ?_
            refine lv_iload hx hb dX7_tire_76 (lv_at hl 0 rfl) ?_
            refine lv_if_eq (tgt := 85) hx hb dX7_tire_78 (by decide) (fun hc10 => ?_) (fun hc10 => ?_)
            · exact absurd hc10 (by decide)
            · refine lv_iconst (v := 1) hx hb dX7_tire_81 (by decide) ?_
              refine lv_goto (tgt := 86) hx hb dX7_tire_82 (by decide) ?_
              refine lv_iadd hx hb dX7_tire_86 ?_
              refine p_3_3 (S := (sI T2 50 k2 (sHold ((mI (tiL A x k2) 193 k2) + 3) 0 40))) (x := ((mI (sI (tiL A x k2) 193 k2 (sHold ((mI (tiL A x k2) 193 k2) + 3) 0 40)) 194 k2) + 1)) X w (h.e_mo k2 hlt_k2).2 wF_X7_105 dX7_tire_87 (fun H locs w => ?_)
              have h : CI ea (sI (sI T2 50 k2 (sHold ((mI (tiL A x k2) 193 k2) + 3) 0 40)) 51 k2 ((mI (sI (tiL A x k2) 193 k2 (sHold ((mI (tiL A x k2) 193 k2) + 3) 0 40)) 194 k2) + 1)) ns nj nm nt nr nc := h.stI (by decide)
              have hK : Kq (hidV false) hiH (hidR false) S (sI (sI T2 50 k2 (sHold ((mI (tiL A x k2) 193 k2) + 3) 0 40)) 51 k2 ((mI (sI (tiL A x k2) 193 k2 (sHold ((mI (tiL A x k2) 193 k2) + 3) 0 40)) 194 k2) + 1)) := hK.sI rfl
              have hA : RK (sI (sI T2 50 k2 (sHold ((mI (tiL A x k2) 193 k2) + 3) 0 40)) 51 k2 ((mI (sI (tiL A x k2) 193 k2 (sHold ((mI (tiL A x k2) 193 k2) + 3) 0 40)) 194 k2) + 1)) (sI (sI (tiL A x k2) 193 k2 (sHold ((mI (tiL A x k2) 193 k2) + 3) 0 40)) 194 k2 ((mI (sI (tiL A x k2) 193 k2 (sHold ((mI (tiL A x k2) 193 k2) + 3) 0 40)) 194 k2) + 1)) ns nj nm nt nr nc := hA.ti51
              refine lv_iinc (v := nI (k2 + 1)) (lv' := [(2, .int (nI (k2 + 1))), (4, .int 1), (3, .ref (gG T2 3 k2)), (0, .ref (gG S 7 0)), (1, .int (nI x))]) hx hb dX7_tire_90 hl (k := 2) rfl (nI_1 _) (by decide) rfl (fun ls hl => ?_)
              refine lv_goto (tgt := 2) hx hb dX7_tire_93 (by decide) ?_
              have hA : RK (sI (sI T2 50 k2 (sHold ((mI (tiL A x k2) 193 k2) + 3) 0 40)) 51 k2 ((mI (sI (tiL A x k2) 193 k2 (sHold ((mI (tiL A x k2) 193 k2) + 3) 0 40)) 194 k2) + 1)) (tiL A x (k2 + 1)) ns nj nm nt nr nc := by first | (rw [tiL_T hse]; exact hA) | (rw [tiL_F hse]; exact hA)
              exact ih2 (k2 + 1) (sI (sI T2 50 k2 (sHold ((mI (tiL A x k2) 193 k2) + 3) 0 40)) 51 k2 ((mI (sI (tiL A x k2) 193 k2 (sHold ((mI (tiL A x k2) 193 k2) + 3) 0 40)) 194 k2) + 1)) _ _ _ (by omega) (hlt_k2) (hA) (h) (hK) w (lv_sub hl [0, 3, 4] rfl)
  exact L2 _ 0 S _ _ _ (Nat.lt_succ_self _) (Nat.zero_le _) (hA) (h) (hK) w (lv_sub hl [0, 1, 2] rfl)

abbrev rm_a_X4_dropStale : Room := { frames := 3, cells := 0, slots := 0, locals := 64 }
set_option maxHeartbeats 4000000 in
set_option maxRecDepth 100000 in
theorem a_X4_dropStale {s0 : State} {l : Launch} {D : va_G} {cy : Nat → ClassId} (G : Gl s0 l D cy) (S : HS) (ea ns nj nm nt nr nc : Nat) (h : CI ea S ns nj nm nt nr nc) (A : HS) (hA : RK S A ns nj nm nt nr nc) (g : Nat) (hg : g ≤ 720) : Ctr s0 l D cy yX4_dropStale cX4_dropStale 5 none rm_a_X4_dropStale S [.ref (gG S 4 0), .int (nI g)] (fun v S' => none = v ∧ CI ea S' ns nj nm nt nr nc ∧ Kq (hidV false) hiH (hidR false) S S' ∧ RK S' (stL A g nt) ns nj nm nt nr nc) := by
  refine pro "CavershamShift$Newsroom" G rfl rfl (Nat.le_of_ble_eq_true rfl) (fun p e s m below meth c ls X w hnm hl => ?_)
  have hx := X.1
  have hb := X.2.1
  have hown := X.2.2.2.1
  have hts := X.2.2.2.2.1
  have hl : lv_has ls 5 [(0, .ref (gG S 4 0)), (1, .int (nI g))] := hl
  have h0 := h
  have hK : Kq (hidV false) hiH (hidR false) S S := Kq.rf
  refine lv_iconst (v := 0) hx hb dX4_dropStale_0 (by decide) ?_
  refine lv_istore_n (lv' := [(2, .int 0), (0, .ref (gG S 4 0)), (1, .int (nI g))]) hx hb dX4_dropStale_1 rfl hl (by decide) rfl (fun ls hl => ?_)
  have L2 : ∀ (N : Nat) (k2 : Nat) (T2 : HS) (H : Heap) (locs : List Loc) (ls : Array Slot), nt - k2 < N → (k2 ≤ nt) → (RK T2 (stL A g k2) ns nj nm nt nr nc) → (CI ea T2 ns nj nm nt nr nc) → (Kq (hidV false) hiH (hidR false) S T2) → Wd s0 D cy T2 s.heap H locs → lv_has ls 5 [(2, .int (nI k2)), (0, .ref (gG S 4 0)), (1, .int (nI g))] → W p l e rm_a_X4_dropStale s m ([.ref (gG S 4 0), .int (nI g)] : List Value).toArray below meth c H locs 0 0 (MQ below (GQ s0 D cy (fun v S' => none = v ∧ CI ea S' ns nj nm nt nr nc ∧ Kq (hidV false) hiH (hidR false) S S' ∧ RK S' (stL A g nt) ns nj nm nt nr nc)) ([.ref (gG S 4 0), .int (nI g)] : List Value).toArray s rm_a_X4_dropStale.cells rm_a_X4_dropStale.slots (A0 s0)) (F0 m 2 ls []) := by
    intro N
    induction N with
    | zero => intros; omega
    | succ N ih2 =>
      intro k2 T2 H locs ls hmu hk_k2 hA h hK_T2 w hl
      have hK := hK_T2
      refine lv_iload_n hx hb dX4_dropStale_2 rfl (lv_at hl 0 rfl) ?_
      refine lv_aload_n hx hb dX4_dropStale_3 rfl (lv_at hl 1 rfl) ?_
      refine rE0 ((rfl).trans ((hK_T2.G (t := 4) (i := 0) rfl)).symm) ?_
      refine g_4_0 (S := T2) (x := (some (gG T2 17 3))) X w h.v4 wF_X4_12 (h.f64) dX4_dropStale_4 ?_
      refine cV (S := T2) (nA := 0) (As := []) (rest := [.int (nI k2)]) X w hl h.l_ta.1 (m_size G T2 ea 3 nt h.l_ta) wY_Jx4a65c_size_8abf5 wM_X4_28 wIn_Jx4a65c_size_8abf5 wSe_Jx4a65c_Jx4a65c_size_8abf5 wI_Jx4a65c (by decide) rfl (by decide +kernel) rfl rfl dX4_dropStale_7 ⟨by decide, by decide⟩ (Nat.le_of_ble_eq_true rfl) (⟨Nat.le_of_ble_eq_true rfl, Nat.le_of_ble_eq_true rfl⟩) (fun v1 S1 H locs hp w => ?_)
      obtain ⟨rfl, rfl⟩ := hp
      refine lv_icmp_ge (tgt := 64) hx hb dX4_dropStale_10 (by decide) (fun hc_k2 => ?_) (fun hc_k2 => ?_)
      · have hge_k2 : nt ≤ k2 := by
          have hb1 := h.b_ta
          exact (nI_leI (a := nt) (b := k2) (by omega) (by omega)).mp hc_k2
        exact rV X w rfl dX4_dropStale_64 (by decide) (by decide) (⟨rfl, h, hK, by rw [show k2 = nt by omega] at hA; exact hA⟩)
      · have hlt_k2 : k2 < nt := by
          have hb1 := h.b_ta
          exact Nat.lt_of_not_le (fun z => hc_k2 ((nI_leI (a := nt) (b := k2) (by omega) (by omega)).mpr z))
        refine lv_aload_n hx hb dX4_dropStale_13 rfl (lv_at hl 1 rfl) ?_
        refine rE0 ((rfl).trans ((hK_T2.G (t := 4) (i := 0) rfl)).symm) ?_
        refine g_4_0 (S := T2) (x := (some (gG T2 17 3))) X w h.v4 wF_X4_12 (h.f64) dX4_dropStale_14 ?_
        refine lv_iload_n hx hb dX4_dropStale_17 rfl (lv_at hl 0 rfl) ?_
        refine cV (S := T2) (nA := 1) (As := [.int (nI k2)]) (rest := []) X w hl h.l_ta.1 (m_get G T2 ea 3 k2 nt (some (gG T2 9 k2)) h.l_ta hlt_k2 (h.e_ta k2 hlt_k2).1) wY_Jx4a65c_get_915e3 wM_X4_36 wIn_Jx4a65c_get_915e3 wSe_Jx4a65c_Jx4a65c_get_915e3 wI_Jx4a65c (by decide) rfl (by decide +kernel) rfl rfl dX4_dropStale_18 ⟨by decide, by decide⟩ (Nat.le_of_ble_eq_true rfl) (⟨Nat.le_of_ble_eq_true rfl, Nat.le_of_ble_eq_true rfl⟩) (fun v2 S1 H locs hp w => ?_)
        obtain ⟨rfl, rfl⟩ := hp
        refine ckC (S := T2) (t := 9) X w (h.e_ta k2 hlt_k2).2 (by decide) rfl wC_X4_40 dX4_dropStale_21 ?_
        refine lv_astore_n (lv' := [(3, .ref (gG T2 9 k2)), (2, .int (nI k2)), (0, .ref (gG S 4 0)), (1, .int (nI g))]) hx hb dX4_dropStale_24 rfl hl (by decide) rfl (fun ls hl => ?_)
        refine lv_aload_n hx hb dX4_dropStale_25 rfl (lv_at hl 0 rfl) ?_
        rcases hA.rp k2 hlt_k2 with ⟨her3, hur3, hzr3, hwr3, hsr3⟩ | ⟨her3, hvr3, hur3, hwr3⟩
        · refine g_9_8 (S := T2) (x := none) X w (h.e_ta k2 hlt_k2).2 wF_X4_71 (her3) dX4_dropStale_26 ?_
          refine lv_astoreN (lv' := [(4, .null), (3, .ref (gG T2 9 k2)), (2, .int (nI k2)), (0, .ref (gG S 4 0)), (1, .int (nI g))]) hx hb dX4_dropStale_29 hl (by decide) rfl (fun ls hl => ?_)
          refine lv_aloadN hx hb dX4_dropStale_31 (lv_at hl 0 rfl) ?_
          refine lv_ifnullN (tgt := 58) hx hb dX4_dropStale_33 (by decide) ?_
          refine lv_iinc (v := nI (k2 + 1)) (lv' := [(2, .int (nI (k2 + 1))), (4, .null), (3, .ref (gG T2 9 k2)), (0, .ref (gG S 4 0)), (1, .int (nI g))]) hx hb dX4_dropStale_58 hl (k := 2) rfl (nI_1 _) (by decide) rfl (fun ls hl => ?_)
          refine lv_goto (tgt := 2) hx hb dX4_dropStale_61 (by decide) ?_
          have hA : RK T2 (stL A g (k2 + 1)) ns nj nm nt nr nc := by first | (rw [stL_f (stG_f1 hs0)]; exact hA) | (rw [stL_f (stG_f1 (fun z => absurd ((by assumption : mI (stL A g k2) 247 k2 = -1).symm.trans z) (by decide)))]; exact hA) | (rw [stL_f (stG_f2 (b2i_f hol))]; exact hA) | (rw [stL_t (stG_t hs0 (b2i_t hol))]; exact hA)
          exact ih2 (k2 + 1) T2 _ _ _ (by omega) (hlt_k2) (hA) (h) (hK) w (lv_sub hl [0, 3, 4] rfl)
        · refine g_9_8 (S := T2) (x := (some (gG T2 6 k2))) X w (h.e_ta k2 hlt_k2).2 wF_X4_71 (her3) dX4_dropStale_26 ?_
          refine lv_astore (lv' := [(4, .ref (gG T2 6 k2)), (3, .ref (gG T2 9 k2)), (2, .int (nI k2)), (0, .ref (gG S 4 0)), (1, .int (nI g))]) hx hb dX4_dropStale_29 hl (by decide) rfl (fun ls hl => ?_)
          refine lv_aload hx hb dX4_dropStale_31 (lv_at hl 0 rfl) ?_
          refine lv_ifnull hx hb dX4_dropStale_33 ?_
          refine lv_aload hx hb dX4_dropStale_36 (lv_at hl 0 rfl) ?_
          refine g_6_8 (S := T2) (x := (mI (stL A g k2) 247 k2)) X w hvr3 wF_X4_56 ((hwr3).2.2.2.2.2.2.2.2.1) dX4_dropStale_38 ?_
          refine lv_if_ne (tgt := 58) hx hb dX4_dropStale_41 (by decide) (fun hs0 => ?_) (fun hs0 => ?_)
          · refine lv_iinc (v := nI (k2 + 1)) (lv' := [(2, .int (nI (k2 + 1))), (4, .ref (gG T2 6 k2)), (3, .ref (gG T2 9 k2)), (0, .ref (gG S 4 0)), (1, .int (nI g))]) hx hb dX4_dropStale_58 hl (k := 2) rfl (nI_1 _) (by decide) rfl (fun ls hl => ?_)
            refine lv_goto (tgt := 2) hx hb dX4_dropStale_61 (by decide) ?_
            have hA : RK T2 (stL A g (k2 + 1)) ns nj nm nt nr nc := by first | (rw [stL_f (stG_f1 hs0)]; exact hA) | (rw [stL_f (stG_f1 (fun z => absurd ((by assumption : mI (stL A g k2) 247 k2 = -1).symm.trans z) (by decide)))]; exact hA) | (rw [stL_f (stG_f2 (b2i_f hol))]; exact hA) | (rw [stL_t (stG_t hs0 (b2i_t hol))]; exact hA)
            exact ih2 (k2 + 1) T2 _ _ _ (by omega) (hlt_k2) (hA) (h) (hK) w (lv_sub hl [0, 3, 4] rfl)
          · refine lv_aload_n hx hb dX4_dropStale_44 rfl (lv_at hl 1 rfl) ?_
            refine lv_iload_n hx hb dX4_dropStale_45 rfl (lv_at hl 4 rfl) ?_
            refine cS (S := T2) (nA := 2) (As := [.ref (gG T2 9 k2), .int (nI g)]) (rest := []) X w hl (a_X4_isTooOld G T2 ea ns nj nm nt nr nc h (stL A g k2) hA k2 hlt_k2 g (by assumption)) wY_X4_isTooOld wM_X4_75 wSt_X4_isTooOld wI_X4 (by decide +kernel) rfl rfl dX4_dropStale_46 ⟨by decide, by decide⟩ (Nat.le_of_ble_eq_true rfl) (⟨Nat.le_of_ble_eq_true rfl, Nat.le_of_ble_eq_true rfl⟩) (fun v4 S1 H locs hp w => ?_)
            obtain ⟨rfl, rfl⟩ := hp
            refine lv_if_eq (tgt := 58) hx hb dX4_dropStale_49 (by decide) (fun hol => ?_) (fun hol => ?_)
            · refine lv_iinc (v := nI (k2 + 1)) (lv' := [(2, .int (nI (k2 + 1))), (4, .ref (gG T2 6 k2)), (3, .ref (gG T2 9 k2)), (0, .ref (gG S 4 0)), (1, .int (nI g))]) hx hb dX4_dropStale_58 hl (k := 2) rfl (nI_1 _) (by decide) rfl (fun ls hl => ?_)
              refine lv_goto (tgt := 2) hx hb dX4_dropStale_61 (by decide) ?_
              have hA : RK T2 (stL A g (k2 + 1)) ns nj nm nt nr nc := by first | (rw [stL_f (stG_f1 hs0)]; exact hA) | (rw [stL_f (stG_f1 (fun z => absurd ((by assumption : mI (stL A g k2) 247 k2 = -1).symm.trans z) (by decide)))]; exact hA) | (rw [stL_f (stG_f2 (b2i_f hol))]; exact hA) | (rw [stL_t (stG_t hs0 (b2i_t hol))]; exact hA)
              exact ih2 (k2 + 1) T2 _ _ _ (by omega) (hlt_k2) (hA) (h) (hK) w (lv_sub hl [0, 3, 4] rfl)
            · refine lv_aload hx hb dX4_dropStale_52 (lv_at hl 0 rfl) ?_
              refine lv_iconst (v := 2) hx hb dX4_dropStale_54 (by decide) ?_
              refine p_6_8 (S := T2) (x := 2) X w hvr3 wF_X4_56 dX4_dropStale_55 (fun H locs w => ?_)
              have h : CI ea (sI T2 104 k2 2) ns nj nm nt nr nc := h.s104 (fun z => absurd ((pO1 z).1.symm.trans ((hwr3).2.2.2.2.2.2.2.2.1.trans hs0)) (by decide))
              have hK : Kq (hidV false) hiH (hidR false) S (sI T2 104 k2 2) := hK.sI rfl
              have hA : RK (sI T2 104 k2 2) (sI (stL A g k2) 247 k2 2) ns nj nm nt nr nc := hA.st hlt_k2 hs0
              refine lv_iinc (v := nI (k2 + 1)) (lv' := [(2, .int (nI (k2 + 1))), (4, .ref (gG T2 6 k2)), (3, .ref (gG T2 9 k2)), (0, .ref (gG S 4 0)), (1, .int (nI g))]) hx hb dX4_dropStale_58 hl (k := 2) rfl (nI_1 _) (by decide) rfl (fun ls hl => ?_)
              refine lv_goto (tgt := 2) hx hb dX4_dropStale_61 (by decide) ?_
              have hA : RK (sI T2 104 k2 2) (stL A g (k2 + 1)) ns nj nm nt nr nc := by first | (rw [stL_f (stG_f1 hs0)]; exact hA) | (rw [stL_f (stG_f1 (fun z => absurd ((by assumption : mI (stL A g k2) 247 k2 = -1).symm.trans z) (by decide)))]; exact hA) | (rw [stL_f (stG_f2 (b2i_f hol))]; exact hA) | (rw [stL_t (stG_t hs0 (b2i_t hol))]; exact hA)
              exact ih2 (k2 + 1) (sI T2 104 k2 2) _ _ _ (by omega) (hlt_k2) (hA) (h) (hK) w (lv_sub hl [0, 3, 4] rfl)
  exact L2 _ 0 S _ _ _ (Nat.lt_succ_self _) (Nat.zero_le _) (hA) (h) (hK) w (lv_sub hl [0, 1, 2] rfl)

abbrev rm_a_X4_sendCorrections : Room := { frames := 3, cells := 0, slots := 0, locals := 64 }
set_option maxHeartbeats 4000000 in
set_option maxRecDepth 100000 in
theorem a_X4_sendCorrections {s0 : State} {l : Launch} {D : va_G} {cy : Nat → ClassId} (G : Gl s0 l D cy) (S : HS) (ea ns nj nm nt nr nc : Nat) (h : CI ea S ns nj nm nt nr nc) (A : HS) (hA : RK S A ns nj nm nt nr nc)  : Ctr s0 l D cy yX4_sendCorrections cX4_sendCorrections 4 none rm_a_X4_sendCorrections S [.ref (gG S 4 0)] (fun v S' => none = v ∧ CI ea S' ns nj nm nt nr nc ∧ Kq (hidV false) hiH (hidR false) S S' ∧ RK S' (coA A nr) ns nj nm nt nr nc) := by
  refine pro "CavershamShift$Newsroom" G rfl rfl (Nat.le_of_ble_eq_true rfl) (fun p e s m below meth c ls X w hnm hl => ?_)
  have hx := X.1
  have hb := X.2.1
  have hown := X.2.2.2.1
  have hts := X.2.2.2.2.1
  have hl : lv_has ls 4 [(0, .ref (gG S 4 0))] := hl
  have h0 := h
  have hK : Kq (hidV false) hiH (hidR false) S S := Kq.rf
  have hb9 := h.b_co
  have hA9 := hA.q9
  obtain ⟨g, hcs, hgq, hqu⟩ := hA.qu
  have hg : g ≤ nc := by omega
  obtain ⟨w0, hw0, hwl⟩ := nI_of h.x_wl
  have hwA : mI A 258 0 = nI w0 := hA.wi.symm.trans hwl
  obtain ⟨hcq, hc10, hfit⟩ := coN_eq hw0 hwA
  refine lv_aload_n hx hb dX4_sendCorrections_0 rfl (lv_at hl 0 rfl) ?_
  refine g_4_3 (S := S) (x := (nI g)) X w h.v4 wF_X4_122 (hcs) dX4_sendCorrections_1 ?_
  refine lv_aload_n hx hb dX4_sendCorrections_4 rfl (lv_at hl 0 rfl) ?_
  refine cV (S := S) (nA := 0) (As := []) (rest := [.int (nI g)]) X w hl h.v4 (m_X4_correctionsThatFit G S ea ns nj nm nt nr nc h ) wY_X4_correctionsThatFit wM_X4_86 wIn_X4_correctionsThatFit wSe_X4_X4_correctionsThatFit wI_X4 (by decide) rfl (by decide +kernel) rfl rfl dX4_sendCorrections_5 ⟨by decide, by decide⟩ (Nat.le_of_ble_eq_true rfl) (⟨Nat.le_of_ble_eq_true rfl, Nat.le_of_ble_eq_true rfl⟩) (fun v1 S1 H locs hp w => ?_)
  obtain ⟨rfl, rfl⟩ := hp
  refine lv_topi (fun z2 ez2 => ?_)
  obtain rfl : z2 = nI (coN A) := ez2.trans (by rw [hcs, hwl, ← hgq]; exact hfit g (by omega))
  refine lv_iadd hx hb dX4_sendCorrections_8 ?_
  refine lv_topi (fun z3 ez3 => ?_)
  obtain rfl : z3 = nI (g + coN A) := ez3.trans (nI_add _ _)
  refine lv_istore_n (lv' := [(1, .int (nI (g + coN A))), (0, .ref (gG S 4 0))]) hx hb dX4_sendCorrections_9 rfl hl (by decide) rfl (fun ls hl => ?_)
  refine lv_aload_n hx hb dX4_sendCorrections_10 rfl (lv_at hl 1 rfl) ?_
  refine g_4_3 (S := S) (x := (nI g)) X w h.v4 wF_X4_122 (hcs) dX4_sendCorrections_11 ?_
  refine lv_istore_n (lv' := [(2, .int (nI g)), (1, .int (nI (g + coN A))), (0, .ref (gG S 4 0))]) hx hb dX4_sendCorrections_14 rfl hl (by decide) rfl (fun ls hl => ?_)
  have L15 : ∀ (N : Nat) (mm : Nat) (T15 : HS) (H : Heap) (locs : List Loc) (ls : Array Slot), coN A - mm < N → (mm ≤ coN A) → (RK T15 (coL A nr mm) ns nj nm nt nr nc) → (CI ea T15 ns nj nm nt nr nc) → (Kq (hidV false) hiH (hidR false) S T15) → (mI T15 67 0 = nI g) → Wd s0 D cy T15 s.heap H locs → lv_has ls 4 [(0, .ref (gG S 4 0)), (1, .int (nI (g + coN A))), (2, .int (nI (g + mm)))] → W p l e rm_a_X4_sendCorrections s m ([.ref (gG S 4 0)] : List Value).toArray below meth c H locs 0 0 (MQ below (GQ s0 D cy (fun v S' => none = v ∧ CI ea S' ns nj nm nt nr nc ∧ Kq (hidV false) hiH (hidR false) S S' ∧ RK S' (coA A nr) ns nj nm nt nr nc)) ([.ref (gG S 4 0)] : List Value).toArray s rm_a_X4_sendCorrections.cells rm_a_X4_sendCorrections.slots (A0 s0)) (F0 m 15 ls []) := by
    intro N
    induction N with
    | zero => intros; omega
    | succ N ih15 =>
      intro mm T15 H locs ls hmu hm hA h hK_T15 h67 w hl
      have hK := hK_T15
      refine lv_iload_n hx hb dX4_sendCorrections_15 rfl (lv_at hl 2 rfl) ?_
      refine lv_iload_n hx hb dX4_sendCorrections_16 rfl (lv_at hl 1 rfl) ?_
      refine lv_icmp_ge (tgt := 72) hx hb dX4_sendCorrections_17 (by decide) (fun hc17 => ?_) (fun hc17 => ?_)
      · have hme : mm = coN A := by
          have z9 := (nI_leI (a := g + coN A) (b := g + mm) (by omega) (by omega)).mp hc17
          omega
        refine lv_aload_n hx hb dX4_sendCorrections_72 rfl (lv_at hl 0 rfl) ?_
        refine lv_iload_n hx hb dX4_sendCorrections_73 rfl (lv_at hl 1 rfl) ?_
        refine rE1 ((rfl).trans ((hK_T15.G (t := 4) (i := 0) rfl)).symm) ?_
        refine p_4_3 (S := T15) (x := (nI (g + coN A))) X w h.v4 wF_X4_122 dX4_sendCorrections_74 (fun H locs w => ?_)
        have h : CI ea (sI T15 67 0 (nI (g + coN A))) ns nj nm nt nr nc := h.s67 (by omega)
        have hK : Kq (hidV false) hiH (hidR false) S (sI T15 67 0 (nI (g + coN A))) := hK.sI rfl
        have hA : RK (sI T15 67 0 (nI (g + coN A))) (coA A nr) ns nj nm nt nr nc := by rw [hme] at hA; rw [coA_eq]; exact hA.co_end h67 hg hb9 (by rw [coL_q]; exact hcq)
        exact rV X w rfl dX4_sendCorrections_77 (by decide) (by decide) (⟨rfl, h, hK, hA⟩)
      · have hml : mm < coN A := by
          refine Nat.lt_of_not_le (fun z => hc17 ((nI_leI (a := g + coN A) (b := g + mm) (by omega) (by omega)).mpr (by omega)))
        refine lv_iload_n hx hb dX4_sendCorrections_20 rfl (lv_at hl 2 rfl) ?_
        refine lv_aload_n hx hb dX4_sendCorrections_21 rfl (lv_at hl 0 rfl) ?_
        refine rE0 ((rfl).trans ((hK_T15.G (t := 4) (i := 0) rfl)).symm) ?_
        refine g_4_2 (S := T15) (x := (some (gG T15 17 5))) X w h.v4 wF_X4_21 (h.f66) dX4_sendCorrections_22 ?_
        refine cV (S := T15) (nA := 0) (As := []) (rest := [.int (nI (g + mm))]) X w hl h.l_co.1 (m_size G T15 ea 5 nc h.l_co) wY_Jx4a65c_size_8abf5 wM_X4_28 wIn_Jx4a65c_size_8abf5 wSe_Jx4a65c_Jx4a65c_size_8abf5 wI_Jx4a65c (by decide) rfl (by decide +kernel) rfl rfl dX4_sendCorrections_25 ⟨by decide, by decide⟩ (Nat.le_of_ble_eq_true rfl) (⟨Nat.le_of_ble_eq_true rfl, Nat.le_of_ble_eq_true rfl⟩) (fun v4 S1 H locs hp w => ?_)
        obtain ⟨rfl, rfl⟩ := hp
        refine lv_icmp_ge (tgt := 72) hx hb dX4_sendCorrections_28 (by decide) (fun hc28 => ?_) (fun hc28 => ?_)
        · exact absurd ((nI_leI (a := nc) (b := g + mm) (by omega) (by omega)).mp hc28) (by omega)
        · refine lv_aload_n hx hb dX4_sendCorrections_31 rfl (lv_at hl 0 rfl) ?_
          refine rE0 ((rfl).trans ((hK_T15.G (t := 4) (i := 0) rfl)).symm) ?_
          refine g_4_2 (S := T15) (x := (some (gG T15 17 5))) X w h.v4 wF_X4_21 (h.f66) dX4_sendCorrections_32 ?_
          refine lv_iload_n hx hb dX4_sendCorrections_35 rfl (lv_at hl 2 rfl) ?_
          obtain ⟨g2, hq1, hq2, hq3⟩ := hA.qu
          obtain rfl : g = g2 := (nI_eq (by omega) (by omega)).mp (h67.symm.trans hq1)
          obtain ⟨jq, hjq, ejq, ebq, ezq⟩ := hq3 mm (by rw [coL_q]; omega)
          have eq9 : qT A mm = jq := by unfold qT; rw [← coL_60 (nr := nr) mm, ejq, nI_clamp (by have := h.b_ta; omega)]
          refine cV (S := T15) (nA := 1) (As := [.int (nI (g + mm))]) (rest := []) X w hl h.l_co.1 (m_get G T15 ea 5 (g + mm) nc (some (gG T15 9 jq)) h.l_co (by omega) ebq) wY_Jx4a65c_get_915e3 wM_X4_36 wIn_Jx4a65c_get_915e3 wSe_Jx4a65c_Jx4a65c_get_915e3 wI_Jx4a65c (by decide) rfl (by decide +kernel) rfl rfl dX4_sendCorrections_36 ⟨by decide, by decide⟩ (Nat.le_of_ble_eq_true rfl) (⟨Nat.le_of_ble_eq_true rfl, Nat.le_of_ble_eq_true rfl⟩) (fun v5 S1 H locs hp w => ?_)
          obtain ⟨rfl, rfl⟩ := hp
          refine ckC (S := T15) (t := 9) X w (h.e_ta jq hjq).2 (by decide) rfl wC_X4_40 dX4_sendCorrections_39 ?_
          rcases hA.rp jq hjq with ⟨her6, hur6, hzr6, hwr6, hsr6⟩ | ⟨her6, hvr6, hur6, hwr6⟩
          · refine g_9_8 (S := T15) (x := none) X w (h.e_ta jq hjq).2 wF_X4_71 (her6) dX4_sendCorrections_42 ?_
            refine lv_astore_nN (lv' := [(3, .null), (0, .ref (gG S 4 0)), (1, .int (nI (g + coN A))), (2, .int (nI (g + mm)))]) hx hb dX4_sendCorrections_45 rfl hl (by decide) rfl (fun ls hl => ?_)
            refine lv_aload_nN hx hb dX4_sendCorrections_46 rfl (lv_at hl 0 rfl) ?_
            exact absurd (by assumption : mI (coL A nr mm) 253 jq = 0) ezq
          · refine g_9_8 (S := T15) (x := (some (gG T15 6 jq))) X w (h.e_ta jq hjq).2 wF_X4_71 (her6) dX4_sendCorrections_42 ?_
            refine lv_astore_n (lv' := [(3, .ref (gG T15 6 jq)), (0, .ref (gG S 4 0)), (1, .int (nI (g + coN A))), (2, .int (nI (g + mm)))]) hx hb dX4_sendCorrections_45 rfl hl (by decide) rfl (fun ls hl => ?_)
            refine lv_aload_n hx hb dX4_sendCorrections_46 rfl (lv_at hl 0 rfl) ?_
            refine lv_ifnull hx hb dX4_sendCorrections_47 ?_
            refine lv_aload_n hx hb dX4_sendCorrections_50 rfl (lv_at hl 0 rfl) ?_
            refine lv_iconst (v := 2) hx hb dX4_sendCorrections_51 (by decide) ?_
            refine p_6_11 (S := T15) (x := 2) X w hvr6 wF_X4_131 dX4_sendCorrections_52 (fun H locs w => ?_)
            have h : CI ea (sI T15 107 jq 2) ns nj nm nt nr nc := h.stI (by decide)
            have hK : Kq (hidV false) hiH (hidR false) S (sI T15 107 jq 2) := hK.sI rfl
            refine lv_aload_n hx hb dX4_sendCorrections_55 rfl (lv_at hl 1 rfl) ?_
            refine lv_dup hx hb dX4_sendCorrections_56 rfl ?_
            refine rE0 ((rfl).trans ((hK_T15.G (t := 4) (i := 0) rfl)).symm) ?_
            refine g_4_5 (S := (sI T15 107 jq 2)) (x := (mI (coL A nr mm) 258 0)) X w h.v4 wF_X4_24 (hA.wi) dX4_sendCorrections_57 ?_
            refine lv_bipush (v := 10) hx hb dX4_sendCorrections_60 (by decide) ?_
            refine lv_isub hx hb dX4_sendCorrections_62 ?_
            have hw9 : mI (coL A nr mm) 258 0 = nI (w0 - 10 * mm) := co_258 hwA mm (by omega)
            refine rE1 ((rfl).trans ((hK_T15.G (t := 4) (i := 0) rfl)).symm) ?_
            refine p_4_5 (S := (sI T15 107 jq 2)) (x := ((mI (coL A nr mm) 258 0) - 10)) X w h.v4 wF_X4_24 dX4_sendCorrections_63 (fun H locs w => ?_)
            have h : CI ea (sI (sI T15 107 jq 2) 69 0 ((mI (coL A nr mm) 258 0) - 10)) ns nj nm nt nr nc := h.s69 (by rw [hw9, show nI (w0 - 10 * mm) - 10 = nI (w0 - 10 * mm - 10) from pk_sub (a := w0 - 10 * mm) (b := 10) (by omega)]; exact nI_pos (by omega))
            have hK : Kq (hidV false) hiH (hidR false) S (sI (sI T15 107 jq 2) 69 0 ((mI (coL A nr mm) 258 0) - 10)) := hK.sI rfl
            have hA : RK (sI (sI T15 107 jq 2) 69 0 ((mI (coL A nr mm) 258 0) - 10)) (goT (sI (sI (coL A nr mm) 258 0 (mI (coL A nr mm) 258 0 - 10)) 253 jq 2) jq nr) ns nj nm nt nr nc := hA.co hjq ezq (by obtain ⟨w9, hw9l, ew9⟩ := hA9; have e9 : w0 = w9 := (nI_eq hw0 (by omega)).mp (hwA.symm.trans ew9); exact ⟨w0 - 10 * mm - 10, by omega, by rw [hw9]; exact pk_sub (a := w0 - 10 * mm) (b := 10) (by omega)⟩)
            refine lv_iinc (v := nI (g + (mm + 1))) (lv' := [(2, .int (nI (g + (mm + 1)))), (3, .ref (gG T15 6 jq)), (0, .ref (gG S 4 0)), (1, .int (nI (g + coN A)))]) hx hb dX4_sendCorrections_66 hl (k := 3) rfl (nI_1 _) (by decide) rfl (fun ls hl => ?_)
            refine lv_goto (tgt := 15) hx hb dX4_sendCorrections_69 (by decide) ?_
            have hA : RK (sI (sI T15 107 jq 2) 69 0 ((mI (coL A nr mm) 258 0) - 10)) (coL A nr (mm + 1)) ns nj nm nt nr nc := by show RK _ (goT (sI (sI (coL A nr mm) 258 0 (mI (coL A nr mm) 258 0 - 10)) 253 (qT A mm) 2) (qT A mm) nr) ns nj nm nt nr nc; rw [eq9]; exact hA
            exact ih15 (mm + 1) (sI (sI T15 107 jq 2) 69 0 ((mI (coL A nr mm) 258 0) - 10)) _ _ _ (by omega) (by omega) (hA) (h) (hK) (h67) w (lv_sub hl [2, 3, 0] rfl)
  exact L15 _ 0 S _ _ _ (Nat.lt_succ_self _) (by omega) (hA) (h) (hK) (hcs) w (lv_sub hl [2, 1, 0] rfl)

abbrev rm_a_X4_awaitCorrection : Room := { frames := 7, cells := 1, slots := 49, locals := 191 }
set_option maxHeartbeats 4000000 in
set_option maxRecDepth 100000 in
theorem a_X4_awaitCorrection {s0 : State} {l : Launch} {D : va_G} {cy : Nat → ClassId} (G : Gl s0 l D cy) (S : HS) (ea ns nj nm nt nr nc : Nat) (h : CI ea S ns nj nm nt nr nc) (A : HS) (hA : RK S A ns nj nm nt nr nc) (j : Nat) (hj : j < nt) (hea : ea = eaOf s0) (hro : pOut S j = true → nc + 1 ≤ cntB (pOut S) nt) (h253 : mI A 253 j = 0) : Ctr s0 l D cy yX4_awaitCorrection cX4_awaitCorrection 3 none rm_a_X4_awaitCorrection S [.ref (gG S 4 0), .ref (gG S 9 j)] (fun v S' => none = v ∧ ∃ nc', CI ea S' ns nj nm nt nr nc' ∧ Kq (hidV false) hiH (hidR false) S S' ∧ RK S' (enA A j) ns nj nm nt nr nc' ∧ (∀ i, mI S' 104 i = mI S 104 i) ∧ mI S' 69 0 = mI S 69 0) := by
  refine pro "CavershamShift$Newsroom" G rfl rfl (Nat.le_of_ble_eq_true rfl) (fun p e s m below meth c ls X w hnm hl => ?_)
  have hx := X.1
  have hb := X.2.1
  have hown := X.2.2.2.1
  have hts := X.2.2.2.2.1
  have hl : lv_has ls 3 [(0, .ref (gG S 4 0)), (1, .ref (gG S 9 j))] := hl
  have h0 := h
  have hK : Kq (hidV false) hiH (hidR false) S S := Kq.rf
  have hb9 := h.b_co
  refine lv_aload_n hx hb dX4_awaitCorrection_0 rfl (lv_at hl 1 rfl) ?_
  rcases hA.rp j hj with ⟨her1, hur1, hzr1, hwr1, hsr1⟩ | ⟨her1, hvr1, hur1, hwr1⟩
  · refine g_9_8 (S := S) (x := none) X w (h.e_ta j hj).2 wF_X4_71 (her1) dX4_awaitCorrection_1 ?_
    refine lv_astore_nN (lv' := [(2, .null), (0, .ref (gG S 4 0)), (1, .ref (gG S 9 j))]) hx hb dX4_awaitCorrection_4 rfl hl (by decide) rfl (fun ls hl => ?_)
    refine lv_aload_nN hx hb dX4_awaitCorrection_5 rfl (lv_at hl 0 rfl) ?_
    refine lv_ifnullN (tgt := 30) hx hb dX4_awaitCorrection_6 (by decide) ?_
    exact rV X w rfl dX4_awaitCorrection_30 (by decide) (by decide) (⟨rfl, _, h, hK, by first | exact hA | (rw [enA_f (b2i_f hce)]; exact hA) | (rw [enA_f (wr_0 (fun z => absurd ((by assumption : mI A 247 j = -1).symm.trans z) (by decide)))]; exact hA), fun _ => rfl, rfl⟩)
  · refine g_9_8 (S := S) (x := (some (gG S 6 j))) X w (h.e_ta j hj).2 wF_X4_71 (her1) dX4_awaitCorrection_1 ?_
    refine lv_astore_n (lv' := [(2, .ref (gG S 6 j)), (0, .ref (gG S 4 0)), (1, .ref (gG S 9 j))]) hx hb dX4_awaitCorrection_4 rfl hl (by decide) rfl (fun ls hl => ?_)
    refine lv_aload_n hx hb dX4_awaitCorrection_5 rfl (lv_at hl 0 rfl) ?_
    refine lv_ifnull hx hb dX4_awaitCorrection_6 ?_
    refine lv_aload_n hx hb dX4_awaitCorrection_9 rfl (lv_at hl 2 rfl) ?_
    refine cV (S := S) (nA := 0) (As := []) (rest := []) X w hl (h.e_ta j hj).2 (a_X9_isInError G S ea ns nj nm nt nr nc h A hA j hj) wY_X9_isInError wM_X4_134 wIn_X9_isInError wSe_X9_X9_isInError wI_X9 (by decide) rfl (by decide +kernel) rfl rfl dX4_awaitCorrection_10 ⟨by decide, by decide⟩ (Nat.le_of_ble_eq_true rfl) (⟨Nat.le_of_ble_eq_true rfl, Nat.le_of_ble_eq_true rfl⟩) (fun v2 S1 H locs hp w => ?_)
    obtain ⟨rfl, rfl⟩ := hp
    refine lv_if_eq (tgt := 30) hx hb dX4_awaitCorrection_13 (by decide) (fun hce => ?_) (fun hce => ?_)
    · exact rV X w rfl dX4_awaitCorrection_30 (by decide) (by decide) (⟨rfl, _, h, hK, by first | exact hA | (rw [enA_f (b2i_f hce)]; exact hA) | (rw [enA_f (wr_0 (fun z => absurd ((by assumption : mI A 247 j = -1).symm.trans z) (by decide)))]; exact hA), fun _ => rfl, rfl⟩)
    · have hpo : pOut S j = true := by
        have z := wr_1 (b2i_t hce)
        rcases hA.rp j hj with ⟨-, u9, -⟩ | ⟨p9, -, -, f9⟩
        · rw [u9] at z; exact absurd z.1 (by decide)
        · exact pO2 (f9.2.2.2.2.2.2.2.2.1.trans z.1) (by rw [p9]; exact Option.some_ne_none _) (by rw [hA.pr j hj]; exact z.2)
      refine lv_aload_n hx hb dX4_awaitCorrection_16 rfl (lv_at hl 0 rfl) ?_
      refine lv_iconst (v := 1) hx hb dX4_awaitCorrection_17 (by decide) ?_
      refine p_6_11 (S := S) (x := 1) X w hvr1 wF_X4_131 dX4_awaitCorrection_18 (fun H locs w => ?_)
      have h : CI ea (sI S 107 j 1) ns nj nm nt nr nc := h.stI (by decide)
      have hK : Kq (hidV false) hiH (hidR false) S (sI S 107 j 1) := hK.sI rfl
      refine lv_aload_n hx hb dX4_awaitCorrection_21 rfl (lv_at hl 1 rfl) ?_
      refine g_4_2 (S := (sI S 107 j 1)) (x := (some (gG (sI S 107 j 1) 17 5))) X w h.v4 wF_X4_21 (h.f66) dX4_awaitCorrection_22 ?_
      refine lv_aload_n hx hb dX4_awaitCorrection_25 rfl (lv_at hl 2 rfl) ?_
      refine cV (S := (sI S 107 j 1)) (nA := 1) (As := [.ref (gG S 9 j)]) (rest := []) X w hl h.l_co.1 (add_co G (sI S 107 j 1) ea ns nj nm nt nr nc h hea j hj (by omega)) wY_Jx4a65c_add_9ea2d wM_X4_138 wIn_Jx4a65c_add_9ea2d wSe_Jx4a65c_Jx4a65c_add_9ea2d wI_Jx4a65c (by decide) rfl (by decide +kernel) rfl rfl dX4_awaitCorrection_26 ⟨by decide, by decide⟩ (Nat.le_of_ble_eq_true rfl) (⟨Nat.le_of_ble_eq_true rfl, Nat.le_of_ble_eq_true rfl⟩) (fun v3 S1 H locs hp w => ?_)
      obtain ⟨rfl, q2, m2, b2, rfl, hb0, hb1⟩ := hp
      have h : CI ea (addS (sI S 107 j 1) 5 q2 (capOf (nc + 1)) m2 (nI (nc + 1)) b2) ns nj nm nt nr (nc + 1) := h.addco hj (hro hpo) hb0 hb1
      have hK : Kq (hidV false) hiH (hidR false) S (addS (sI S 107 j 1) 5 q2 (capOf (nc + 1)) m2 (nI (nc + 1)) b2) := hK.add rfl rfl rfl rfl
      have hA : RK (addS (sI S 107 j 1) 5 q2 (capOf (nc + 1)) m2 (nI (nc + 1)) b2) (enA A j) ns nj nm nt nr (nc + 1) := by rw [enA_t (b2i_t hce) h253]; exact hA.en hj (wr_1 (b2i_t hce)).1 (wr_1 (b2i_t hce)).2 h253 (b2i_t hce) hb0 hb1
      refine lv_pop hx hb dX4_awaitCorrection_29 rfl ?_
      exact rV X w rfl dX4_awaitCorrection_30 (by decide) (by decide) (⟨rfl, _, h, hK, by first | exact hA | (rw [enA_f (b2i_f hce)]; exact hA) | (rw [enA_f (wr_0 (fun z => absurd ((by assumption : mI A 247 j = -1).symm.trans z) (by decide)))]; exact hA), fun _ => rfl, rfl⟩)

abbrev rm_a_X4_markSent : Room := { frames := 8, cells := 1, slots := 49, locals := 213 }
set_option maxHeartbeats 4000000 in
set_option maxRecDepth 100000 in
theorem a_X4_markSent {s0 : State} {l : Launch} {D : va_G} {cy : Nat → ClassId} (G : Gl s0 l D cy) (S : HS) (ea ns nj nm nt nr nc : Nat) (h : CI ea S ns nj nm nt nr nc) (A : HS) (hA : RK S A ns nj nm nt nr nc) (j : Nat) (hj : j < nt) (hea : ea = eaOf s0) (hz : mI A 247 j = 0) (hle : ¬ mI A 258 0 < rLen (mI A 244 j) (mI A 243 j) (mI A 248 j)) (g : Nat) : Ctr s0 l D cy yX4_markSent cX4_markSent 5 none rm_a_X4_markSent S [.ref (gG S 4 0), .ref (gG S 9 j), .ref (gG S 6 j), .int (nI g)] (fun v S' => none = v ∧ ∃ nc', CI ea S' ns nj nm nt nr nc' ∧ Kq (hidV false) hiH (hidR false) S S' ∧ RK S' (seT A nr g j) ns nj nm nt nr nc' ∧ ∀ i, mI S' 104 i = if i = j then 1 else mI S 104 i) := by
  refine pro "CavershamShift$Newsroom" G rfl rfl (Nat.le_of_ble_eq_true rfl) (fun p e s m below meth c ls X w hnm hl => ?_)
  have hx := X.1
  have hb := X.2.1
  have hown := X.2.2.2.1
  have hts := X.2.2.2.2.1
  have hl : lv_has ls 5 [(0, .ref (gG S 4 0)), (1, .ref (gG S 9 j)), (2, .ref (gG S 6 j)), (3, .int (nI g))] := hl
  have h0 := h
  have hK : Kq (hidV false) hiH (hidR false) S S := Kq.rf
  have hA0 := hA
  obtain ⟨hrp, hv, hu, hf⟩ := (hA.rp j hj).resolve_left (fun z => absurd (hz.symm.trans z.2.1) (by decide))
  have hln : ¬ rLen (mI A 244 j) (mI A 243 j) (mI A 248 j) < 0 := by rw [← hf.2.1]; exact fun z => h.x_rl j hj ⟨by rw [hrp]; exact Option.some_ne_none _, z⟩
  have hw : mI S 104 j = 0 := hf.2.2.2.2.2.2.2.2.1.trans hz
  have h253 : mI A 253 j = 0 := Decidable.byContradiction (fun z => absurd ((hA.q1 j hj z).1.symm.trans hz) (by decide))
  refine lv_aload_n hx hb dX4_markSent_0 rfl (lv_at hl 0 rfl) ?_
  refine lv_dup hx hb dX4_markSent_1 rfl ?_
  refine g_4_5 (S := S) (x := (mI A 258 0)) X w h.v4 wF_X4_24 (hA.wi) dX4_markSent_2 ?_
  refine lv_aload_n hx hb dX4_markSent_5 rfl (lv_at hl 2 rfl) ?_
  refine g_6_1 (S := S) (x := (rLen (mI A 244 j) (mI A 243 j) (mI A 248 j))) X w (Eq.mpr (hK.V (t := 6) (i := j) rfl) hv) wF_X4_96 ((hf).2.1) dX4_markSent_6 ?_
  refine lv_isub hx hb dX4_markSent_9 ?_
  refine p_4_5 (S := S) (x := ((mI A 258 0) - (rLen (mI A 244 j) (mI A 243 j) (mI A 248 j)))) X w h.v4 wF_X4_24 dX4_markSent_10 (fun H locs w => ?_)
  have h : CI ea (sI S 69 0 ((mI A 258 0) - (rLen (mI A 244 j) (mI A 243 j) (mI A 248 j)))) ns nj nm nt nr nc := h.s69 (sub_nn hln hle)
  have hK : Kq (hidV false) hiH (hidR false) S (sI S 69 0 ((mI A 258 0) - (rLen (mI A 244 j) (mI A 243 j) (mI A 248 j)))) := hK.sI rfl
  refine lv_aload_n hx hb dX4_markSent_13 rfl (lv_at hl 2 rfl) ?_
  refine lv_iconst (v := 1) hx hb dX4_markSent_14 (by decide) ?_
  refine p_6_8 (S := (sI S 69 0 ((mI A 258 0) - (rLen (mI A 244 j) (mI A 243 j) (mI A 248 j))))) (x := 1) X w (Eq.mpr (hK.V (t := 6) (i := j) rfl) hv) wF_X4_56 dX4_markSent_15 (fun H locs w => ?_)
  have h : CI ea (sI (sI S 69 0 ((mI A 258 0) - (rLen (mI A 244 j) (mI A 243 j) (mI A 248 j)))) 104 j 1) ns nj nm nt nr nc := h.s104 (fun _ => rfl)
  have hK : Kq (hidV false) hiH (hidR false) S (sI (sI S 69 0 ((mI A 258 0) - (rLen (mI A 244 j) (mI A 243 j) (mI A 248 j)))) 104 j 1) := hK.sI rfl
  refine lv_aload_n hx hb dX4_markSent_18 rfl (lv_at hl 2 rfl) ?_
  refine lv_iload_n hx hb dX4_markSent_19 rfl (lv_at hl 3 rfl) ?_
  refine p_6_9 (S := (sI (sI S 69 0 ((mI A 258 0) - (rLen (mI A 244 j) (mI A 243 j) (mI A 248 j)))) 104 j 1)) (x := (nI g)) X w (Eq.mpr (hK.V (t := 6) (i := j) rfl) hv) wF_X4_103 dX4_markSent_20 (fun H locs w => ?_)
  have h : CI ea (sI (sI (sI S 69 0 ((mI A 258 0) - (rLen (mI A 244 j) (mI A 243 j) (mI A 248 j)))) 104 j 1) 105 j (nI g)) ns nj nm nt nr nc := h.stI (by decide)
  have hK : Kq (hidV false) hiH (hidR false) S (sI (sI (sI S 69 0 ((mI A 258 0) - (rLen (mI A 244 j) (mI A 243 j) (mI A 248 j)))) 104 j 1) 105 j (nI g)) := hK.sI rfl
  refine lv_aload_n hx hb dX4_markSent_23 rfl (lv_at hl 2 rfl) ?_
  refine lv_aload_n hx hb dX4_markSent_24 rfl (lv_at hl 0 rfl) ?_
  refine g_4_4 (S := (sI (sI (sI S 69 0 ((mI A 258 0) - (rLen (mI A 244 j) (mI A 243 j) (mI A 248 j)))) 104 j 1) 105 j (nI g))) (x := (mI A 261 0)) X w h.v4 wF_X4_106 (hA.tu) dX4_markSent_25 ?_
  refine p_6_10 (S := (sI (sI (sI S 69 0 ((mI A 258 0) - (rLen (mI A 244 j) (mI A 243 j) (mI A 248 j)))) 104 j 1) 105 j (nI g))) (x := (mI A 261 0)) X w (Eq.mpr (hK.V (t := 6) (i := j) rfl) hv) wF_X4_109 dX4_markSent_28 (fun H locs w => ?_)
  have h : CI ea (sI (sI (sI (sI S 69 0 ((mI A 258 0) - (rLen (mI A 244 j) (mI A 243 j) (mI A 248 j)))) 104 j 1) 105 j (nI g)) 106 j (mI A 261 0)) ns nj nm nt nr nc := h.stI (by decide)
  have hK : Kq (hidV false) hiH (hidR false) S (sI (sI (sI (sI S 69 0 ((mI A 258 0) - (rLen (mI A 244 j) (mI A 243 j) (mI A 248 j)))) 104 j 1) 105 j (nI g)) 106 j (mI A 261 0)) := hK.sI rfl
  refine lv_aload_n hx hb dX4_markSent_31 rfl (lv_at hl 0 rfl) ?_
  refine lv_dup hx hb dX4_markSent_32 rfl ?_
  refine g_4_4 (S := (sI (sI (sI (sI S 69 0 ((mI A 258 0) - (rLen (mI A 244 j) (mI A 243 j) (mI A 248 j)))) 104 j 1) 105 j (nI g)) 106 j (mI A 261 0))) (x := (mI A 261 0)) X w h.v4 wF_X4_106 (hA.tu) dX4_markSent_33 ?_
  refine lv_iconst (v := 1) hx hb dX4_markSent_36 (by decide) ?_
  refine lv_iadd hx hb dX4_markSent_37 ?_
  refine p_4_4 (S := (sI (sI (sI (sI S 69 0 ((mI A 258 0) - (rLen (mI A 244 j) (mI A 243 j) (mI A 248 j)))) 104 j 1) 105 j (nI g)) 106 j (mI A 261 0))) (x := ((mI A 261 0) + 1)) X w h.v4 wF_X4_106 dX4_markSent_38 (fun H locs w => ?_)
  have h : CI ea (sI (sI (sI (sI (sI S 69 0 ((mI A 258 0) - (rLen (mI A 244 j) (mI A 243 j) (mI A 248 j)))) 104 j 1) 105 j (nI g)) 106 j (mI A 261 0)) 68 0 ((mI A 261 0) + 1)) ns nj nm nt nr nc := h.stI (by decide)
  have hK : Kq (hidV false) hiH (hidR false) S (sI (sI (sI (sI (sI S 69 0 ((mI A 258 0) - (rLen (mI A 244 j) (mI A 243 j) (mI A 248 j)))) 104 j 1) 105 j (nI g)) 106 j (mI A 261 0)) 68 0 ((mI A 261 0) + 1)) := hK.sI rfl
  have hA : RK (sI (sI (sI (sI (sI S 69 0 ((mI A 258 0) - (rLen (mI A 244 j) (mI A 243 j) (mI A 248 j)))) 104 j 1) 105 j (nI g)) 106 j (mI A 261 0)) 68 0 ((mI A 261 0) + 1)) (seT0 A g j) ns nj nm nt nr nc := hA.se0 hj hz rfl rfl rfl h.b_ta (q9_sub hA0.q9 hln hle)
  refine lv_iconst (v := 0) hx hb dX4_markSent_41 (by decide) ?_
  refine lv_istore (lv' := [(4, .int 0), (0, .ref (gG S 4 0)), (1, .ref (gG S 9 j)), (2, .ref (gG S 6 j)), (3, .int (nI g))]) hx hb dX4_markSent_42 hl (by decide) rfl (fun ls hl => ?_)
  have L44 : ∀ (N : Nat) (k44 : Nat) (T44 : HS) (H : Heap) (locs : List Loc) (ls : Array Slot), nr - k44 < N → (k44 ≤ nr) → (RK T44 (goS (seT0 A g j) j k44) ns nj nm nt nr nc) → (CI ea T44 ns nj nm nt nr nc) → (Kq (hidV false) hiH (hidR false) S T44) → (∀ i, mI T44 104 i = if i = j then 1 else mI S 104 i) → Wd s0 D cy T44 s.heap H locs → lv_has ls 5 [(4, .int (nI k44)), (0, .ref (gG S 4 0)), (1, .ref (gG S 9 j)), (2, .ref (gG S 6 j)), (3, .int (nI g))] → W p l e rm_a_X4_markSent s m ([.ref (gG S 4 0), .ref (gG S 9 j), .ref (gG S 6 j), .int (nI g)] : List Value).toArray below meth c H locs 0 0 (MQ below (GQ s0 D cy (fun v S' => none = v ∧ ∃ nc', CI ea S' ns nj nm nt nr nc' ∧ Kq (hidV false) hiH (hidR false) S S' ∧ RK S' (seT A nr g j) ns nj nm nt nr nc' ∧ ∀ i, mI S' 104 i = if i = j then 1 else mI S 104 i)) ([.ref (gG S 4 0), .ref (gG S 9 j), .ref (gG S 6 j), .int (nI g)] : List Value).toArray s rm_a_X4_markSent.cells rm_a_X4_markSent.slots (A0 s0)) (F0 m 44 ls []) := by
    intro N
    induction N with
    | zero => intros; omega
    | succ N ih44 =>
      intro k44 T44 H locs ls hmu hk_k44 hA h hK_T44 e104 w hl
      have hK := hK_T44
      refine lv_iload hx hb dX4_markSent_44 (lv_at hl 0 rfl) ?_
      refine lv_aload_n hx hb dX4_markSent_46 rfl (lv_at hl 1 rfl) ?_
      refine rE0 ((rfl).trans ((hK_T44.G (t := 4) (i := 0) rfl)).symm) ?_
      refine g_4_1 (S := T44) (x := (some (gG T44 17 4))) X w h.v4 wF_X4_18 (h.f65) dX4_markSent_47 ?_
      refine cV (S := T44) (nA := 0) (As := []) (rest := [.int (nI k44)]) X w hl h.l_re.1 (m_size G T44 ea 4 nr h.l_re) wY_Jx4a65c_size_8abf5 wM_X4_28 wIn_Jx4a65c_size_8abf5 wSe_Jx4a65c_Jx4a65c_size_8abf5 wI_Jx4a65c (by decide) rfl (by decide +kernel) rfl rfl dX4_markSent_50 ⟨by decide, by decide⟩ (Nat.le_of_ble_eq_true rfl) (⟨Nat.le_of_ble_eq_true rfl, Nat.le_of_ble_eq_true rfl⟩) (fun v1 S1 H locs hp w => ?_)
      obtain ⟨rfl, rfl⟩ := hp
      refine lv_icmp_ge (tgt := 94) hx hb dX4_markSent_53 (by decide) (fun hc_k44 => ?_) (fun hc_k44 => ?_)
      · have hge_k44 : nr ≤ k44 := by
          have hb1 := h.b_re
          exact (nI_leI (a := nr) (b := k44) (by omega) (by omega)).mp hc_k44
        have hk9 : k44 = nr := by omega
        rw [hk9] at hA
        refine lv_aload_n hx hb dX4_markSent_94 rfl (lv_at hl 1 rfl) ?_
        refine lv_aload_n hx hb dX4_markSent_95 rfl (lv_at hl 2 rfl) ?_
        refine rE0 ((rfl).trans ((hK_T44.G (t := 9) (i := j) rfl)).symm) ?_
        refine rE1 ((rfl).trans ((hK_T44.G (t := 4) (i := 0) rfl)).symm) ?_
        refine cV (S := T44) (nA := 1) (As := [.ref (gG T44 9 j)]) (rest := []) X w hl h.v4 (a_X4_awaitCorrection G T44 ea ns nj nm nt nr nc h (goS (seT0 A g j) j nr) hA j hj (hea) (co_room hj h0.x_co (by rw [hw]; decide) e104 (fun i => hK.R rfl) (fun i => hK.I rfl)) (by rw [goS_I]; exact h253)) wY_X4_awaitCorrection wM_X4_118 wIn_X4_awaitCorrection wSe_X4_X4_awaitCorrection wI_X4 (by decide) rfl (by decide +kernel) rfl rfl dX4_markSent_96 ⟨by decide, by decide⟩ (Nat.le_of_ble_eq_true rfl) (⟨Nat.le_of_ble_eq_true rfl, Nat.le_of_ble_eq_true rfl⟩) (fun v5 U2 H locs hp w => ?_)
        obtain ⟨rfl, nc3, h, hkU2, hA, e104c, e69c⟩ := hp
        have hK_U2 : Kq (hidV false) hiH (hidR false) S U2 := hK.tr hkU2
        have hK := hK_U2
        exact rV X w rfl dX4_markSent_99 (by decide) (by decide) (⟨rfl, _, h, hK, hA, fun i => (e104c i).trans (e104 i)⟩)
      · have hlt_k44 : k44 < nr := by
          have hb1 := h.b_re
          exact Nat.lt_of_not_le (fun z => hc_k44 ((nI_leI (a := nr) (b := k44) (by omega) (by omega)).mpr z))
        refine lv_aload_n hx hb dX4_markSent_56 rfl (lv_at hl 2 rfl) ?_
        refine lv_aload_n hx hb dX4_markSent_57 rfl (lv_at hl 1 rfl) ?_
        refine rE0 ((rfl).trans ((hK_T44.G (t := 4) (i := 0) rfl)).symm) ?_
        refine g_4_1 (S := T44) (x := (some (gG T44 17 4))) X w h.v4 wF_X4_18 (h.f65) dX4_markSent_58 ?_
        refine lv_iload hx hb dX4_markSent_61 (lv_at hl 0 rfl) ?_
        refine cV (S := T44) (nA := 1) (As := [.int (nI k44)]) (rest := [.ref (gG S 9 j)]) X w hl h.l_re.1 (m_get G T44 ea 4 k44 nr (some (gG T44 5 k44)) h.l_re hlt_k44 (h.e_re k44 hlt_k44).1) wY_Jx4a65c_get_915e3 wM_X4_36 wIn_Jx4a65c_get_915e3 wSe_Jx4a65c_Jx4a65c_get_915e3 wI_Jx4a65c (by decide) rfl (by decide +kernel) rfl rfl dX4_markSent_63 ⟨by decide, by decide⟩ (Nat.le_of_ble_eq_true rfl) (⟨Nat.le_of_ble_eq_true rfl, Nat.le_of_ble_eq_true rfl⟩) (fun v6 S1 H locs hp w => ?_)
        obtain ⟨rfl, rfl⟩ := hp
        refine ckC (S := T44) (t := 5) X w (h.e_re k44 hlt_k44).2 (by decide) rfl wC_X4_42 dX4_markSent_66 ?_
        refine rE1 ((rfl).trans ((hK_T44.G (t := 9) (i := j) rfl)).symm) ?_
        refine cV (S := T44) (nA := 1) (As := [.ref (gG T44 5 k44)]) (rest := []) X w hl (h.e_ta j hj).2 (a_X9_isFor G T44 ea ns nj nm nt nr nc h (goS (seT0 A g j) j k44) hA j hj k44 hlt_k44) wY_X9_isFor wM_X4_112 wIn_X9_isFor wSe_X9_X9_isFor wI_X9 (by decide) rfl (by decide +kernel) rfl rfl dX4_markSent_69 ⟨by decide, by decide⟩ (Nat.le_of_ble_eq_true rfl) (⟨Nat.le_of_ble_eq_true rfl, Nat.le_of_ble_eq_true rfl⟩) (fun v7 S1 H locs hp w => ?_)
        obtain ⟨rfl, rfl⟩ := hp
        refine lv_topi (fun z8 ez8 => ?_)
        obtain rfl : z8 = (b2i (gFor (seT0 A g j) j k44)) := ez8.trans (congrArg b2i (gFor_pic (km_goS k44)))
        refine lv_if_eq (tgt := 88) hx hb dX4_markSent_72 (by decide) (fun hfo => ?_) (fun hfo => ?_)
        · refine lv_iinc (v := nI (k44 + 1)) (lv' := [(4, .int (nI (k44 + 1))), (0, .ref (gG S 4 0)), (1, .ref (gG S 9 j)), (2, .ref (gG S 6 j)), (3, .int (nI g))]) hx hb dX4_markSent_88 hl (k := 0) rfl (nI_1 _) (by decide) rfl (fun ls hl => ?_)
          refine lv_goto (tgt := 44) hx hb dX4_markSent_91 (by decide) ?_
          have hA : RK T44 (goS (seT0 A g j) j (k44 + 1)) ns nj nm nt nr nc := by first | exact hA | (rw [goS_f (b2i_f hfo)]; exact hA)
          exact ih44 (k44 + 1) T44 _ _ _ (by omega) (hlt_k44) (hA) (h) (hK) (e104) w (lv_sub hl [0, 1, 2, 3, 4] rfl)
        · refine lv_aload_n hx hb dX4_markSent_75 rfl (lv_at hl 3 rfl) ?_
          refine lv_dup hx hb dX4_markSent_76 rfl ?_
          refine rE0 ((rfl).trans ((hK_T44.G (t := 6) (i := j) rfl)).symm) ?_
          refine g_6_12 (S := T44) (x := (mI T44 108 j)) X w (Eq.mpr (hK.V (t := 6) (i := j) rfl) hv) wF_X4_116 (rfl) dX4_markSent_77 ?_
          refine lv_iconst (v := 1) hx hb dX4_markSent_80 (by decide) ?_
          refine lv_iload hx hb dX4_markSent_81 (lv_at hl 0 rfl) ?_
          refine lv_ishl hx hb dX4_markSent_83 ?_
          refine lv_ior hx hb dX4_markSent_84 ?_
          refine rE1 ((rfl).trans ((hK_T44.G (t := 6) (i := j) rfl)).symm) ?_
          refine p_6_12 (S := T44) (x := ((mI T44 108 j) ||| (1 <<< ((nI k44) &&& 31)))) X w (Eq.mpr (hK.V (t := 6) (i := j) rfl) hv) wF_X4_116 dX4_markSent_85 (fun H locs w => ?_)
          have h : CI ea (sI T44 108 j ((mI T44 108 j) ||| (1 <<< ((nI k44) &&& 31)))) ns nj nm nt nr nc := h.stI (by decide)
          have hK : Kq (hidV false) hiH (hidR false) S (sI T44 108 j ((mI T44 108 j) ||| (1 <<< ((nI k44) &&& 31)))) := hK.sI rfl
          have hA : RK (sI T44 108 j ((mI T44 108 j) ||| (1 <<< ((nI k44) &&& 31)))) (goS (seT0 A g j) j (k44 + 1)) ns nj nm nt nr nc := by rw [goS_t (b2i_t hfo)]; exact hA.go hj hlt_k44 h.b_re (by rw [goS_I]; exact sI_s (S := A)) (by rw [goS_I, show mI (seT0 A g j) 253 j = 0 from h253]; decide)
          refine lv_iinc (v := nI (k44 + 1)) (lv' := [(4, .int (nI (k44 + 1))), (0, .ref (gG S 4 0)), (1, .ref (gG S 9 j)), (2, .ref (gG S 6 j)), (3, .int (nI g))]) hx hb dX4_markSent_88 hl (k := 0) rfl (nI_1 _) (by decide) rfl (fun ls hl => ?_)
          refine lv_goto (tgt := 44) hx hb dX4_markSent_91 (by decide) ?_
          have hA : RK (sI T44 108 j ((mI T44 108 j) ||| (1 <<< ((nI k44) &&& 31)))) (goS (seT0 A g j) j (k44 + 1)) ns nj nm nt nr nc := by first | exact hA | (rw [goS_f (b2i_f hfo)]; exact hA)
          exact ih44 (k44 + 1) (sI T44 108 j ((mI T44 108 j) ||| (1 <<< ((nI k44) &&& 31)))) _ _ _ (by omega) (hlt_k44) (hA) (h) (hK) (e104) w (lv_sub hl [0, 1, 2, 3, 4] rfl)
  exact L44 _ 0 (sI (sI (sI (sI (sI S 69 0 ((mI A 258 0) - (rLen (mI A 244 j) (mI A 243 j) (mI A 248 j)))) 104 j 1) 105 j (nI g)) 106 j (mI A 261 0)) 68 0 ((mI A 261 0) + 1)) _ _ _ (Nat.lt_succ_self _) (Nat.zero_le _) (hA) (h) (hK) (fun i => by simp [mI, sI, up2]) w (lv_sub hl [0, 1, 2, 3, 4] rfl)

abbrev rm_a_X4_sendReports : Room := { frames := 9, cells := 40, slots := 1960, locals := 237 }
set_option maxHeartbeats 4000000 in
set_option maxRecDepth 100000 in
theorem a_X4_sendReports {s0 : State} {l : Launch} {D : va_G} {cy : Nat → ClassId} (G : Gl s0 l D cy) (S : HS) (ea ns nj nm nt nr nc : Nat) (h : CI ea S ns nj nm nt nr nc) (A : HS) (hA : RK S A ns nj nm nt nr nc) (hea : ea = eaOf s0) (g : Nat) (hg : g ≤ 720) : Ctr s0 l D cy yX4_sendReports cX4_sendReports 11 (some .int) rm_a_X4_sendReports S [.ref (gG S 4 0), .int (nI g), .int (mI A 258 0), .int 1] (fun v S' => (∃ x : Int32, some (.int x) = v) ∧ ∃ nc', CI ea S' ns nj nm nt nr nc' ∧ Kq (hidV false) hiH (hidR false) S S' ∧ RK S' (seL A nt nr g (nt + 1)) ns nj nm nt nr nc') := by
  refine pro "CavershamShift$Newsroom" G rfl rfl (Nat.le_of_ble_eq_true rfl) (fun p e s m below meth c ls X w hnm hl => ?_)
  have hx := X.1
  have hb := X.2.1
  have hown := X.2.2.2.1
  have hts := X.2.2.2.2.1
  have hl : lv_has ls 11 [(0, .ref (gG S 4 0)), (1, .int (nI g)), (2, .int (mI A 258 0)), (3, .int 1)] := hl
  have h0 := h
  have hK : Kq (hidV false) hiH (hidR false) S S := Kq.rf
  refine lv_iload_n hx hb dX4_sendReports_0 rfl (lv_at hl 2 rfl) ?_
  refine lv_istore (lv' := [(4, .int (mI A 258 0)), (0, .ref (gG S 4 0)), (1, .int (nI g)), (2, .int (mI A 258 0)), (3, .int 1)]) hx hb dX4_sendReports_1 hl (by decide) rfl (fun ls hl => ?_)
  refine lv_iconst (v := 0) hx hb dX4_sendReports_3 (by decide) ?_
  refine lv_istore (lv' := [(5, .int 0), (4, .int (mI A 258 0)), (0, .ref (gG S 4 0)), (1, .int (nI g)), (2, .int (mI A 258 0)), (3, .int 1)]) hx hb dX4_sendReports_4 hl (by decide) rfl (fun ls hl => ?_)
  refine lv_bipush (v := 9) hx hb dX4_sendReports_6 (by decide) ?_
  refine lv_istore (lv' := [(6, .int 9), (5, .int 0), (4, .int (mI A 258 0)), (0, .ref (gG S 4 0)), (1, .int (nI g)), (2, .int (mI A 258 0)), (3, .int 1)]) hx hb dX4_sendReports_8 hl (by decide) rfl (fun ls hl => ?_)
  have L10 : ∀ (N : Nat) (P : HS) (kw : Nat) (v4 : Int32) (v5 : Int32) (T10 : HS) (nc10 : Nat) (H : Heap) (locs : List Loc) (ls : Array Slot), kw < N → (kw ≤ 9) → (v4 = mI P 258 0) → (SeQ A P nt nr g) → (∀ j, j < nt → ∀ w, w ≤ 9 → kw < w → mI P 244 j = nI w → nxP P g (mI P 258 0) j = false) → (RK T10 P ns nj nm nt nr nc10) → (CI ea T10 ns nj nm nt nr nc10) → (Kq (hidV false) hiH (hidR false) S T10) → Wd s0 D cy T10 s.heap H locs → lv_has ls 11 [(0, .ref (gG S 4 0)), (1, .int (nI g)), (2, .int (mI A 258 0)), (3, .int 1), (4, .int v4), (5, .int v5), (6, .int (nI kw))] → W p l e rm_a_X4_sendReports s m ([.ref (gG S 4 0), .int (nI g), .int (mI A 258 0), .int 1] : List Value).toArray below meth c H locs (usd T10 nt) (49 * usd T10 nt) (MQ below (GQ s0 D cy (fun v S' => (∃ x : Int32, some (.int x) = v) ∧ ∃ nc', CI ea S' ns nj nm nt nr nc' ∧ Kq (hidV false) hiH (hidR false) S S' ∧ RK S' (seL A nt nr g (nt + 1)) ns nj nm nt nr nc')) ([.ref (gG S 4 0), .int (nI g), .int (mI A 258 0), .int 1] : List Value).toArray s rm_a_X4_sendReports.cells rm_a_X4_sendReports.slots (A0 s0)) (F0 m 10 ls []) := by
    intro N
    induction N with
    | zero => intros; omega
    | succ N ih10 =>
      intro P kw v4 v5 T10 nc10 H locs ls hmu hkw hw4 hQ hdo hA h hK_T10 w hl
      have hK := hK_T10
      refine lv_iload hx hb dX4_sendReports_10 (lv_at hl 6 rfl) ?_
      refine lv_iconst (v := 3) hx hb dX4_sendReports_12 (by decide) ?_
      refine lv_icmp_lt (tgt := 149) hx hb dX4_sendReports_13 (by decide) (fun hcw => ?_) (fun hcw => ?_)
      · have hw3 : kw < 3 := (nI_ltI (a := kw) (b := 3) (by omega) (by decide)).mp hcw
        refine lv_iload hx hb dX4_sendReports_149 (lv_at hl 5 rfl) ?_
        exact rI X w rfl dX4_sendReports_151 (Nat.le_trans (usd_le T10 nt) h.b_ta) (Nat.le_trans (Nat.mul_le_mul_left 49 (usd_le T10 nt)) (Nat.mul_le_mul_left 49 h.b_ta)) (⟨⟨_, rfl⟩, _, h, hK, by rw [hQ.fin hA.ok hA.q2 hw3 hdo]; exact hA⟩)
      · have hw3 : 3 ≤ kw := Nat.le_of_not_lt (fun z => hcw ((nI_ltI (a := kw) (b := 3) (by omega) (by decide)).mpr z))
        refine lv_iconst (v := 0) hx hb dX4_sendReports_16 (by decide) ?_
        refine lv_istore (lv' := [(7, .int 0), (0, .ref (gG S 4 0)), (1, .int (nI g)), (2, .int (mI A 258 0)), (3, .int 1), (4, .int v4), (5, .int v5), (6, .int (nI kw))]) hx hb dX4_sendReports_17 hl (by decide) rfl (fun ls hl => ?_)
        have L19 : ∀ (N : Nat) (k19 : Nat) (v19_4 : Int32) (v19_5 : Int32) (Q : HS) (T19 : HS) (nc19 : Nat) (H : Heap) (locs : List Loc) (ls : Array Slot), nt - k19 < N → (k19 ≤ nt) → (v19_4 = mI Q 258 0) → (SeQ A Q nt nr g) → (∀ j, j < nt → ∀ w, w ≤ 9 → mI Q 244 j = nI w → (kw < w ∨ (w = kw ∧ j < k19)) → nxP Q g (mI Q 258 0) j = false) → (RK T19 Q ns nj nm nt nr nc19) → (CI ea T19 ns nj nm nt nr nc19) → (Kq (hidV false) hiH (hidR false) S T19) → Wd s0 D cy T19 s.heap H locs → lv_has ls 11 [(7, .int (nI k19)), (0, .ref (gG S 4 0)), (1, .int (nI g)), (2, .int (mI A 258 0)), (3, .int 1), (4, .int v19_4), (5, .int v19_5), (6, .int (nI kw))] → W p l e rm_a_X4_sendReports s m ([.ref (gG S 4 0), .int (nI g), .int (mI A 258 0), .int 1] : List Value).toArray below meth c H locs (usd T19 nt) (49 * usd T19 nt) (MQ below (GQ s0 D cy (fun v S' => (∃ x : Int32, some (.int x) = v) ∧ ∃ nc', CI ea S' ns nj nm nt nr nc' ∧ Kq (hidV false) hiH (hidR false) S S' ∧ RK S' (seL A nt nr g (nt + 1)) ns nj nm nt nr nc')) ([.ref (gG S 4 0), .int (nI g), .int (mI A 258 0), .int 1] : List Value).toArray s rm_a_X4_sendReports.cells rm_a_X4_sendReports.slots (A0 s0)) (F0 m 19 ls []) := by
          intro N
          induction N with
          | zero => intros; omega
          | succ N ih19 =>
            intro k19 v19_4 v19_5 Q T19 nc19 H locs ls hmu hk_k19 hw4 hQ hdq hA h hK_T19 w hl
            have hK := hK_T19
            refine lv_iload hx hb dX4_sendReports_19 (lv_at hl 0 rfl) ?_
            refine lv_aload_n hx hb dX4_sendReports_21 rfl (lv_at hl 1 rfl) ?_
            refine rE0 ((rfl).trans ((hK_T19.G (t := 4) (i := 0) rfl)).symm) ?_
            refine g_4_0 (S := T19) (x := (some (gG T19 17 3))) X w h.v4 wF_X4_12 (h.f64) dX4_sendReports_22 ?_
            refine cV (S := T19) (nA := 0) (As := []) (rest := [.int (nI k19)]) X w hl h.l_ta.1 (m_size G T19 ea 3 nt h.l_ta) wY_Jx4a65c_size_8abf5 wM_X4_28 wIn_Jx4a65c_size_8abf5 wSe_Jx4a65c_Jx4a65c_size_8abf5 wI_Jx4a65c (by decide) rfl (by decide +kernel) rfl rfl dX4_sendReports_25 ⟨by decide, by decide⟩ (Nat.le_of_ble_eq_true rfl) (⟨(show usd T19 nt + 0 ≤ 40 by have := usd_le T19 nt; have := h.b_ta; omega), (show 49 * usd T19 nt + 0 ≤ 1960 by have := usd_le T19 nt; have := h.b_ta; omega)⟩) (fun v1 S1 H locs hp w => ?_)
            obtain ⟨rfl, rfl⟩ := hp
            refine lv_icmp_ge (tgt := 143) hx hb dX4_sendReports_28 (by decide) (fun hc_k19 => ?_) (fun hc_k19 => ?_)
            · have hge_k19 : nt ≤ k19 := by
                have hb1 := h.b_ta
                exact (nI_leI (a := nt) (b := k19) (by omega) (by omega)).mp hc_k19
              refine lv_iinc (v := nI (kw - 1)) (lv' := [(6, .int (nI (kw - 1))), (7, .int (nI k19)), (0, .ref (gG S 4 0)), (1, .int (nI g)), (2, .int (mI A 258 0)), (3, .int 1), (4, .int v19_4), (5, .int v19_5)]) hx hb dX4_sendReports_143 hl (k := 7) rfl (by rw [show kw = (kw - 1) + 1 by omega]; exact pk_m1 _) (by decide) rfl (fun ls hl => ?_)
              refine lv_goto (tgt := 10) hx hb dX4_sendReports_146 (by decide) ?_
              exact ih10 Q (kw - 1) v19_4 v19_5 T19 nc19 _ _ _ (by omega) (by omega) (hw4) (hQ) (dq_out (by omega) (by omega) hdq) (hA) (h) (hK) w (lv_sub hl [2, 3, 4, 5, 6, 7, 0] rfl)
            · have hlt_k19 : k19 < nt := by
                have hb1 := h.b_ta
                exact Nat.lt_of_not_le (fun z => hc_k19 ((nI_leI (a := nt) (b := k19) (by omega) (by omega)).mpr z))
              refine lv_aload_n hx hb dX4_sendReports_31 rfl (lv_at hl 1 rfl) ?_
              refine rE0 ((rfl).trans ((hK_T19.G (t := 4) (i := 0) rfl)).symm) ?_
              refine g_4_0 (S := T19) (x := (some (gG T19 17 3))) X w h.v4 wF_X4_12 (h.f64) dX4_sendReports_32 ?_
              refine lv_iload hx hb dX4_sendReports_35 (lv_at hl 0 rfl) ?_
              refine cV (S := T19) (nA := 1) (As := [.int (nI k19)]) (rest := []) X w hl h.l_ta.1 (m_get G T19 ea 3 k19 nt (some (gG T19 9 k19)) h.l_ta hlt_k19 (h.e_ta k19 hlt_k19).1) wY_Jx4a65c_get_915e3 wM_X4_36 wIn_Jx4a65c_get_915e3 wSe_Jx4a65c_Jx4a65c_get_915e3 wI_Jx4a65c (by decide) rfl (by decide +kernel) rfl rfl dX4_sendReports_37 ⟨by decide, by decide⟩ (Nat.le_of_ble_eq_true rfl) (⟨(show usd T19 nt + 0 ≤ 40 by have := usd_le T19 nt; have := h.b_ta; omega), (show 49 * usd T19 nt + 0 ≤ 1960 by have := usd_le T19 nt; have := h.b_ta; omega)⟩) (fun v2 S1 H locs hp w => ?_)
              obtain ⟨rfl, rfl⟩ := hp
              refine ckC (S := T19) (t := 9) X w (h.e_ta k19 hlt_k19).2 (by decide) rfl wC_X4_40 dX4_sendReports_40 ?_
              refine lv_astore (lv' := [(8, .ref (gG T19 9 k19)), (7, .int (nI k19)), (0, .ref (gG S 4 0)), (1, .int (nI g)), (2, .int (mI A 258 0)), (3, .int 1), (4, .int v19_4), (5, .int v19_5), (6, .int (nI kw))]) hx hb dX4_sendReports_43 hl (by decide) rfl (fun ls hl => ?_)
              refine lv_aload hx hb dX4_sendReports_45 (lv_at hl 0 rfl) ?_
              refine g_9_5 (S := T19) (x := (mI Q 244 k19)) X w (h.e_ta k19 hlt_k19).2 wF_X4_89 ((hA.rc.2.2.2.1 k19 hlt_k19).2.2.2.2.1) dX4_sendReports_47 ?_
              refine lv_iload hx hb dX4_sendReports_50 (lv_at hl 8 rfl) ?_
              refine lv_icmp_ne (tgt := 68) hx hb dX4_sendReports_52 (by decide) (fun hwq => ?_) (fun hwq => ?_)
              · refine lv_iconst (v := 0) hx hb dX4_sendReports_68 (by decide) ?_
                refine lv_istore (lv' := [(9, .int 0), (8, .ref (gG T19 9 k19)), (7, .int (nI k19)), (0, .ref (gG S 4 0)), (1, .int (nI g)), (2, .int (mI A 258 0)), (3, .int 1), (4, .int v19_4), (5, .int v19_5), (6, .int (nI kw))]) hx hb dX4_sendReports_69 hl (by decide) rfl (fun ls hl => ?_)
                refine lv_iload hx hb dX4_sendReports_71 (lv_at hl 0 rfl) ?_
                refine lv_if_eq (tgt := 93) hx hb dX4_sendReports_73 (by decide) (fun hc3 => ?_) (fun hc3 => ?_)
                · refine lv_null hx hb dX4_sendReports_93 ?_
                  refine lv_astoreN (lv' := [(10, .null), (9, .int 0), (8, .ref (gG T19 9 k19)), (7, .int (nI k19)), (0, .ref (gG S 4 0)), (1, .int (nI g)), (2, .int (mI A 258 0)), (3, .int 1), (4, .int v19_4), (5, .int v19_5), (6, .int (nI kw))]) hx hb dX4_sendReports_94 hl (by decide) rfl (fun ls hl => ?_)
                  refine lv_aloadN hx hb dX4_sendReports_96 (lv_at hl 0 rfl) ?_
                  refine lv_ifnullN (tgt := 137) hx hb dX4_sendReports_98 (by decide) ?_
                  refine lv_iinc (v := nI (k19 + 1)) (lv' := [(7, .int (nI (k19 + 1))), (10, .null), (9, .int 0), (8, .ref (gG T19 9 k19)), (0, .ref (gG S 4 0)), (1, .int (nI g)), (2, .int (mI A 258 0)), (3, .int 1), (4, .int v19_4), (5, .int v19_5), (6, .int (nI kw))]) hx hb dX4_sendReports_137 hl (k := 3) rfl (nI_1 _) (by decide) rfl (fun ls hl => ?_)
                  refine lv_goto (tgt := 19) hx hb dX4_sendReports_140 (by decide) ?_
                  have hdq : ∀ j, j < nt → ∀ w, w ≤ 9 → mI Q 244 j = nI w → (kw < w ∨ (w = kw ∧ j < k19 + 1)) → nxP Q g (mI Q 258 0) j = false := dq_step hdq (fun e => by first | exact absurd e hwq | exact nx_f0 (of_decide_eq_false (b2i_f hnx)) | exact nx_f2 (of_decide_eq_true (b2i_t hnx)) (b2i_t hol) | exact nx_f3 (by rw [← hw4]; exact Int32.not_le.mp hlen) | exact nx_f3 (by rw [← hw4]; exact hlen) | exact nx_f0 (by rw [(by assumption : mI Q 247 k19 = -1)]; decide))
                  exact ih19 (k19 + 1) v19_4 v19_5 Q T19 nc19 _ _ _ (by omega) (hlt_k19) (hw4) (hQ) (hdq) (hA) (h) (hK) w (lv_sub hl [0, 4, 5, 6, 7, 8, 9, 10] rfl)
                · exact absurd hc3 (by decide)
              · refine lv_aload hx hb dX4_sendReports_55 (lv_at hl 0 rfl) ?_
                refine lv_iconst (v := 0) hx hb dX4_sendReports_57 (by decide) ?_
                refine cV (S := T19) (nA := 1) (As := [.int 0]) (rest := []) X w hl (h.e_ta k19 hlt_k19).2 (a_X9_hasReportThatStands G T19 ea ns nj nm nt nr nc19 h Q hA k19 hlt_k19 0 (by decide)) wY_X9_hasReportThatStands wM_X4_92 wIn_X9_hasReportThatStands wSe_X9_X9_hasReportThatStands wI_X9 (by decide) rfl (by decide +kernel) rfl rfl dX4_sendReports_58 ⟨by decide, by decide⟩ (Nat.le_of_ble_eq_true rfl) (⟨(show usd T19 nt + 0 ≤ 40 by have := usd_le T19 nt; have := h.b_ta; omega), (show 49 * usd T19 nt + 0 ≤ 1960 by have := usd_le T19 nt; have := h.b_ta; omega)⟩) (fun v4 S1 H locs hp w => ?_)
                obtain ⟨rfl, rfl⟩ := hp
                refine lv_if_eq (tgt := 68) hx hb dX4_sendReports_61 (by decide) (fun hnx => ?_) (fun hnx => ?_)
                · refine lv_iconst (v := 0) hx hb dX4_sendReports_68 (by decide) ?_
                  refine lv_istore (lv' := [(9, .int 0), (8, .ref (gG T19 9 k19)), (7, .int (nI k19)), (0, .ref (gG S 4 0)), (1, .int (nI g)), (2, .int (mI A 258 0)), (3, .int 1), (4, .int v19_4), (5, .int v19_5), (6, .int (nI kw))]) hx hb dX4_sendReports_69 hl (by decide) rfl (fun ls hl => ?_)
                  refine lv_iload hx hb dX4_sendReports_71 (lv_at hl 0 rfl) ?_
                  refine lv_if_eq (tgt := 93) hx hb dX4_sendReports_73 (by decide) (fun hc5 => ?_) (fun hc5 => ?_)
                  · refine lv_null hx hb dX4_sendReports_93 ?_
                    refine lv_astoreN (lv' := [(10, .null), (9, .int 0), (8, .ref (gG T19 9 k19)), (7, .int (nI k19)), (0, .ref (gG S 4 0)), (1, .int (nI g)), (2, .int (mI A 258 0)), (3, .int 1), (4, .int v19_4), (5, .int v19_5), (6, .int (nI kw))]) hx hb dX4_sendReports_94 hl (by decide) rfl (fun ls hl => ?_)
                    refine lv_aloadN hx hb dX4_sendReports_96 (lv_at hl 0 rfl) ?_
                    refine lv_ifnullN (tgt := 137) hx hb dX4_sendReports_98 (by decide) ?_
                    refine lv_iinc (v := nI (k19 + 1)) (lv' := [(7, .int (nI (k19 + 1))), (10, .null), (9, .int 0), (8, .ref (gG T19 9 k19)), (0, .ref (gG S 4 0)), (1, .int (nI g)), (2, .int (mI A 258 0)), (3, .int 1), (4, .int v19_4), (5, .int v19_5), (6, .int (nI kw))]) hx hb dX4_sendReports_137 hl (k := 3) rfl (nI_1 _) (by decide) rfl (fun ls hl => ?_)
                    refine lv_goto (tgt := 19) hx hb dX4_sendReports_140 (by decide) ?_
                    have hdq : ∀ j, j < nt → ∀ w, w ≤ 9 → mI Q 244 j = nI w → (kw < w ∨ (w = kw ∧ j < k19 + 1)) → nxP Q g (mI Q 258 0) j = false := dq_step hdq (fun e => by first | exact absurd e hwq | exact nx_f0 (of_decide_eq_false (b2i_f hnx)) | exact nx_f2 (of_decide_eq_true (b2i_t hnx)) (b2i_t hol) | exact nx_f3 (by rw [← hw4]; exact Int32.not_le.mp hlen) | exact nx_f3 (by rw [← hw4]; exact hlen) | exact nx_f0 (by rw [(by assumption : mI Q 247 k19 = -1)]; decide))
                    exact ih19 (k19 + 1) v19_4 v19_5 Q T19 nc19 _ _ _ (by omega) (hlt_k19) (hw4) (hQ) (hdq) (hA) (h) (hK) w (lv_sub hl [0, 4, 5, 6, 7, 8, 9, 10] rfl)
                  · exact absurd hc5 (by decide)
                · refine lv_iconst (v := 1) hx hb dX4_sendReports_64 (by decide) ?_
                  refine lv_goto (tgt := 69) hx hb dX4_sendReports_65 (by decide) ?_
                  refine lv_istore (lv' := [(9, .int 1), (8, .ref (gG T19 9 k19)), (7, .int (nI k19)), (0, .ref (gG S 4 0)), (1, .int (nI g)), (2, .int (mI A 258 0)), (3, .int 1), (4, .int v19_4), (5, .int v19_5), (6, .int (nI kw))]) hx hb dX4_sendReports_69 hl (by decide) rfl (fun ls hl => ?_)
                  refine lv_iload hx hb dX4_sendReports_71 (lv_at hl 0 rfl) ?_
                  refine lv_if_eq (tgt := 93) hx hb dX4_sendReports_73 (by decide) (fun hc6 => ?_) (fun hc6 => ?_)
                  · exact absurd hc6 (by decide)
                  · refine lv_aload hx hb dX4_sendReports_76 (lv_at hl 1 rfl) ?_
                    refine lv_iload_n hx hb dX4_sendReports_78 rfl (lv_at hl 4 rfl) ?_
                    refine cS (S := T19) (nA := 2) (As := [.ref (gG T19 9 k19), .int (nI g)]) (rest := []) X w hl (a_X4_isTooOld G T19 ea ns nj nm nt nr nc19 h Q hA k19 hlt_k19 g (by assumption)) wY_X4_isTooOld wM_X4_75 wSt_X4_isTooOld wI_X4 (by decide +kernel) rfl rfl dX4_sendReports_79 ⟨by decide, by decide⟩ (Nat.le_of_ble_eq_true rfl) (⟨(show usd T19 nt + 0 ≤ 40 by have := usd_le T19 nt; have := h.b_ta; omega), (show 49 * usd T19 nt + 0 ≤ 1960 by have := usd_le T19 nt; have := h.b_ta; omega)⟩) (fun v7 S1 H locs hp w => ?_)
                    obtain ⟨rfl, rfl⟩ := hp
                    refine lv_if_ne (tgt := 93) hx hb dX4_sendReports_82 (by decide) (fun hol => ?_) (fun hol => ?_)
                    · refine lv_null hx hb dX4_sendReports_93 ?_
                      refine lv_astoreN (lv' := [(10, .null), (9, .int 1), (8, .ref (gG T19 9 k19)), (7, .int (nI k19)), (0, .ref (gG S 4 0)), (1, .int (nI g)), (2, .int (mI A 258 0)), (3, .int 1), (4, .int v19_4), (5, .int v19_5), (6, .int (nI kw))]) hx hb dX4_sendReports_94 hl (by decide) rfl (fun ls hl => ?_)
                      refine lv_aloadN hx hb dX4_sendReports_96 (lv_at hl 0 rfl) ?_
                      refine lv_ifnullN (tgt := 137) hx hb dX4_sendReports_98 (by decide) ?_
                      refine lv_iinc (v := nI (k19 + 1)) (lv' := [(7, .int (nI (k19 + 1))), (10, .null), (9, .int 1), (8, .ref (gG T19 9 k19)), (0, .ref (gG S 4 0)), (1, .int (nI g)), (2, .int (mI A 258 0)), (3, .int 1), (4, .int v19_4), (5, .int v19_5), (6, .int (nI kw))]) hx hb dX4_sendReports_137 hl (k := 3) rfl (nI_1 _) (by decide) rfl (fun ls hl => ?_)
                      refine lv_goto (tgt := 19) hx hb dX4_sendReports_140 (by decide) ?_
                      have hdq : ∀ j, j < nt → ∀ w, w ≤ 9 → mI Q 244 j = nI w → (kw < w ∨ (w = kw ∧ j < k19 + 1)) → nxP Q g (mI Q 258 0) j = false := dq_step hdq (fun e => by first | exact absurd e hwq | exact nx_f0 (of_decide_eq_false (b2i_f hnx)) | exact nx_f2 (of_decide_eq_true (b2i_t hnx)) (b2i_t hol) | exact nx_f3 (by rw [← hw4]; exact Int32.not_le.mp hlen) | exact nx_f3 (by rw [← hw4]; exact hlen) | exact nx_f0 (by rw [(by assumption : mI Q 247 k19 = -1)]; decide))
                      exact ih19 (k19 + 1) v19_4 v19_5 Q T19 nc19 _ _ _ (by omega) (hlt_k19) (hw4) (hQ) (hdq) (hA) (h) (hK) w (lv_sub hl [0, 4, 5, 6, 7, 8, 9, 10] rfl)
                    · refine lv_aload hx hb dX4_sendReports_85 (lv_at hl 1 rfl) ?_
                      rcases hA.rp k19 hlt_k19 with ⟨her8, hur8, hzr8, hwr8, hsr8⟩ | ⟨her8, hvr8, hur8, hwr8⟩
                      · refine g_9_8 (S := T19) (x := none) X w (h.e_ta k19 hlt_k19).2 wF_X4_71 (her8) dX4_sendReports_87 ?_
                        refine lv_goto (tgt := 94) hx hb dX4_sendReports_90 (by decide) ?_
                        refine lv_astoreN (lv' := [(10, .null), (9, .int 1), (8, .ref (gG T19 9 k19)), (7, .int (nI k19)), (0, .ref (gG S 4 0)), (1, .int (nI g)), (2, .int (mI A 258 0)), (3, .int 1), (4, .int v19_4), (5, .int v19_5), (6, .int (nI kw))]) hx hb dX4_sendReports_94 hl (by decide) rfl (fun ls hl => ?_)
                        refine lv_aloadN hx hb dX4_sendReports_96 (lv_at hl 0 rfl) ?_
                        refine lv_ifnullN (tgt := 137) hx hb dX4_sendReports_98 (by decide) ?_
                        refine lv_iinc (v := nI (k19 + 1)) (lv' := [(7, .int (nI (k19 + 1))), (10, .null), (9, .int 1), (8, .ref (gG T19 9 k19)), (0, .ref (gG S 4 0)), (1, .int (nI g)), (2, .int (mI A 258 0)), (3, .int 1), (4, .int v19_4), (5, .int v19_5), (6, .int (nI kw))]) hx hb dX4_sendReports_137 hl (k := 3) rfl (nI_1 _) (by decide) rfl (fun ls hl => ?_)
                        refine lv_goto (tgt := 19) hx hb dX4_sendReports_140 (by decide) ?_
                        have hdq : ∀ j, j < nt → ∀ w, w ≤ 9 → mI Q 244 j = nI w → (kw < w ∨ (w = kw ∧ j < k19 + 1)) → nxP Q g (mI Q 258 0) j = false := dq_step hdq (fun e => by first | exact absurd e hwq | exact nx_f0 (of_decide_eq_false (b2i_f hnx)) | exact nx_f2 (of_decide_eq_true (b2i_t hnx)) (b2i_t hol) | exact nx_f3 (by rw [← hw4]; exact Int32.not_le.mp hlen) | exact nx_f3 (by rw [← hw4]; exact hlen) | exact nx_f0 (by rw [(by assumption : mI Q 247 k19 = -1)]; decide))
                        exact ih19 (k19 + 1) v19_4 v19_5 Q T19 nc19 _ _ _ (by omega) (hlt_k19) (hw4) (hQ) (hdq) (hA) (h) (hK) w (lv_sub hl [0, 4, 5, 6, 7, 8, 9, 10] rfl)
                      · refine g_9_8 (S := T19) (x := (some (gG T19 6 k19))) X w (h.e_ta k19 hlt_k19).2 wF_X4_71 (her8) dX4_sendReports_87 ?_
                        refine lv_goto (tgt := 94) hx hb dX4_sendReports_90 (by decide) ?_
                        refine lv_astore (lv' := [(10, .ref (gG T19 6 k19)), (9, .int 1), (8, .ref (gG T19 9 k19)), (7, .int (nI k19)), (0, .ref (gG S 4 0)), (1, .int (nI g)), (2, .int (mI A 258 0)), (3, .int 1), (4, .int v19_4), (5, .int v19_5), (6, .int (nI kw))]) hx hb dX4_sendReports_94 hl (by decide) rfl (fun ls hl => ?_)
                        refine lv_aload hx hb dX4_sendReports_96 (lv_at hl 0 rfl) ?_
                        refine lv_ifnull hx hb dX4_sendReports_98 ?_
                        refine lv_aload hx hb dX4_sendReports_101 (lv_at hl 0 rfl) ?_
                        refine g_6_1 (S := T19) (x := (rLen (mI Q 244 k19) (mI Q 243 k19) (mI Q 248 k19))) X w hvr8 wF_X4_96 ((hwr8).2.1) dX4_sendReports_103 ?_
                        refine lv_iload hx hb dX4_sendReports_106 (lv_at hl 8 rfl) ?_
                        refine lv_icmp_gt (tgt := 137) hx hb dX4_sendReports_108 (by decide) (fun hlen => ?_) (fun hlen => ?_)
                        · refine lv_iinc (v := nI (k19 + 1)) (lv' := [(7, .int (nI (k19 + 1))), (10, .ref (gG T19 6 k19)), (9, .int 1), (8, .ref (gG T19 9 k19)), (0, .ref (gG S 4 0)), (1, .int (nI g)), (2, .int (mI A 258 0)), (3, .int 1), (4, .int v19_4), (5, .int v19_5), (6, .int (nI kw))]) hx hb dX4_sendReports_137 hl (k := 3) rfl (nI_1 _) (by decide) rfl (fun ls hl => ?_)
                          refine lv_goto (tgt := 19) hx hb dX4_sendReports_140 (by decide) ?_
                          have hdq : ∀ j, j < nt → ∀ w, w ≤ 9 → mI Q 244 j = nI w → (kw < w ∨ (w = kw ∧ j < k19 + 1)) → nxP Q g (mI Q 258 0) j = false := dq_step hdq (fun e => by first | exact absurd e hwq | exact nx_f0 (of_decide_eq_false (b2i_f hnx)) | exact nx_f2 (of_decide_eq_true (b2i_t hnx)) (b2i_t hol) | exact nx_f3 (by rw [← hw4]; exact Int32.not_le.mp hlen) | exact nx_f3 (by rw [← hw4]; exact hlen) | exact nx_f0 (by rw [(by assumption : mI Q 247 k19 = -1)]; decide))
                          exact ih19 (k19 + 1) v19_4 v19_5 Q T19 nc19 _ _ _ (by omega) (hlt_k19) (hw4) (hQ) (hdq) (hA) (h) (hK) w (lv_sub hl [0, 4, 5, 6, 7, 8, 9, 10] rfl)
                        · refine lv_iload hx hb dX4_sendReports_111 (lv_at hl 8 rfl) ?_
                          refine lv_aload hx hb dX4_sendReports_113 (lv_at hl 0 rfl) ?_
                          refine g_6_1 (S := T19) (x := (rLen (mI Q 244 k19) (mI Q 243 k19) (mI Q 248 k19))) X w hvr8 wF_X4_96 ((hwr8).2.1) dX4_sendReports_115 ?_
                          refine lv_isub hx hb dX4_sendReports_118 ?_
                          refine lv_istore (lv' := [(4, .int (v19_4 - (rLen (mI Q 244 k19) (mI Q 243 k19) (mI Q 248 k19)))), (10, .ref (gG T19 6 k19)), (9, .int 1), (8, .ref (gG T19 9 k19)), (7, .int (nI k19)), (0, .ref (gG S 4 0)), (1, .int (nI g)), (2, .int (mI A 258 0)), (3, .int 1), (5, .int v19_5), (6, .int (nI kw))]) hx hb dX4_sendReports_119 hl (by decide) rfl (fun ls hl => ?_)
                          refine lv_iinc (v := (v19_5 + 1)) (lv' := [(5, .int (v19_5 + 1)), (4, .int (v19_4 - (rLen (mI Q 244 k19) (mI Q 243 k19) (mI Q 248 k19)))), (10, .ref (gG T19 6 k19)), (9, .int 1), (8, .ref (gG T19 9 k19)), (7, .int (nI k19)), (0, .ref (gG S 4 0)), (1, .int (nI g)), (2, .int (mI A 258 0)), (3, .int 1), (6, .int (nI kw))]) hx hb dX4_sendReports_121 hl (k := 9) rfl (rfl) (by decide) rfl (fun ls hl => ?_)
                          refine lv_iload_n hx hb dX4_sendReports_124 rfl (lv_at hl 9 rfl) ?_
                          refine lv_if_eq (tgt := 137) hx hb dX4_sendReports_125 (by decide) (fun hc9 => ?_) (fun hc9 => ?_)
                          · exact absurd hc9 (by decide)
                          · refine lv_aload_n hx hb dX4_sendReports_128 rfl (lv_at hl 6 rfl) ?_
                            refine lv_aload hx hb dX4_sendReports_129 (lv_at hl 4 rfl) ?_
                            refine lv_aload hx hb dX4_sendReports_131 (lv_at hl 2 rfl) ?_
                            refine lv_iload_n hx hb dX4_sendReports_133 rfl (lv_at hl 7 rfl) ?_
                            have hzq : mI Q 247 k19 = 0 := of_decide_eq_true (b2i_t hnx)
                            have hle9 : ¬ mI Q 258 0 < rLen (mI Q 244 k19) (mI Q 243 k19) (mI Q 248 k19) := by rw [← hw4]; first | exact hlen | exact Int32.not_lt.mpr (Int32.not_lt.mp hlen)
                            have hln9 : ¬ rLen (mI Q 244 k19) (mI Q 243 k19) (mI Q 248 k19) < 0 := by rw [← (hwr8).2.1]; exact fun z => h.x_rl k19 hlt_k19 ⟨by rw [her8]; exact Option.some_ne_none _, z⟩
                            have hpw : pW T19 k19 = true := by
                              unfold pW
                              rw [her8, show mI T19 104 k19 = 0 from (hwr8).2.2.2.2.2.2.2.2.1.trans hzq]; rfl
                            have hnp : nxP Q g (mI Q 258 0) k19 = true := nxP_t hzq (b2i_f hol) hle9
                            have hA0q := hA
                            have hA0q_nt := h.b_ta
                            refine rE3 ((rfl).trans ((hK_T19.G (t := 4) (i := 0) rfl)).symm) ?_
                            refine cV (S := T19) (nA := 3) (As := [.ref (gG T19 9 k19), .ref (gG T19 6 k19), .int (nI g)]) (rest := []) X w hl h.v4 (a_X4_markSent G T19 ea ns nj nm nt nr nc19 h Q hA k19 hlt_k19 (hea) (hzq) (hle9) g) wY_X4_markSent wM_X4_99 wIn_X4_markSent wSe_X4_X4_markSent wI_X4 (by decide) rfl (by decide +kernel) rfl rfl dX4_sendReports_134 ⟨by decide, by decide⟩ (Nat.le_of_ble_eq_true rfl) (⟨(show usd T19 nt + 1 ≤ 40 from Nat.le_trans (usd_lt hlt_k19 hpw) h.b_ta), (show 49 * usd T19 nt + 49 ≤ 1960 by have := Nat.le_trans (usd_lt hlt_k19 hpw) h.b_ta; omega)⟩) (fun v13 U10 H locs hp w => ?_)
                            obtain ⟨rfl, nc11, h, hkU10, hA, e104c⟩ := hp
                            have hK_U10 : Kq (hidV false) hiH (hidR false) S U10 := hK.tr hkU10
                            have hK := hK_U10
                            have husU : usd T19 nt + 1 ≤ usd U10 nt := usd_s hlt_k19 hpw (fun i => hkU10.R rfl) e104c
                            refine lv_iinc (v := nI (k19 + 1)) (lv' := [(7, .int (nI (k19 + 1))), (5, .int (v19_5 + 1)), (4, .int (v19_4 - (rLen (mI Q 244 k19) (mI Q 243 k19) (mI Q 248 k19)))), (10, .ref (gG T19 6 k19)), (9, .int 1), (8, .ref (gG T19 9 k19)), (0, .ref (gG S 4 0)), (1, .int (nI g)), (2, .int (mI A 258 0)), (3, .int 1), (6, .int (nI kw))]) hx hb dX4_sendReports_137 hl (k := 5) rfl (nI_1 _) (by decide) rfl (fun ls hl => ?_)
                            refine lv_goto (tgt := 19) hx hb dX4_sendReports_140 (by decide) ?_
                            have hQ : SeQ A (seT Q nr g k19) nt nr g := hQ.send hA0q.ok hA0q_nt hlt_k19 hwq hkw hnp hdq
                            have hdq : ∀ j, j < nt → ∀ w, w ≤ 9 → mI (seT Q nr g k19) 244 j = nI w → (kw < w ∨ (w = kw ∧ j < k19 + 1)) → nxP (seT Q nr g k19) g (mI (seT Q nr g k19) 258 0) j = false := dq_send hln9 hle9 hdq
                            have hw4 : v19_4 - rLen (mI Q 244 k19) (mI Q 243 k19) (mI Q 248 k19) = mI (seT Q nr g k19) 258 0 := by rw [seT_258, ← hw4]
                            refine W.widen (k := usd U10 nt) (n := 49 * usd U10 nt) (show usd T19 nt + 1 ≤ usd U10 nt from husU) (show 49 * usd T19 nt + 49 ≤ 49 * usd U10 nt by omega) ?_
                            exact ih19 (k19 + 1) (v19_4 - (rLen (mI Q 244 k19) (mI Q 243 k19) (mI Q 248 k19))) (v19_5 + 1) (seT Q nr g k19) U10 nc11 _ _ _ (by omega) (hlt_k19) (hw4) (hQ) (hdq) (hA) (h) (hK) w (lv_sub hl [0, 6, 7, 8, 9, 2, 1, 10] rfl)
        refine W.widen (k := usd T10 nt) (n := 49 * usd T10 nt) (Nat.le_refl _) (Nat.le_refl _) ?_
        exact L19 _ 0 v4 v5 P T10 nc10 _ _ _ (Nat.lt_succ_self _) (Nat.zero_le _) (hw4) (hQ) (fun j hj w hw ew c => hdo j hj w hw (c.resolve_right (fun z => absurd z.2 (Nat.not_lt_zero j))) ew) (hA) (h) (hK) w (lv_sub hl [0, 1, 2, 3, 4, 5, 6, 7] rfl)
  refine W.widen (k := usd S nt) (n := 49 * usd S nt) (Nat.zero_le _) (Nat.zero_le _) ?_
  exact L10 _ A 9 (mI A 258 0) 0 S nc _ _ _ (Nat.lt_succ_self _) (Nat.le_refl _) (rfl) (SeQ.rf) (fun j hj w hw c => absurd c (by omega)) (hA) (h) (hK) w (lv_sub hl [3, 4, 5, 6, 2, 1, 0] rfl)

abbrev rm_a_X4_runWire : Room := { frames := 10, cells := 40, slots := 1960, locals := 267 }
set_option maxHeartbeats 4000000 in
set_option maxRecDepth 100000 in
theorem a_X4_runWire {s0 : State} {l : Launch} {D : va_G} {cy : Nat → ClassId} (G : Gl s0 l D cy) (S : HS) (ea ns nj nm nt nr nc : Nat) (h : CI ea S ns nj nm nt nr nc) (A : HS) (hA : RK S A ns nj nm nt nr nc) (hea : ea = eaOf s0) (g : Nat) (hg : g ≤ 720) : Ctr s0 l D cy yX4_runWire cX4_runWire 2 none rm_a_X4_runWire S [.ref (gG S 4 0), .int (nI g)] (fun v S' => none = v ∧ ∃ nc', CI ea S' ns nj nm nt nr nc' ∧ Kq (hidV false) hiH (hidR false) S S' ∧ RK S' (seL (coA A nr) nt nr g (nt + 1)) ns nj nm nt nr nc') := by
  refine pro "CavershamShift$Newsroom" G rfl rfl (Nat.le_of_ble_eq_true rfl) (fun p e s m below meth c ls X w hnm hl => ?_)
  have hx := X.1
  have hb := X.2.1
  have hown := X.2.2.2.1
  have hts := X.2.2.2.2.1
  have hl : lv_has ls 2 [(0, .ref (gG S 4 0)), (1, .int (nI g))] := hl
  have h0 := h
  have hK : Kq (hidV false) hiH (hidR false) S S := Kq.rf
  refine lv_aload_n hx hb dX4_runWire_0 rfl (lv_at hl 0 rfl) ?_
  refine cV (S := S) (nA := 0) (As := []) (rest := []) X w hl h.v4 (a_X4_sendCorrections G S ea ns nj nm nt nr nc h A hA ) wY_X4_sendCorrections wM_X4_79 wIn_X4_sendCorrections wSe_X4_X4_sendCorrections wI_X4 (by decide) rfl (by decide +kernel) rfl rfl dX4_runWire_1 ⟨by decide, by decide⟩ (Nat.le_of_ble_eq_true rfl) (⟨Nat.le_of_ble_eq_true rfl, Nat.le_of_ble_eq_true rfl⟩) (fun v3 U1 H locs hp w => ?_)
  obtain ⟨rfl, h, hkU1, hA⟩ := hp
  have hK_U1 : Kq (hidV false) hiH (hidR false) S U1 := hK.tr hkU1
  have hK := hK_U1
  refine lv_aload_n hx hb dX4_runWire_4 rfl (lv_at hl 0 rfl) ?_
  refine lv_iload_n hx hb dX4_runWire_5 rfl (lv_at hl 1 rfl) ?_
  refine lv_aload_n hx hb dX4_runWire_6 rfl (lv_at hl 0 rfl) ?_
  refine rE0 ((rfl).trans ((hK_U1.G (t := 4) (i := 0) rfl)).symm) ?_
  refine g_4_5 (S := U1) (x := (mI (coA A nr) 258 0)) X w h.v4 wF_X4_24 (hA.wi) dX4_runWire_7 ?_
  refine lv_iconst (v := 1) hx hb dX4_runWire_10 (by decide) ?_
  refine rE3 ((rfl).trans ((hK_U1.G (t := 4) (i := 0) rfl)).symm) ?_
  refine cV (S := U1) (nA := 3) (As := [.int (nI g), .int (mI (coA A nr) 258 0), .int 1]) (rest := []) X w hl h.v4 (a_X4_sendReports G U1 ea ns nj nm nt nr nc h (coA A nr) hA (hea) g (by assumption)) wY_X4_sendReports wM_X4_82 wIn_X4_sendReports wSe_X4_X4_sendReports wI_X4 (by decide) rfl (by decide +kernel) rfl rfl dX4_runWire_11 ⟨by decide, by decide⟩ (Nat.le_of_ble_eq_true rfl) (⟨Nat.le_of_ble_eq_true rfl, Nat.le_of_ble_eq_true rfl⟩) (fun v7 U4 H locs hp w => ?_)
  obtain ⟨⟨x6, rfl⟩, nc5, h, hkU4, hA⟩ := hp
  have hK_U4 : Kq (hidV false) hiH (hidR false) S U4 := hK.tr hkU4
  have hK := hK_U4
  refine lv_pop hx hb dX4_runWire_14 rfl ?_
  exact rV X w rfl dX4_runWire_15 (by decide) (by decide) (⟨rfl, _, h, hK, hA⟩)

