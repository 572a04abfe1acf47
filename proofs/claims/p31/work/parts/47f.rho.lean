abbrev rm_r_X16_hour : Room := { frames := 9, cells := 12, slots := 455, locals := 236 }
set_option maxHeartbeats 4000000 in
set_option maxRecDepth 100000 in
theorem r_X16_hour {s0 : State} {l : Launch} {D : va_G} {cy : Nat → ClassId} (G : Gl s0 l D cy) (S : HS) (ea ns nj nm nt nr nq : Nat) (h : RI ea S ns nj nm nt nr nq) (A : HS) (hE : RF s0 S A nq nt) (g : Nat) (hg : mI S 257 0 = nI g) (hg7 : g < 720) (hea : ea = eaOf s0) (hZ : ¬ vV S 17 12 ∧ ¬ vV S 30 12) (h40 : ¬ vV S 40 0) (hQ : QI s0 S nq nt) : Ctr s0 l D cy yX16_hour cX16_hour 4 none rm_r_X16_hour S [.ref (gG S 16 0)] (fun v S' => none = v ∧ ∃ nq', RI ea S' ns nj nm nt nr nq' ∧ Kq hvH hiHr hrQ S S' ∧ QI s0 S' nq' nt ∧ RF s0 S' (hoA A ns nj nm nt nr g) nq' nt ∧ ¬ vV S' 40 0 ∧ mI S' 257 0 = nI (g + 1)) := by
  refine pro "CavershamShiftModel" G rfl rfl (Nat.le_of_ble_eq_true rfl) (fun p e s m below meth c ls X w hnm hl => ?_)
  have hx := X.1
  have hb := X.2.1
  have hown := X.2.2.2.1
  have hts := X.2.2.2.2.1
  have hl : lv_has ls 4 [(0, .ref (gG S 16 0))] := hl
  have h0 := h
  have hK : Kq hvH hiHr hrQ S S := Kq.rf
  have e257 : mI S 257 0 = mI S 257 0 := rfl
  refine lv_iconst (v := 0) hx hb dX16_hour_0 (by decide) ?_
  refine lv_istore_n (lv' := [(1, .int 0), (0, .ref (gG S 16 0))]) hx hb dX16_hour_1 rfl hl (by decide) rfl (fun ls hl => ?_)
  have L2 : ∀ (N : Nat) (k2 : Nat) (T2 : HS) (H : Heap) (locs : List Loc) (ls : Array Slot), nt - k2 < N → (k2 ≤ nt) → (RF s0 T2 (recL A ns nj g k2) nq nt) → (RI ea T2 ns nj nm nt nr nq) → (Kq hvH hiHr hrQ S T2) → (QI s0 T2 nq nt) → (mI T2 257 0 = mI S 257 0) → (¬ vV T2 40 0) → Wd s0 D cy T2 s.heap H locs → lv_has ls 4 [(1, .int (nI k2)), (0, .ref (gG S 16 0))] → W p l e rm_r_X16_hour s m ([.ref (gG S 16 0)] : List Value).toArray below meth c H locs (0) (0) (MQ below (GQ s0 D cy (fun v S' => none = v ∧ ∃ nq', RI ea S' ns nj nm nt nr nq' ∧ Kq hvH hiHr hrQ S S' ∧ QI s0 S' nq' nt ∧ RF s0 S' (hoA A ns nj nm nt nr g) nq' nt ∧ ¬ vV S' 40 0 ∧ mI S' 257 0 = nI (g + 1))) ([.ref (gG S 16 0)] : List Value).toArray s rm_r_X16_hour.cells rm_r_X16_hour.slots (A0 s0)) (F0 m 2 ls []) := by
    intro N
    induction N with
    | zero => intros; omega
    | succ N ih2 =>
      intro k2 T2 H locs ls hmu hk_k2 hE h hK_T2 hQ e257 h40 w hl
      have hK := hK_T2
      refine lv_iload_n hx hb dX16_hour_2 rfl (lv_at hl 0 rfl) ?_
      refine lv_aload_n hx hb dX16_hour_3 rfl (lv_at hl 1 rfl) ?_
      refine rE0 ((rfl).trans ((hK_T2.G (t := 16) (i := 0) rfl)).symm) ?_
      refine g_16_9 (S := T2) (x := (some (gG T2 17 9))) X w h.v wF_X16_26 (h.f_ta) dX16_hour_4 ?_
      refine cF (S := T2) (t := 17) (nA := 0) (As := []) (rest := [.int (nI k2)]) X w hl h.l_ta.1 (m_size G T2 ea 9 nt h.l_ta) wY_Jx4a65c_size_8abf5 wM_X16_73 wIn_Jx4a65c_size_8abf5 wSe_Jx4a65c_Jx4a65c_size_8abf5_of_java_util_List_size___I wI_Jx4a65c fw_size (by decide) rfl (by decide +kernel) rfl rfl dX16_hour_7 ⟨by decide, by decide⟩ (Nat.le_of_ble_eq_true rfl) (⟨Nat.le_of_ble_eq_true rfl, Nat.le_of_ble_eq_true rfl⟩) (fun v1 S1 H locs hp w => ?_)
      obtain ⟨rfl, rfl⟩ := hp
      refine lv_icmp_ge (tgt := 61) hx hb dX16_hour_12 (by decide) (fun hc_k2 => ?_) (fun hc_k2 => ?_)
      · have hge_k2 : nt ≤ k2 := by
          have hb1 := h.b_ta
          exact (nI_leI (a := nt) (b := k2) (by omega) (by omega)).mp hc_k2
        rw [show k2 = nt by omega] at hE
        have hE : RF s0 T2 (recL A ns nj g nt) nq nt := hE
        refine lv_iconst (v := 0) hx hb dX16_hour_61 (by decide) ?_
        refine lv_istore_n (lv' := [(1, .int 0), (0, .ref (gG S 16 0))]) hx hb dX16_hour_62 rfl hl (by decide) rfl (fun ls hl => ?_)
        have L63 : ∀ (N : Nat) (k63 : Nat) (T63 : HS) (H : Heap) (locs : List Loc) (ls : Array Slot), nm - k63 < N → (k63 ≤ nm) → (RF s0 T63 (tiL (recL A ns nj g nt) (g % 24) k63) nq nt) → (RI ea T63 ns nj nm nt nr nq) → (Kq hvH hiHr hrQ S T63) → (QI s0 T63 nq nt) → (mI T63 257 0 = mI S 257 0) → (¬ vV T63 40 0) → Wd s0 D cy T63 s.heap H locs → lv_has ls 4 [(1, .int (nI k63)), (0, .ref (gG S 16 0))] → W p l e rm_r_X16_hour s m ([.ref (gG S 16 0)] : List Value).toArray below meth c H locs (0) (0) (MQ below (GQ s0 D cy (fun v S' => none = v ∧ ∃ nq', RI ea S' ns nj nm nt nr nq' ∧ Kq hvH hiHr hrQ S S' ∧ QI s0 S' nq' nt ∧ RF s0 S' (hoA A ns nj nm nt nr g) nq' nt ∧ ¬ vV S' 40 0 ∧ mI S' 257 0 = nI (g + 1))) ([.ref (gG S 16 0)] : List Value).toArray s rm_r_X16_hour.cells rm_r_X16_hour.slots (A0 s0)) (F0 m 63 ls []) := by
          intro N
          induction N with
          | zero => intros; omega
          | succ N ih63 =>
            intro k63 T63 H locs ls hmu hk_k63 hE h hK_T63 hQ e257 h40 w hl
            have hK := hK_T63
            refine lv_iload_n hx hb dX16_hour_63 rfl (lv_at hl 0 rfl) ?_
            refine lv_aload_n hx hb dX16_hour_64 rfl (lv_at hl 1 rfl) ?_
            refine rE0 ((rfl).trans ((hK_T63.G (t := 16) (i := 0) rfl)).symm) ?_
            refine g_16_8 (S := T63) (x := (some (gG T63 17 8))) X w h.v wF_X16_23 (h.f_mo) dX16_hour_65 ?_
            refine cF (S := T63) (t := 17) (nA := 0) (As := []) (rest := [.int (nI k63)]) X w hl h.l_mo.1 (m_size G T63 ea 8 nm h.l_mo) wY_Jx4a65c_size_8abf5 wM_X16_73 wIn_Jx4a65c_size_8abf5 wSe_Jx4a65c_Jx4a65c_size_8abf5_of_java_util_List_size___I wI_Jx4a65c fw_size (by decide) rfl (by decide +kernel) rfl rfl dX16_hour_68 ⟨by decide, by decide⟩ (Nat.le_of_ble_eq_true rfl) (⟨Nat.le_of_ble_eq_true rfl, Nat.le_of_ble_eq_true rfl⟩) (fun v2 S1 H locs hp w => ?_)
            obtain ⟨rfl, rfl⟩ := hp
            refine lv_icmp_ge (tgt := 161) hx hb dX16_hour_73 (by decide) (fun hc_k63 => ?_) (fun hc_k63 => ?_)
            · have hge_k63 : nm ≤ k63 := by
                have hb1 := h.b_mo
                exact (nI_leI (a := nm) (b := k63) (by omega) (by omega)).mp hc_k63
              rw [show k63 = nm by omega] at hE
              have hE : RF s0 T63 (tiL (recL A ns nj g nt) (g % 24) nm) nq nt := hE
              refine lv_iconst (v := 0) hx hb dX16_hour_161 (by decide) ?_
              refine lv_istore_n (lv' := [(1, .int 0), (0, .ref (gG S 16 0))]) hx hb dX16_hour_162 rfl hl (by decide) rfl (fun ls hl => ?_)
              have L163 : ∀ (N : Nat) (k163 : Nat) (T163 : HS) (H : Heap) (locs : List Loc) (ls : Array Slot), nt - k163 < N → (k163 ≤ nt) → (RF s0 T163 (stL (tiL (recL A ns nj g nt) (g % 24) nm) g k163) nq nt) → (RI ea T163 ns nj nm nt nr nq) → (Kq hvH hiHr hrQ S T163) → (QI s0 T163 nq nt) → (mI T163 257 0 = mI S 257 0) → (¬ vV T163 40 0) → Wd s0 D cy T163 s.heap H locs → lv_has ls 4 [(1, .int (nI k163)), (0, .ref (gG S 16 0))] → W p l e rm_r_X16_hour s m ([.ref (gG S 16 0)] : List Value).toArray below meth c H locs (0) (0) (MQ below (GQ s0 D cy (fun v S' => none = v ∧ ∃ nq', RI ea S' ns nj nm nt nr nq' ∧ Kq hvH hiHr hrQ S S' ∧ QI s0 S' nq' nt ∧ RF s0 S' (hoA A ns nj nm nt nr g) nq' nt ∧ ¬ vV S' 40 0 ∧ mI S' 257 0 = nI (g + 1))) ([.ref (gG S 16 0)] : List Value).toArray s rm_r_X16_hour.cells rm_r_X16_hour.slots (A0 s0)) (F0 m 163 ls []) := by
                intro N
                induction N with
                | zero => intros; omega
                | succ N ih163 =>
                  intro k163 T163 H locs ls hmu hk_k163 hE h hK_T163 hQ e257 h40 w hl
                  have hK := hK_T163
                  refine lv_iload_n hx hb dX16_hour_163 rfl (lv_at hl 0 rfl) ?_
                  refine lv_aload_n hx hb dX16_hour_164 rfl (lv_at hl 1 rfl) ?_
                  refine rE0 ((rfl).trans ((hK_T163.G (t := 16) (i := 0) rfl)).symm) ?_
                  refine g_16_9 (S := T163) (x := (some (gG T163 17 9))) X w h.v wF_X16_26 (h.f_ta) dX16_hour_165 ?_
                  refine cF (S := T163) (t := 17) (nA := 0) (As := []) (rest := [.int (nI k163)]) X w hl h.l_ta.1 (m_size G T163 ea 9 nt h.l_ta) wY_Jx4a65c_size_8abf5 wM_X16_73 wIn_Jx4a65c_size_8abf5 wSe_Jx4a65c_Jx4a65c_size_8abf5_of_java_util_List_size___I wI_Jx4a65c fw_size (by decide) rfl (by decide +kernel) rfl rfl dX16_hour_168 ⟨by decide, by decide⟩ (Nat.le_of_ble_eq_true rfl) (⟨Nat.le_of_ble_eq_true rfl, Nat.le_of_ble_eq_true rfl⟩) (fun v3 S1 H locs hp w => ?_)
                  obtain ⟨rfl, rfl⟩ := hp
                  refine lv_icmp_ge (tgt := 219) hx hb dX16_hour_173 (by decide) (fun hc_k163 => ?_) (fun hc_k163 => ?_)
                  · have hge_k163 : nt ≤ k163 := by
                      have hb1 := h.b_ta
                      exact (nI_leI (a := nt) (b := k163) (by omega) (by omega)).mp hc_k163
                    rw [show k163 = nt by omega] at hE
                    have hE : RF s0 T163 (stL (tiL (recL A ns nj g nt) (g % 24) nm) g nt) nq nt := hE
                    refine lv_aload_n hx hb dX16_hour_219 rfl (lv_at hl 1 rfl) ?_
                    refine rE0 ((rfl).trans ((hK_T163.G (t := 16) (i := 0) rfl)).symm) ?_
                    refine cV (S := T163) (nA := 0) (As := []) (rest := []) X w hl h.v (r_X16_correct G T163 ea ns nj nm nt nr nq h (stL (tiL (recL A ns nj g nt) (g % 24) nm) g nt) hE hea (by rw [show vV T163 17 12 = vV S 17 12 from hK.V rfl, show vV T163 30 12 = vV S 30 12 from hK.V rfl]; exact hZ) hQ) wY_X16_correct wM_X16_214 wIn_X16_correct wSe_X16_X16_correct wI_X16 (by decide) rfl (by decide +kernel) rfl rfl dX16_hour_220 ⟨by decide, by decide⟩ (Nat.le_of_ble_eq_true rfl) (⟨Nat.le_of_ble_eq_true rfl, Nat.le_of_ble_eq_true rfl⟩) (fun v6 U4 H locs hp w => ?_)
                    obtain ⟨rfl, nc5, h, hkU4, hQ, hE, -⟩ := hp
                    have hK_U4 : Kq hvH hiHr hrQ S U4 := hK.tr (q12 hkU4)
                    have hK := hK_U4
                    have e257 : mI U4 257 0 = mI S 257 0 := (hkU4.I (f := 257) (i := 0) rfl).trans e257
                    have h40 : ¬ vV U4 40 0 := by rw [show vV U4 40 0 = vV T163 40 0 from hkU4.V rfl]; exact h40
                    refine lv_aload_n hx hb dX16_hour_223 rfl (lv_at hl 1 rfl) ?_
                    refine rE0 ((rfl).trans ((hK_U4.G (t := 16) (i := 0) rfl)).symm) ?_
                    refine g_16_9 (S := U4) (x := (some (gG U4 17 9))) X w h.v wF_X16_26 (h.f_ta) dX16_hour_224 ?_
                    refine cF (S := U4) (t := 17) (nA := 0) (As := []) (rest := []) X w hl h.l_ta.1 (m_size G U4 ea 9 nt h.l_ta) wY_Jx4a65c_size_8abf5 wM_X16_73 wIn_Jx4a65c_size_8abf5 wSe_Jx4a65c_Jx4a65c_size_8abf5_of_java_util_List_size___I wI_Jx4a65c fw_size (by decide) rfl (by decide +kernel) rfl rfl dX16_hour_227 ⟨by decide, by decide⟩ (Nat.le_of_ble_eq_true rfl) (⟨(show 6 + 0 ≤ 12 by omega), (show 209 + 0 ≤ 455 by omega)⟩) (fun v7 S1 H locs hp w => ?_)
                    obtain ⟨rfl, rfl⟩ := hp
                    refine nwI (S := U4) (atype := .boolean) (ty := .boolean) (n := nt) X w 40 0 h40 (by decide) rfl rfl (Or.inr (Or.inl ⟨rfl, rfl⟩)) wA_boolean rfl (by have := h.b_ta; omega) dX16_hour_232 (Nat.le_of_ble_eq_true rfl) (by show 209 + nt ≤ 455; have := h.b_ta; omega) (fun q4 S2 H hS2 w => ?_)
                    subst hS2
                    have h : RI ea (sArr U4 40 0 q4 nt) ns nj nm nt nr nc5 := h.arr (by decide)
                    have hK : Kq hvH hiHr hrQ S (sArr U4 40 0 q4 nt) := hK.arr rfl
                    have hQ : QI s0 (sArr U4 40 0 q4 nt) nc5 nt := ⟨hQ.1, hQ.2⟩
                    have h4V : vV (sArr U4 40 0 q4 nt) 40 0 := Or.inr ⟨rfl, rfl⟩
                    have h4N : mN (sArr U4 40 0 q4 nt) 40 0 = nt := rfl
                    have e257 : mI (sArr U4 40 0 q4 nt) 257 0 = mI S 257 0 := e257
                    refine W.widen (k := 7) (n := 249) (Nat.le_refl _) (show 209 + nt ≤ 249 by have := h.b_ta; omega) ?_
                    have hE : RF s0 (sArr U4 40 0 q4 nt) (coA (stL (tiL (recL A ns nj g nt) (g % 24) nm) g nt) nr) nc5 nt := hE.oArr rfl (by decide)
                    have hpas : ∀ k, k < nt → mI (sArr U4 40 0 q4 nt) 247 k = 0 → mA (sArr U4 40 0 q4 nt) 40 0 k = 0 := fun k _ _ => congrFun (show mA (sArr U4 40 0 q4 nt) 40 0 = (fun _ => 0) from up2_s (mA U4) 40 0 (fun _ => 0)) k
                    refine lv_astore_n (lv' := [(1, .ref (gG (sArr U4 40 0 q4 nt) 40 0)), (0, .ref (gG S 16 0))]) hx hb dX16_hour_234 rfl hl (by decide) rfl (fun ls hl => ?_)
                    refine lv_aload_n hx hb dX16_hour_235 rfl (lv_at hl 1 rfl) ?_
                    refine lv_aload_n hx hb dX16_hour_236 rfl (lv_at hl 1 rfl) ?_
                    refine rE0 ((rfl).trans ((hK_U4.G (t := 16) (i := 0) rfl)).symm) ?_
                    refine g_16_2 (S := (sArr U4 40 0 q4 nt)) (x := (mI (coA (stL (tiL (recL A ns nj g nt) (g % 24) nm) g nt) nr) 258 0)) X w h.v wF_X16_7 (hE.1 258 rfl 0) dX16_hour_237 ?_
                    refine lv_aload_n hx hb dX16_hour_240 rfl (lv_at hl 0 rfl) ?_
                    refine rE2 ((rfl).trans ((hK_U4.G (t := 16) (i := 0) rfl)).symm) ?_
                    refine cV (S := (sArr U4 40 0 q4 nt)) (nA := 2) (As := [.int (mI (coA (stL (tiL (recL A ns nj g nt) (g % 24) nm) g nt) nr) 258 0), .ref (gG (sArr U4 40 0 q4 nt) 40 0)]) (rest := []) X w hl h.v (r_X16_next G (sArr U4 40 0 q4 nt) ea ns nj nm nt nr nc5 h (mI (coA (stL (tiL (recL A ns nj g nt) (g % 24) nm) g nt) nr) 258 0) h4V h4N) wY_X16_next wM_X16_217 wIn_X16_next wSe_X16_X16_next wI_X16 (by decide) rfl (by decide +kernel) rfl rfl dX16_hour_241 ⟨by decide, by decide⟩ (Nat.le_of_ble_eq_true rfl) (⟨(show 7 + 0 ≤ 12 by omega), (show 249 + 0 ≤ 455 by omega)⟩) (fun v8 S1 H locs hp w => ?_)
                    obtain ⟨rfl, rfl⟩ := hp
                    refine lv_topi (fun z9 ez9 => ?_)
                    obtain rfl : z9 = (rNx (coA (stL (tiL (recL A ns nj g nt) (g % 24) nm) g nt) nr) (nxP (coA (stL (tiL (recL A ns nj g nt) (g % 24) nm) g nt) nr) g (mI (coA (stL (tiL (recL A ns nj g nt) (g % 24) nm) g nt) nr) 258 0)) nt) := ez9.trans (nx_conv hE (e257.trans hg) hpas)
                    refine lv_istore_n (lv' := [(2, .int (rNx (coA (stL (tiL (recL A ns nj g nt) (g % 24) nm) g nt) nr) (nxP (coA (stL (tiL (recL A ns nj g nt) (g % 24) nm) g nt) nr) g (mI (coA (stL (tiL (recL A ns nj g nt) (g % 24) nm) g nt) nr) 258 0)) nt)), (1, .ref (gG (sArr U4 40 0 q4 nt) 40 0)), (0, .ref (gG S 16 0))]) hx hb dX16_hour_244 rfl hl (by decide) rfl (fun ls hl => ?_)
                    have L245 : ∀ (N : Nat) (Q : HS) (x5 : Int32) (T245 : HS) (nc245 : Nat) (H : Heap) (locs : List Loc) (ls : Array Slot), wq T245 nt < N → (x5 = rNx Q (nxP Q g (mI Q 258 0)) nt) → (SeQ (coA (stL (tiL (recL A ns nj g nt) (g % 24) nm) g nt) nr) Q nt nr g) → (RF s0 T245 Q nc245 nt) → (RI ea T245 ns nj nm nt nr nc245) → (Kq hvH hiHr hrQ S T245) → (QI s0 T245 nc245 nt) → (mI T245 257 0 = mI S 257 0) → (gG T245 40 0 = q4) → (vV T245 40 0) → (mN T245 40 0 = nt) → (∀ k, k < nt → mI T245 247 k = 0 → mA T245 40 0 k = 0) → Wd s0 D cy T245 s.heap H locs → lv_has ls 4 [(0, .ref (gG S 16 0)), (1, .ref (gG (sArr U4 40 0 q4 nt) 40 0)), (2, .int x5)] → W p l e rm_r_X16_hour s m ([.ref (gG S 16 0)] : List Value).toArray below meth c H locs (7 + gC nc245) (249 + gL nc245) (MQ below (GQ s0 D cy (fun v S' => none = v ∧ ∃ nq', RI ea S' ns nj nm nt nr nq' ∧ Kq hvH hiHr hrQ S S' ∧ QI s0 S' nq' nt ∧ RF s0 S' (hoA A ns nj nm nt nr g) nq' nt ∧ ¬ vV S' 40 0 ∧ mI S' 257 0 = nI (g + 1))) ([.ref (gG S 16 0)] : List Value).toArray s rm_r_X16_hour.cells rm_r_X16_hour.slots (A0 s0)) (F0 m 245 ls []) := by
                      intro N
                      induction N with
                      | zero => intros; omega
                      | succ N ih245 =>
                        intro Q x5 T245 nc245 H locs ls hmu hnx hSQ hE h hK_T245 hQ e257 e40 h4V h4N hpas w hl
                        have hK := hK_T245
                        have hgl := gCL nc245 (Nat.le_trans hQ.le h.b_ta)
                        refine lv_iload_n hx hb dX16_hour_245 rfl (lv_at hl 2 rfl) ?_
                        refine lv_iconst (v := (-1)) hx hb dX16_hour_246 (by decide) ?_
                        refine lv_icmp_eq (tgt := 272) hx hb dX16_hour_247 (by decide) (fun hbm => ?_) (fun hbm => ?_)
                        · have hE : RF s0 T245 (hoB A ns nj nm nt nr g) nc245 nt := by rw [show hoB A ns nj nm nt nr g = Q from hSQ.done (hnx.symm.trans hbm)]; exact hE
                          refine lv_aload_n hx hb dX16_hour_272 rfl (lv_at hl 0 rfl) ?_
                          refine lv_dup hx hb dX16_hour_273 rfl ?_
                          refine rE0 ((rfl).trans ((hK_T245.G (t := 16) (i := 0) rfl)).symm) ?_
                          refine g_16_1 (S := T245) (x := (nI g)) X w h.v wF_X16_125 (e257.trans hg) dX16_hour_274 ?_
                          refine lv_iconst (v := 1) hx hb dX16_hour_277 (by decide) ?_
                          refine lv_iadd hx hb dX16_hour_278 ?_
                          refine lv_topi (fun z10 ez10 => ?_)
                          obtain rfl : z10 = nI (g + 1) := ez10.trans (nI_1 _)
                          refine rE1 ((rfl).trans ((hK_T245.G (t := 16) (i := 0) rfl)).symm) ?_
                          refine p_16_1 (S := T245) (x := (nI (g + 1))) X w h.v wF_X16_125 dX16_hour_279 (fun H locs w => ?_)
                          have h : RI ea (sI T245 257 0 (nI (g + 1))) ns nj nm nt nr nc245 := h.s257 (by omega)
                          have hK : Kq hvH hiHr hrQ S (sI T245 257 0 (nI (g + 1))) := hK.sI rfl
                          have hE : RF s0 (sI T245 257 0 (nI (g + 1))) (sI (hoB A ns nj nm nt nr g) 257 0 (nI (g + 1))) nc245 nt := hE.bI
                          refine lv_aload_n hx hb dX16_hour_282 rfl (lv_at hl 0 rfl) ?_
                          refine rE0 ((rfl).trans ((hK_T245.G (t := 16) (i := 0) rfl)).symm) ?_
                          refine g_16_1 (S := (sI T245 257 0 (nI (g + 1)))) (x := (nI (g + 1))) X w h.v wF_X16_125 (rfl) dX16_hour_283 ?_
                          refine lv_bipush (v := 24) hx hb dX16_hour_286 (by decide) ?_
                          refine lv_irem hx hb dX16_hour_288 (by decide) ?_
                          refine lv_topi (fun z11 ez11 => ?_)
                          obtain rfl : z11 = nI ((g + 1) % 24) := ez11.trans (pk_rem (d := 24) (by omega) (by decide) (by decide))
                          refine lv_if_ne (tgt := 299) hx hb dX16_hour_289 (by decide) (fun hzz => ?_) (fun hzz => ?_)
                          · have w := w.d40
                            have h : RI ea (dr40 (sI T245 257 0 (nI (g + 1)))) ns nj nm nt nr nc245 := h.d40
                            have hK : Kq hvH hiHr hrQ S (dr40 (sI T245 257 0 (nI (g + 1)))) := hK.d40
                            have hE : RF s0 (dr40 (sI T245 257 0 (nI (g + 1)))) (sI (hoB A ns nj nm nt nr g) 257 0 (nI (g + 1))) nc245 nt := hE
                            exact rV X w rfl dX16_hour_299 (show 7 + gC nc245 ≤ 12 by omega) (show 249 + gL nc245 ≤ 455 by omega) (⟨rfl, _, h, hK, ⟨hQ.1, hQ.2⟩, by first | (rw [hoA_f hzz]; exact hE) | (rw [hoA_t hzz]; exact hE), fun v => v.2 ⟨rfl, rfl⟩, rfl⟩)
                          · refine lv_aload_n hx hb dX16_hour_292 rfl (lv_at hl 0 rfl) ?_
                            refine lv_sipush (v := 600) hx hb dX16_hour_293 (by decide) ?_
                            refine rE1 ((rfl).trans ((hK_T245.G (t := 16) (i := 0) rfl)).symm) ?_
                            refine p_16_2 (S := (sI T245 257 0 (nI (g + 1)))) (x := 600) X w h.v wF_X16_7 dX16_hour_296 (fun H locs w => ?_)
                            have h : RI ea (sI (sI T245 257 0 (nI (g + 1))) 258 0 600) ns nj nm nt nr nc245 := h.stI (by decide)
                            have hK : Kq hvH hiHr hrQ S (sI (sI T245 257 0 (nI (g + 1))) 258 0 600) := hK.sI rfl
                            have hE : RF s0 (sI (sI T245 257 0 (nI (g + 1))) 258 0 600) (sI (sI (hoB A ns nj nm nt nr g) 257 0 (nI (g + 1))) 258 0 600) nc245 nt := hE.bI
                            have w := w.d40
                            have h : RI ea (dr40 (sI (sI T245 257 0 (nI (g + 1))) 258 0 600)) ns nj nm nt nr nc245 := h.d40
                            have hK : Kq hvH hiHr hrQ S (dr40 (sI (sI T245 257 0 (nI (g + 1))) 258 0 600)) := hK.d40
                            have hE : RF s0 (dr40 (sI (sI T245 257 0 (nI (g + 1))) 258 0 600)) (sI (sI (hoB A ns nj nm nt nr g) 257 0 (nI (g + 1))) 258 0 600) nc245 nt := hE
                            exact rV X w rfl dX16_hour_299 (show 7 + gC nc245 ≤ 12 by omega) (show 249 + gL nc245 ≤ 455 by omega) (⟨rfl, _, h, hK, ⟨hQ.1, hQ.2⟩, by first | (rw [hoA_f hzz]; exact hE) | (rw [hoA_t hzz]; exact hE), fun v => v.2 ⟨rfl, rfl⟩, rfl⟩)
                        · obtain ⟨b, hlb, hbe, hbP⟩ := (rNx_in (A := Q) (P := nxP Q g (mI Q 258 0)) nt (by have := h.b_ta; omega)).resolve_left (fun z => hbm (hnx.trans z))
                          obtain rfl : x5 = nI b := hnx.trans hbe
                          have hsb : mI T245 247 b = 0 := (hE.1 247 rfl b).trans (nxP_e hbP).1
                          refine lv_aload_n hx hb dX16_hour_250 rfl (lv_at hl 0 rfl) ?_
                          refine lv_iload_n hx hb dX16_hour_251 rfl (lv_at hl 2 rfl) ?_
                          refine rE1 ((rfl).trans ((hK_T245.G (t := 16) (i := 0) rfl)).symm) ?_
                          by_cases hyes : rWrong 1 (mI T245 246 b) (mI T245 245 b) (mI T245 248 b) = true ∧ mI T245 253 b = 0
                          · have hgl2 : gC nc245 + addC nc245 ≤ 5 ∧ gL nc245 + addL nc245 ≤ 206 := gCL (nc245 + 1) (hq40y hQ h.b_ta hlb hyes.2)
                            refine cV (S := T245) (nA := 1) (As := [.int (nI b)]) (rest := []) X w hl h.v (r_X16_send_y G T245 ea ns nj nm nt nr nc245 h Q hE g (e257.trans hg) (by omega) hea b hlb hQ hyes) wY_X16_send wM_X16_221 wIn_X16_send wSe_X16_X16_send wI_X16 (by decide) rfl (by decide +kernel) rfl rfl dX16_hour_252 ⟨Nat.le_of_ble_eq_true rfl, Nat.le_of_ble_eq_true rfl⟩ (Nat.le_of_ble_eq_true rfl) (⟨(show 7 + gC nc245 + addC nc245 ≤ 12 by have := (gCL (nc245 + 1) (hq40y hQ h.b_ta hlb hyes.2)).1; have e : gC (nc245 + 1) = gC nc245 + addC nc245 := rfl; omega), (show 249 + gL nc245 + addL nc245 ≤ 455 by have := (gCL (nc245 + 1) (hq40y hQ h.b_ta hlb hyes.2)).2; have e : gL (nc245 + 1) = gL nc245 + addL nc245 := rfl; omega)⟩) (fun v13 U12 H locs hp w => ?_)
                            obtain ⟨rfl, h, hkU12, hQ, hE, e247⟩ := hp
                            have hK_U12 : Kq hvH hiHr hrQ S U12 := hK.tr (q12 hkU12)
                            have hK := hK_U12
                            have e257 : mI U12 257 0 = mI S 257 0 := (hkU12.I (f := 257) (i := 0) rfl).trans e257
                            have h4V : vV U12 40 0 := by rw [show vV U12 40 0 = vV T245 40 0 from hkU12.V rfl]; exact h4V
                            have h4N : mN U12 40 0 = nt := (hkU12.1 40 0 rfl).2.2.1.trans h4N
                            have e40 : gG U12 40 0 = q4 := (hkU12.G (t := 40) (i := 0) rfl).trans e40
                            have hdec : wq U12 nt + 1 ≤ wq T245 nt := wq_s hlb hsb e247
                            have hpas : ∀ k, k < nt → ¬ k = b → mI U12 247 k = 0 → mA U12 40 0 k = 0 := fun k hk9 e z => by
                              rw [show mA U12 40 0 = mA T245 40 0 from (hkU12.1 40 0 rfl).2.2.2.2]
                              rw [e247 k, if_neg e] at z; exact hpas k hk9 z
                            refine lv_aload_n hx hb dX16_hour_255 rfl (lv_at hl 1 rfl) ?_
                            refine lv_iload_n hx hb dX16_hour_256 rfl (lv_at hl 2 rfl) ?_
                            refine lv_iconst (v := 1) hx hb dX16_hour_257 (by decide) ?_
                            refine rE2 ((show gG (sArr U4 40 0 q4 nt) 40 0 = q4 from rfl).trans e40.symm) ?_
                            refine aStZ (S := U12) (t := 40) X w h4V (by decide) rfl rfl (Or.inr rfl) (by rw [h4N]; exact nI_vp hlb (by have := h.b_ta; omega)) dX16_hour_258 (fun H locs w => ?_)
                            have h : RI ea (sA U12 40 0 (upd (mA U12 40 0) (nI b).toNatClampNeg 1)) ns nj nm nt nr (nc245 + 1) := h.stA (by decide)
                            have hK : Kq hvH hiHr hrQ S (sA U12 40 0 (upd (mA U12 40 0) (nI b).toNatClampNeg 1)) := hK.sA rfl
                            have hdec : wq (sA U12 40 0 (upd (mA U12 40 0) (nI b).toNatClampNeg 1)) nt + 1 ≤ wq T245 nt := hdec
                            have hE : RF s0 (sA U12 40 0 (upd (mA U12 40 0) (nI b).toNatClampNeg 1)) (seT Q nr g b) (nc245 + 1) nt := hE.oA rfl
                            have hpas : ∀ k, k < nt → mI (sA U12 40 0 (upd (mA U12 40 0) (nI b).toNatClampNeg 1)) 247 k = 0 → mA (sA U12 40 0 (upd (mA U12 40 0) (nI b).toNatClampNeg 1)) 40 0 k = 0 := fun k hk9 z => by
                              have e9 : ¬ k = b := fun y => by
                                have z2 : mI U12 247 k = 0 := z
                                rw [e247 k, if_pos y] at z2; exact absurd z2 (by decide)
                              rw [show mA (sA U12 40 0 (upd (mA U12 40 0) (nI b).toNatClampNeg 1)) 40 0 = upd (mA U12 40 0) (nI b).toNatClampNeg 1 from sA_s, upd_o (by rw [nI_clamp (by have := h.b_ta; omega)]; exact e9)]
                              exact hpas k hk9 e9 z
                            refine lv_aload_n hx hb dX16_hour_259 rfl (lv_at hl 0 rfl) ?_
                            refine lv_aload_n hx hb dX16_hour_260 rfl (lv_at hl 0 rfl) ?_
                            refine rE0 ((rfl).trans ((hK_U12.G (t := 16) (i := 0) rfl)).symm) ?_
                            refine g_16_2 (S := (sA U12 40 0 (upd (mA U12 40 0) (nI b).toNatClampNeg 1))) (x := (mI (seT Q nr g b) 258 0)) X w h.v wF_X16_7 (hE.1 258 rfl 0) dX16_hour_261 ?_
                            refine lv_aload_n hx hb dX16_hour_264 rfl (lv_at hl 1 rfl) ?_
                            refine rE0 ((show gG (sArr U4 40 0 q4 nt) 40 0 = q4 from rfl).trans e40.symm) ?_
                            refine rE2 ((rfl).trans ((hK_U12.G (t := 16) (i := 0) rfl)).symm) ?_
                            refine cV (S := (sA U12 40 0 (upd (mA U12 40 0) (nI b).toNatClampNeg 1))) (nA := 2) (As := [.int (mI (seT Q nr g b) 258 0), .ref (gG (sA U12 40 0 (upd (mA U12 40 0) (nI b).toNatClampNeg 1)) 40 0)]) (rest := []) X w hl h.v (r_X16_next G (sA U12 40 0 (upd (mA U12 40 0) (nI b).toNatClampNeg 1)) ea ns nj nm nt nr (nc245 + 1) h (mI (seT Q nr g b) 258 0) h4V h4N) wY_X16_next wM_X16_217 wIn_X16_next wSe_X16_X16_next wI_X16 (by decide) rfl (by decide +kernel) rfl rfl dX16_hour_265 ⟨by decide, by decide⟩ (Nat.le_of_ble_eq_true rfl) (⟨(show 7 + gC nc245 + addC nc245 + 0 ≤ 12 by omega), (show 249 + gL nc245 + addL nc245 + 0 ≤ 455 by omega)⟩) (fun v14 S1 H locs hp w => ?_)
                            obtain ⟨rfl, rfl⟩ := hp
                            refine lv_topi (fun z15 ez15 => ?_)
                            obtain rfl : z15 = (rNx (seT Q nr g b) (nxP (seT Q nr g b) g (mI (seT Q nr g b) 258 0)) nt) := ez15.trans (nx_conv hE (e257.trans hg) hpas)
                            refine lv_istore_n (lv' := [(2, .int (rNx (seT Q nr g b) (nxP (seT Q nr g b) g (mI (seT Q nr g b) 258 0)) nt)), (0, .ref (gG S 16 0)), (1, .ref (gG (sArr U4 40 0 q4 nt) 40 0))]) hx hb dX16_hour_268 rfl hl (by decide) rfl (fun ls hl => ?_)
                            refine lv_goto (tgt := 245) hx hb dX16_hour_269 (by decide) ?_
                            refine W.widen (k := 7 + gC (nc245 + 1)) (n := 249 + gL (nc245 + 1)) (by first | exact Nat.le_refl _ | exact (show 7 + gC nc245 + addC nc245 ≤ 7 + (gC nc245 + addC nc245) by omega)) (by first | exact Nat.le_refl _ | exact (show 249 + gL nc245 + addL nc245 ≤ 249 + (gL nc245 + addL nc245) by omega)) ?_
                            exact ih245 (seT Q nr g b) (rNx (seT Q nr g b) (nxP (seT Q nr g b) g (mI (seT Q nr g b) 258 0)) nt) (sA U12 40 0 (upd (mA U12 40 0) (nI b).toNatClampNeg 1)) (nc245 + 1) _ _ _ (by omega) (rfl) (hSQ.nx hbe hlb h.b_ta hbP) (hE) (h) (hK) (hQ) (e257) (e40) (h4V) (h4N) (hpas) w (lv_sub hl [1, 2, 0] rfl)
                          · skip
                            refine cV (S := T245) (nA := 1) (As := [.int (nI b)]) (rest := []) X w hl h.v (r_X16_send_n G T245 ea ns nj nm nt nr nc245 h Q hE g (e257.trans hg) (by omega) hea b hlb hQ hyes) wY_X16_send wM_X16_221 wIn_X16_send wSe_X16_X16_send wI_X16 (by decide) rfl (by decide +kernel) rfl rfl dX16_hour_252 ⟨by decide, by decide⟩ (Nat.le_of_ble_eq_true rfl) (⟨(show 7 + gC nc245 + 0 ≤ 12 by omega), (show 249 + gL nc245 + 0 ≤ 455 by omega)⟩) (fun v17 U16 H locs hp w => ?_)
                            obtain ⟨rfl, h, hkU16, hQ, hE, e247⟩ := hp
                            have hK_U16 : Kq hvH hiHr hrQ S U16 := hK.tr (q12 hkU16)
                            have hK := hK_U16
                            have e257 : mI U16 257 0 = mI S 257 0 := (hkU16.I (f := 257) (i := 0) rfl).trans e257
                            have h4V : vV U16 40 0 := by rw [show vV U16 40 0 = vV T245 40 0 from hkU16.V rfl]; exact h4V
                            have h4N : mN U16 40 0 = nt := (hkU16.1 40 0 rfl).2.2.1.trans h4N
                            have e40 : gG U16 40 0 = q4 := (hkU16.G (t := 40) (i := 0) rfl).trans e40
                            have hdec : wq U16 nt + 1 ≤ wq T245 nt := wq_s hlb hsb e247
                            have hpas : ∀ k, k < nt → ¬ k = b → mI U16 247 k = 0 → mA U16 40 0 k = 0 := fun k hk9 e z => by
                              rw [show mA U16 40 0 = mA T245 40 0 from (hkU16.1 40 0 rfl).2.2.2.2]
                              rw [e247 k, if_neg e] at z; exact hpas k hk9 z
                            refine lv_aload_n hx hb dX16_hour_255 rfl (lv_at hl 1 rfl) ?_
                            refine lv_iload_n hx hb dX16_hour_256 rfl (lv_at hl 2 rfl) ?_
                            refine lv_iconst (v := 1) hx hb dX16_hour_257 (by decide) ?_
                            refine rE2 ((show gG (sArr U4 40 0 q4 nt) 40 0 = q4 from rfl).trans e40.symm) ?_
                            refine aStZ (S := U16) (t := 40) X w h4V (by decide) rfl rfl (Or.inr rfl) (by rw [h4N]; exact nI_vp hlb (by have := h.b_ta; omega)) dX16_hour_258 (fun H locs w => ?_)
                            have h : RI ea (sA U16 40 0 (upd (mA U16 40 0) (nI b).toNatClampNeg 1)) ns nj nm nt nr nc245 := h.stA (by decide)
                            have hK : Kq hvH hiHr hrQ S (sA U16 40 0 (upd (mA U16 40 0) (nI b).toNatClampNeg 1)) := hK.sA rfl
                            have hdec : wq (sA U16 40 0 (upd (mA U16 40 0) (nI b).toNatClampNeg 1)) nt + 1 ≤ wq T245 nt := hdec
                            have hE : RF s0 (sA U16 40 0 (upd (mA U16 40 0) (nI b).toNatClampNeg 1)) (seT Q nr g b) nc245 nt := hE.oA rfl
                            have hpas : ∀ k, k < nt → mI (sA U16 40 0 (upd (mA U16 40 0) (nI b).toNatClampNeg 1)) 247 k = 0 → mA (sA U16 40 0 (upd (mA U16 40 0) (nI b).toNatClampNeg 1)) 40 0 k = 0 := fun k hk9 z => by
                              have e9 : ¬ k = b := fun y => by
                                have z2 : mI U16 247 k = 0 := z
                                rw [e247 k, if_pos y] at z2; exact absurd z2 (by decide)
                              rw [show mA (sA U16 40 0 (upd (mA U16 40 0) (nI b).toNatClampNeg 1)) 40 0 = upd (mA U16 40 0) (nI b).toNatClampNeg 1 from sA_s, upd_o (by rw [nI_clamp (by have := h.b_ta; omega)]; exact e9)]
                              exact hpas k hk9 e9 z
                            refine lv_aload_n hx hb dX16_hour_259 rfl (lv_at hl 0 rfl) ?_
                            refine lv_aload_n hx hb dX16_hour_260 rfl (lv_at hl 0 rfl) ?_
                            refine rE0 ((rfl).trans ((hK_U16.G (t := 16) (i := 0) rfl)).symm) ?_
                            refine g_16_2 (S := (sA U16 40 0 (upd (mA U16 40 0) (nI b).toNatClampNeg 1))) (x := (mI (seT Q nr g b) 258 0)) X w h.v wF_X16_7 (hE.1 258 rfl 0) dX16_hour_261 ?_
                            refine lv_aload_n hx hb dX16_hour_264 rfl (lv_at hl 1 rfl) ?_
                            refine rE0 ((show gG (sArr U4 40 0 q4 nt) 40 0 = q4 from rfl).trans e40.symm) ?_
                            refine rE2 ((rfl).trans ((hK_U16.G (t := 16) (i := 0) rfl)).symm) ?_
                            refine cV (S := (sA U16 40 0 (upd (mA U16 40 0) (nI b).toNatClampNeg 1))) (nA := 2) (As := [.int (mI (seT Q nr g b) 258 0), .ref (gG (sA U16 40 0 (upd (mA U16 40 0) (nI b).toNatClampNeg 1)) 40 0)]) (rest := []) X w hl h.v (r_X16_next G (sA U16 40 0 (upd (mA U16 40 0) (nI b).toNatClampNeg 1)) ea ns nj nm nt nr nc245 h (mI (seT Q nr g b) 258 0) h4V h4N) wY_X16_next wM_X16_217 wIn_X16_next wSe_X16_X16_next wI_X16 (by decide) rfl (by decide +kernel) rfl rfl dX16_hour_265 ⟨by decide, by decide⟩ (Nat.le_of_ble_eq_true rfl) (⟨(show 7 + gC nc245 + 0 ≤ 12 by omega), (show 249 + gL nc245 + 0 ≤ 455 by omega)⟩) (fun v18 S1 H locs hp w => ?_)
                            obtain ⟨rfl, rfl⟩ := hp
                            refine lv_topi (fun z19 ez19 => ?_)
                            obtain rfl : z19 = (rNx (seT Q nr g b) (nxP (seT Q nr g b) g (mI (seT Q nr g b) 258 0)) nt) := ez19.trans (nx_conv hE (e257.trans hg) hpas)
                            refine lv_istore_n (lv' := [(2, .int (rNx (seT Q nr g b) (nxP (seT Q nr g b) g (mI (seT Q nr g b) 258 0)) nt)), (0, .ref (gG S 16 0)), (1, .ref (gG (sArr U4 40 0 q4 nt) 40 0))]) hx hb dX16_hour_268 rfl hl (by decide) rfl (fun ls hl => ?_)
                            refine lv_goto (tgt := 245) hx hb dX16_hour_269 (by decide) ?_
                            refine W.widen (k := 7 + gC nc245) (n := 249 + gL nc245) (by first | exact Nat.le_refl _ | exact (show 7 + gC nc245 + addC nc245 ≤ 7 + (gC nc245 + addC nc245) by omega)) (by first | exact Nat.le_refl _ | exact (show 249 + gL nc245 + addL nc245 ≤ 249 + (gL nc245 + addL nc245) by omega)) ?_
                            exact ih245 (seT Q nr g b) (rNx (seT Q nr g b) (nxP (seT Q nr g b) g (mI (seT Q nr g b) 258 0)) nt) (sA U16 40 0 (upd (mA U16 40 0) (nI b).toNatClampNeg 1)) nc245 _ _ _ (by omega) (rfl) (hSQ.nx hbe hlb h.b_ta hbP) (hE) (h) (hK) (hQ) (e257) (e40) (h4V) (h4N) (hpas) w (lv_sub hl [1, 2, 0] rfl)
                    refine W.widen (k := 7 + gC nc5) (n := 249 + gL nc5) (Nat.le_add_right _ _) (Nat.le_add_right _ _) ?_
                    exact L245 _ (coA (stL (tiL (recL A ns nj g nt) (g % 24) nm) g nt) nr) (rNx (coA (stL (tiL (recL A ns nj g nt) (g % 24) nm) g nt) nr) (nxP (coA (stL (tiL (recL A ns nj g nt) (g % 24) nm) g nt) nr) g (mI (coA (stL (tiL (recL A ns nj g nt) (g % 24) nm) g nt) nr) 258 0)) nt) (sArr U4 40 0 q4 nt) nc5 _ _ _ (Nat.lt_succ_self _) (rfl) (SeQ.rf) (hE) (h) (hK) (hQ) (e257) (rfl) (h4V) (h4N) (hpas) w (lv_sub hl [2, 1, 0] rfl)
                  · have hlt_k163 : k163 < nt := by
                      have hb1 := h.b_ta
                      exact Nat.lt_of_not_le (fun z => hc_k163 ((nI_leI (a := nt) (b := k163) (by omega) (by omega)).mpr z))
                    refine lv_aload_n hx hb dX16_hour_176 rfl (lv_at hl 1 rfl) ?_
                    refine lv_aload_n hx hb dX16_hour_177 rfl (lv_at hl 1 rfl) ?_
                    refine rE0 ((rfl).trans ((hK_T163.G (t := 16) (i := 0) rfl)).symm) ?_
                    refine g_16_9 (S := T163) (x := (some (gG T163 17 9))) X w h.v wF_X16_26 (h.f_ta) dX16_hour_178 ?_
                    refine lv_iload_n hx hb dX16_hour_181 rfl (lv_at hl 0 rfl) ?_
                    refine cF (S := T163) (t := 17) (nA := 1) (As := [.int (nI k163)]) (rest := [.ref (gG S 16 0)]) X w hl h.l_ta.1 (m_get G T163 ea 9 k163 nt (some (gG T163 15 k163)) h.l_ta hlt_k163 (h.e_ta k163 hlt_k163).1) wY_Jx4a65c_get_915e3 wM_X16_46 wIn_Jx4a65c_get_915e3 wSe_Jx4a65c_Jx4a65c_get_915e3_of_java_util_List_get__I_Ljava_lang_Object_ wI_Jx4a65c fw_get (by decide) rfl (by decide +kernel) rfl rfl dX16_hour_182 ⟨by decide, by decide⟩ (Nat.le_of_ble_eq_true rfl) (⟨Nat.le_of_ble_eq_true rfl, Nat.le_of_ble_eq_true rfl⟩) (fun v20 S1 H locs hp w => ?_)
                    obtain ⟨rfl, rfl⟩ := hp
                    refine ckC (S := T163) (t := 15) X w (h.e_ta k163 hlt_k163).2 (by decide) rfl wC_X16_105 dX16_hour_187 ?_
                    refine rE1 ((rfl).trans ((hK_T163.G (t := 16) (i := 0) rfl)).symm) ?_
                    refine cV (S := T163) (nA := 1) (As := [.ref (gG T163 15 k163)]) (rest := []) X w hl h.v (m_X16_isStale G T163 ea ns nj nm nt nr nq h k163 hlt_k163) wY_X16_isStale wM_X16_147 wIn_X16_isStale wSe_X16_X16_isStale wI_X16 (by decide) rfl (by decide +kernel) rfl rfl dX16_hour_190 ⟨by decide, by decide⟩ (Nat.le_of_ble_eq_true rfl) (⟨Nat.le_of_ble_eq_true rfl, Nat.le_of_ble_eq_true rfl⟩) (fun v21 S1 H locs hp w => ?_)
                    obtain ⟨rfl, rfl⟩ := hp
                    refine lv_topi (fun z22 ez22 => ?_)
                    obtain rfl : z22 = (b2i (stG (stL (tiL (recL A ns nj g nt) (g % 24) nm) g k163) g k163)) := ez22.trans (congrArg b2i (hE.stale (e257.trans hg) k163))
                    refine lv_if_eq (tgt := 213) hx hb dX16_hour_193 (by decide) (fun hst9 => ?_) (fun hst9 => ?_)
                    · refine lv_iinc (v := nI (k163 + 1)) (lv' := [(1, .int (nI (k163 + 1))), (0, .ref (gG S 16 0))]) hx hb dX16_hour_213 hl (k := 0) rfl (nI_1 _) (by decide) rfl (fun ls hl => ?_)
                      refine lv_goto (tgt := 163) hx hb dX16_hour_216 (by decide) ?_
                      have hE : RF s0 T163 (stL (tiL (recL A ns nj g nt) (g % 24) nm) g (k163 + 1)) nq nt := by first | (rw [stL_f (b2i_f hst9)]; exact hE) | (rw [stL_t (b2i_t hst9)]; exact hE)
                      exact ih163 (k163 + 1) T163 _ _ _ (by omega) (hlt_k163) (hE) (h) (hK) (hQ) (e257) (h40) w (lv_sub hl [0, 1] rfl)
                    · refine lv_aload_n hx hb dX16_hour_196 rfl (lv_at hl 1 rfl) ?_
                      refine rE0 ((rfl).trans ((hK_T163.G (t := 16) (i := 0) rfl)).symm) ?_
                      refine g_16_9 (S := T163) (x := (some (gG T163 17 9))) X w h.v wF_X16_26 (h.f_ta) dX16_hour_197 ?_
                      refine lv_iload_n hx hb dX16_hour_200 rfl (lv_at hl 0 rfl) ?_
                      refine cF (S := T163) (t := 17) (nA := 1) (As := [.int (nI k163)]) (rest := []) X w hl h.l_ta.1 (m_get G T163 ea 9 k163 nt (some (gG T163 15 k163)) h.l_ta hlt_k163 (h.e_ta k163 hlt_k163).1) wY_Jx4a65c_get_915e3 wM_X16_46 wIn_Jx4a65c_get_915e3 wSe_Jx4a65c_Jx4a65c_get_915e3_of_java_util_List_get__I_Ljava_lang_Object_ wI_Jx4a65c fw_get (by decide) rfl (by decide +kernel) rfl rfl dX16_hour_201 ⟨by decide, by decide⟩ (Nat.le_of_ble_eq_true rfl) (⟨Nat.le_of_ble_eq_true rfl, Nat.le_of_ble_eq_true rfl⟩) (fun v23 S1 H locs hp w => ?_)
                      obtain ⟨rfl, rfl⟩ := hp
                      refine ckC (S := T163) (t := 15) X w (h.e_ta k163 hlt_k163).2 (by decide) rfl wC_X16_105 dX16_hour_206 ?_
                      refine lv_iconst (v := 2) hx hb dX16_hour_209 (by decide) ?_
                      refine p_15_7 (S := T163) (x := 2) X w (h.e_ta k163 hlt_k163).2 wF_X16_144 dX16_hour_210 (fun H locs w => ?_)
                      have h : RI ea (sI T163 247 k163 2) ns nj nm nt nr nq := h.s247 ⟨2, by decide, rfl⟩
                      have hK : Kq hvH hiHr hrQ S (sI T163 247 k163 2) := hK.sI rfl
                      have hE : RF s0 (sI T163 247 k163 2) (sI (stL (tiL (recL A ns nj g nt) (g % 24) nm) g k163) 247 k163 2) nq nt := hE.bI
                      refine lv_iinc (v := nI (k163 + 1)) (lv' := [(1, .int (nI (k163 + 1))), (0, .ref (gG S 16 0))]) hx hb dX16_hour_213 hl (k := 0) rfl (nI_1 _) (by decide) rfl (fun ls hl => ?_)
                      refine lv_goto (tgt := 163) hx hb dX16_hour_216 (by decide) ?_
                      have hE : RF s0 (sI T163 247 k163 2) (stL (tiL (recL A ns nj g nt) (g % 24) nm) g (k163 + 1)) nq nt := by first | (rw [stL_f (b2i_f hst9)]; exact hE) | (rw [stL_t (b2i_t hst9)]; exact hE)
                      exact ih163 (k163 + 1) (sI T163 247 k163 2) _ _ _ (by omega) (hlt_k163) (hE) (h) (hK) (hQ) (e257) (h40) w (lv_sub hl [0, 1] rfl)
              exact L163 _ 0 T63 _ _ _ (Nat.lt_succ_self _) (Nat.zero_le _) (hE) (h) (hK) (hQ) (e257) (h40) w (lv_sub hl [0, 1] rfl)
            · have hlt_k63 : k63 < nm := by
                have hb1 := h.b_mo
                exact Nat.lt_of_not_le (fun z => hc_k63 ((nI_leI (a := nm) (b := k63) (by omega) (by omega)).mpr z))
              refine lv_aload_n hx hb dX16_hour_76 rfl (lv_at hl 1 rfl) ?_
              refine lv_iload_n hx hb dX16_hour_77 rfl (lv_at hl 0 rfl) ?_
              refine lv_aload_n hx hb dX16_hour_78 rfl (lv_at hl 1 rfl) ?_
              refine rE0 ((rfl).trans ((hK_T63.G (t := 16) (i := 0) rfl)).symm) ?_
              refine g_16_1 (S := T63) (x := (nI g)) X w h.v wF_X16_125 (e257.trans hg) dX16_hour_79 ?_
              refine lv_bipush (v := 24) hx hb dX16_hour_82 (by decide) ?_
              refine lv_irem hx hb dX16_hour_84 (by decide) ?_
              refine lv_topi (fun z24 ez24 => ?_)
              obtain rfl : z24 = nI (g % 24) := ez24.trans (pk_rem (d := 24) (by omega) (by decide) (by decide))
              refine rE2 ((rfl).trans ((hK_T63.G (t := 16) (i := 0) rfl)).symm) ?_
              refine cV (S := T63) (nA := 2) (As := [.int (nI k63), .int (nI (g % 24))]) (rest := []) X w hl h.v (m_X16_setOf G T63 ea ns nj nm nt nr nq h (nI k63) (g % 24) (Nat.mod_lt _ (by decide))) wY_X16_setOf wM_X16_208 wIn_X16_setOf wSe_X16_X16_setOf wI_X16 (by decide) rfl (by decide +kernel) rfl rfl dX16_hour_85 ⟨by decide, by decide⟩ (Nat.le_of_ble_eq_true rfl) (⟨Nat.le_of_ble_eq_true rfl, Nat.le_of_ble_eq_true rfl⟩) (fun v25 S1 H locs hp w => ?_)
              obtain ⟨rfl, rfl⟩ := hp
              refine lv_topi (fun z26 ez26 => ?_)
              obtain rfl : z26 = (rSetOf (recL A ns nj g nt) (g % 24) (nI k63)) := ez26.trans ((hE.setOf _ _).trans (rSetOf_pic (km_tiL k63)))
              refine lv_iconst (v := (-1)) hx hb dX16_hour_88 (by decide) ?_
              refine lv_icmp_eq (tgt := 96) hx hb dX16_hour_89 (by decide) (fun hse => ?_) (fun hse => ?_)
              · refine lv_iconst (v := 0) hx hb dX16_hour_96 (by decide) ?_
                refine lv_istore_n (lv' := [(2, .int 0), (1, .int (nI k63)), (0, .ref (gG S 16 0))]) hx hb dX16_hour_97 rfl hl (by decide) rfl (fun ls hl => ?_)
                refine lv_aload_n hx hb dX16_hour_98 rfl (lv_at hl 2 rfl) ?_
                refine rE0 ((rfl).trans ((hK_T63.G (t := 16) (i := 0) rfl)).symm) ?_
                refine g_16_8 (S := T63) (x := (some (gG T63 17 8))) X w h.v wF_X16_23 (h.f_mo) dX16_hour_99 ?_
                refine lv_iload_n hx hb dX16_hour_102 rfl (lv_at hl 1 rfl) ?_
                refine cF (S := T63) (t := 17) (nA := 1) (As := [.int (nI k63)]) (rest := []) X w hl h.l_mo.1 (m_get G T63 ea 8 k63 nm (some (gG T63 12 k63)) h.l_mo hlt_k63 (h.e_mo k63 hlt_k63).1) wY_Jx4a65c_get_915e3 wM_X16_46 wIn_Jx4a65c_get_915e3 wSe_Jx4a65c_Jx4a65c_get_915e3_of_java_util_List_get__I_Ljava_lang_Object_ wI_Jx4a65c fw_get (by decide) rfl (by decide +kernel) rfl rfl dX16_hour_103 ⟨by decide, by decide⟩ (Nat.le_of_ble_eq_true rfl) (⟨Nat.le_of_ble_eq_true rfl, Nat.le_of_ble_eq_true rfl⟩) (fun v27 S1 H locs hp w => ?_)
                obtain ⟨rfl, rfl⟩ := hp
                refine ckC (S := T63) (t := 12) X w (h.e_mo k63 hlt_k63).2.1 (by decide) rfl wC_X16_93 dX16_hour_108 ?_
                refine lv_astore_n (lv' := [(3, .ref (gG T63 12 k63)), (2, .int 0), (1, .int (nI k63)), (0, .ref (gG S 16 0))]) hx hb dX16_hour_111 rfl hl (by decide) rfl (fun ls hl => ?_)
                refine lv_aload_n hx hb dX16_hour_112 rfl (lv_at hl 0 rfl) ?_
                refine lv_aload_n hx hb dX16_hour_113 rfl (lv_at hl 0 rfl) ?_
                refine g_12_1 (S := T63) (x := (mI (tiL (recL A ns nj g nt) (g % 24) k63) 193 k63)) X w (h.e_mo k63 hlt_k63).2.1 wF_X16_101 (hE.1 193 rfl k63) dX16_hour_114 ?_
                refine lv_iload_n hx hb dX16_hour_117 rfl (lv_at hl 1 rfl) ?_
                refine lv_if_eq (tgt := 125) hx hb dX16_hour_118 (by decide) (fun hc28 => ?_) (fun hc28 => ?_)
                · refine lv_bipush (v := (-2)) hx hb dX16_hour_125 (by decide) ?_
                  refine lv_iadd hx hb dX16_hour_127 ?_
                  refine lv_iconst (v := 0) hx hb dX16_hour_128 (by decide) ?_
                  refine lv_bipush (v := 40) hx hb dX16_hour_129 (by decide) ?_
                  refine cS (S := T63) (nA := 3) (As := [.int ((mI (tiL (recL A ns nj g nt) (g % 24) k63) 193 k63) + (-2)), .int 0, .int 40]) (rest := [.ref (gG T63 12 k63)]) X w hl (m_X16_hold G T63 ((mI (tiL (recL A ns nj g nt) (g % 24) k63) 193 k63) + (-2)) 0 40) wY_X16_hold wM_X16_89 wSt_X16_hold wI_X16 (by decide +kernel) rfl rfl dX16_hour_131 ⟨by decide, by decide⟩ (Nat.le_of_ble_eq_true rfl) (⟨Nat.le_of_ble_eq_true rfl, Nat.le_of_ble_eq_true rfl⟩) (fun v29 S1 H locs hp w => ?_)
                  obtain ⟨rfl, rfl⟩ := hp
                  refine p_12_1 (S := T63) (x := (if ((mI (tiL (recL A ns nj g nt) (g % 24) k63) 193 k63) + (-2)) < 0 then 0 else if 40 < ((mI (tiL (recL A ns nj g nt) (g % 24) k63) 193 k63) + (-2)) then 40 else ((mI (tiL (recL A ns nj g nt) (g % 24) k63) 193 k63) + (-2)))) X w (h.e_mo k63 hlt_k63).2.1 wF_X16_101 dX16_hour_134 (fun H locs w => ?_)
                  have h : RI ea (sI T63 193 k63 (if ((mI (tiL (recL A ns nj g nt) (g % 24) k63) 193 k63) + (-2)) < 0 then 0 else if 40 < ((mI (tiL (recL A ns nj g nt) (g % 24) k63) 193 k63) + (-2)) then 40 else ((mI (tiL (recL A ns nj g nt) (g % 24) k63) 193 k63) + (-2)))) ns nj nm nt nr nq := h.stI (by decide)
                  have hK : Kq hvH hiHr hrQ S (sI T63 193 k63 (if ((mI (tiL (recL A ns nj g nt) (g % 24) k63) 193 k63) + (-2)) < 0 then 0 else if 40 < ((mI (tiL (recL A ns nj g nt) (g % 24) k63) 193 k63) + (-2)) then 40 else ((mI (tiL (recL A ns nj g nt) (g % 24) k63) 193 k63) + (-2)))) := hK.sI rfl
                  have hE : RF s0 (sI T63 193 k63 (if ((mI (tiL (recL A ns nj g nt) (g % 24) k63) 193 k63) + (-2)) < 0 then 0 else if 40 < ((mI (tiL (recL A ns nj g nt) (g % 24) k63) 193 k63) + (-2)) then 40 else ((mI (tiL (recL A ns nj g nt) (g % 24) k63) 193 k63) + (-2)))) (sI (tiL (recL A ns nj g nt) (g % 24) k63) 193 k63 (if ((mI (tiL (recL A ns nj g nt) (g % 24) k63) 193 k63) + (-2)) < 0 then 0 else if 40 < ((mI (tiL (recL A ns nj g nt) (g % 24) k63) 193 k63) + (-2)) then 40 else ((mI (tiL (recL A ns nj g nt) (g % 24) k63) 193 k63) + (-2)))) nq nt := hE.bI
                  refine lv_aload_n hx hb dX16_hour_137 rfl (lv_at hl 0 rfl) ?_
                  refine lv_dup hx hb dX16_hour_138 rfl ?_
                  refine g_12_2 (S := (sI T63 193 k63 (if ((mI (tiL (recL A ns nj g nt) (g % 24) k63) 193 k63) + (-2)) < 0 then 0 else if 40 < ((mI (tiL (recL A ns nj g nt) (g % 24) k63) 193 k63) + (-2)) then 40 else ((mI (tiL (recL A ns nj g nt) (g % 24) k63) 193 k63) + (-2))))) (x := (mI (sI (tiL (recL A ns nj g nt) (g % 24) k63) 193 k63 (if ((mI (tiL (recL A ns nj g nt) (g % 24) k63) 193 k63) + (-2)) < 0 then 0 else if 40 < ((mI (tiL (recL A ns nj g nt) (g % 24) k63) 193 k63) + (-2)) then 40 else ((mI (tiL (recL A ns nj g nt) (g % 24) k63) 193 k63) + (-2)))) 194 k63)) X w (h.e_mo k63 hlt_k63).2.1 wF_X16_211 (hE.1 194 rfl k63) dX16_hour_139 ?_
                  refine lv_iload_n hx hb dX16_hour_142 rfl (lv_at hl 1 rfl) ?_
                  refine lv_if_eq (tgt := 150) hx hb dX16_hour_143 (by decide) (fun hc30 => ?_) (fun hc30 => ?_)
                  · refine lv_iconst (v := 0) hx hb dX16_hour_150 (by decide) ?_
                    refine lv_iadd hx hb dX16_hour_151 ?_
                    refine p_12_2 (S := (sI T63 193 k63 (if ((mI (tiL (recL A ns nj g nt) (g % 24) k63) 193 k63) + (-2)) < 0 then 0 else if 40 < ((mI (tiL (recL A ns nj g nt) (g % 24) k63) 193 k63) + (-2)) then 40 else ((mI (tiL (recL A ns nj g nt) (g % 24) k63) 193 k63) + (-2))))) (x := ((mI (sI (tiL (recL A ns nj g nt) (g % 24) k63) 193 k63 (if ((mI (tiL (recL A ns nj g nt) (g % 24) k63) 193 k63) + (-2)) < 0 then 0 else if 40 < ((mI (tiL (recL A ns nj g nt) (g % 24) k63) 193 k63) + (-2)) then 40 else ((mI (tiL (recL A ns nj g nt) (g % 24) k63) 193 k63) + (-2)))) 194 k63) + 0)) X w (h.e_mo k63 hlt_k63).2.1 wF_X16_211 dX16_hour_152 (fun H locs w => ?_)
                    have h : RI ea (sI (sI T63 193 k63 (if ((mI (tiL (recL A ns nj g nt) (g % 24) k63) 193 k63) + (-2)) < 0 then 0 else if 40 < ((mI (tiL (recL A ns nj g nt) (g % 24) k63) 193 k63) + (-2)) then 40 else ((mI (tiL (recL A ns nj g nt) (g % 24) k63) 193 k63) + (-2)))) 194 k63 ((mI (sI (tiL (recL A ns nj g nt) (g % 24) k63) 193 k63 (if ((mI (tiL (recL A ns nj g nt) (g % 24) k63) 193 k63) + (-2)) < 0 then 0 else if 40 < ((mI (tiL (recL A ns nj g nt) (g % 24) k63) 193 k63) + (-2)) then 40 else ((mI (tiL (recL A ns nj g nt) (g % 24) k63) 193 k63) + (-2)))) 194 k63) + 0)) ns nj nm nt nr nq := h.stI (by decide)
                    have hK : Kq hvH hiHr hrQ S (sI (sI T63 193 k63 (if ((mI (tiL (recL A ns nj g nt) (g % 24) k63) 193 k63) + (-2)) < 0 then 0 else if 40 < ((mI (tiL (recL A ns nj g nt) (g % 24) k63) 193 k63) + (-2)) then 40 else ((mI (tiL (recL A ns nj g nt) (g % 24) k63) 193 k63) + (-2)))) 194 k63 ((mI (sI (tiL (recL A ns nj g nt) (g % 24) k63) 193 k63 (if ((mI (tiL (recL A ns nj g nt) (g % 24) k63) 193 k63) + (-2)) < 0 then 0 else if 40 < ((mI (tiL (recL A ns nj g nt) (g % 24) k63) 193 k63) + (-2)) then 40 else ((mI (tiL (recL A ns nj g nt) (g % 24) k63) 193 k63) + (-2)))) 194 k63) + 0)) := hK.sI rfl
                    have hE : RF s0 (sI (sI T63 193 k63 (if ((mI (tiL (recL A ns nj g nt) (g % 24) k63) 193 k63) + (-2)) < 0 then 0 else if 40 < ((mI (tiL (recL A ns nj g nt) (g % 24) k63) 193 k63) + (-2)) then 40 else ((mI (tiL (recL A ns nj g nt) (g % 24) k63) 193 k63) + (-2)))) 194 k63 ((mI (sI (tiL (recL A ns nj g nt) (g % 24) k63) 193 k63 (if ((mI (tiL (recL A ns nj g nt) (g % 24) k63) 193 k63) + (-2)) < 0 then 0 else if 40 < ((mI (tiL (recL A ns nj g nt) (g % 24) k63) 193 k63) + (-2)) then 40 else ((mI (tiL (recL A ns nj g nt) (g % 24) k63) 193 k63) + (-2)))) 194 k63) + 0)) (sI (sI (tiL (recL A ns nj g nt) (g % 24) k63) 193 k63 (if ((mI (tiL (recL A ns nj g nt) (g % 24) k63) 193 k63) + (-2)) < 0 then 0 else if 40 < ((mI (tiL (recL A ns nj g nt) (g % 24) k63) 193 k63) + (-2)) then 40 else ((mI (tiL (recL A ns nj g nt) (g % 24) k63) 193 k63) + (-2)))) 194 k63 ((mI (sI (tiL (recL A ns nj g nt) (g % 24) k63) 193 k63 (if ((mI (tiL (recL A ns nj g nt) (g % 24) k63) 193 k63) + (-2)) < 0 then 0 else if 40 < ((mI (tiL (recL A ns nj g nt) (g % 24) k63) 193 k63) + (-2)) then 40 else ((mI (tiL (recL A ns nj g nt) (g % 24) k63) 193 k63) + (-2)))) 194 k63) + 0)) nq nt := hE.bI
                    refine lv_iinc (v := nI (k63 + 1)) (lv' := [(1, .int (nI (k63 + 1))), (3, .ref (gG T63 12 k63)), (2, .int 0), (0, .ref (gG S 16 0))]) hx hb dX16_hour_155 hl (k := 2) rfl (nI_1 _) (by decide) rfl (fun ls hl => ?_)
                    refine lv_goto (tgt := 63) hx hb dX16_hour_158 (by decide) ?_
                    have hE : RF s0 (sI (sI T63 193 k63 (if ((mI (tiL (recL A ns nj g nt) (g % 24) k63) 193 k63) + (-2)) < 0 then 0 else if 40 < ((mI (tiL (recL A ns nj g nt) (g % 24) k63) 193 k63) + (-2)) then 40 else ((mI (tiL (recL A ns nj g nt) (g % 24) k63) 193 k63) + (-2)))) 194 k63 ((mI (sI (tiL (recL A ns nj g nt) (g % 24) k63) 193 k63 (if ((mI (tiL (recL A ns nj g nt) (g % 24) k63) 193 k63) + (-2)) < 0 then 0 else if 40 < ((mI (tiL (recL A ns nj g nt) (g % 24) k63) 193 k63) + (-2)) then 40 else ((mI (tiL (recL A ns nj g nt) (g % 24) k63) 193 k63) + (-2)))) 194 k63) + 0)) (tiL (recL A ns nj g nt) (g % 24) (k63 + 1)) nq nt := by first | (rw [tiR_T hse]; exact hE) | (rw [tiR_F hse]; exact hE)
                    exact ih63 (k63 + 1) (sI (sI T63 193 k63 (if ((mI (tiL (recL A ns nj g nt) (g % 24) k63) 193 k63) + (-2)) < 0 then 0 else if 40 < ((mI (tiL (recL A ns nj g nt) (g % 24) k63) 193 k63) + (-2)) then 40 else ((mI (tiL (recL A ns nj g nt) (g % 24) k63) 193 k63) + (-2)))) 194 k63 ((mI (sI (tiL (recL A ns nj g nt) (g % 24) k63) 193 k63 (if ((mI (tiL (recL A ns nj g nt) (g % 24) k63) 193 k63) + (-2)) < 0 then 0 else if 40 < ((mI (tiL (recL A ns nj g nt) (g % 24) k63) 193 k63) + (-2)) then 40 else ((mI (tiL (recL A ns nj g nt) (g % 24) k63) 193 k63) + (-2)))) 194 k63) + 0)) _ _ _ (by omega) (hlt_k63) (hE) (h) (hK) (hQ) (e257) (h40) w (lv_sub hl [0, 3] rfl)
                  · exact absurd hc30 (by decide)
                · exact absurd hc28 (by decide)
              · refine lv_iconst (v := 1) hx hb dX16_hour_92 (by decide) ?_
                refine lv_goto (tgt := 97) hx hb dX16_hour_93 (by decide) ?_
                refine lv_istore_n (lv' := [(2, .int 1), (1, .int (nI k63)), (0, .ref (gG S 16 0))]) hx hb dX16_hour_97 rfl hl (by decide) rfl (fun ls hl => ?_)
                refine lv_aload_n hx hb dX16_hour_98 rfl (lv_at hl 2 rfl) ?_
                refine rE0 ((rfl).trans ((hK_T63.G (t := 16) (i := 0) rfl)).symm) ?_
                refine g_16_8 (S := T63) (x := (some (gG T63 17 8))) X w h.v wF_X16_23 (h.f_mo) dX16_hour_99 ?_
                refine lv_iload_n hx hb dX16_hour_102 rfl (lv_at hl 1 rfl) ?_
                refine cF (S := T63) (t := 17) (nA := 1) (As := [.int (nI k63)]) (rest := []) X w hl h.l_mo.1 (m_get G T63 ea 8 k63 nm (some (gG T63 12 k63)) h.l_mo hlt_k63 (h.e_mo k63 hlt_k63).1) wY_Jx4a65c_get_915e3 wM_X16_46 wIn_Jx4a65c_get_915e3 wSe_Jx4a65c_Jx4a65c_get_915e3_of_java_util_List_get__I_Ljava_lang_Object_ wI_Jx4a65c fw_get (by decide) rfl (by decide +kernel) rfl rfl dX16_hour_103 ⟨by decide, by decide⟩ (Nat.le_of_ble_eq_true rfl) (⟨Nat.le_of_ble_eq_true rfl, Nat.le_of_ble_eq_true rfl⟩) (fun v31 S1 H locs hp w => ?_)
                obtain ⟨rfl, rfl⟩ := hp
                refine ckC (S := T63) (t := 12) X w (h.e_mo k63 hlt_k63).2.1 (by decide) rfl wC_X16_93 dX16_hour_108 ?_
                refine lv_astore_n (lv' := [(3, .ref (gG T63 12 k63)), (2, .int 1), (1, .int (nI k63)), (0, .ref (gG S 16 0))]) hx hb dX16_hour_111 rfl hl (by decide) rfl (fun ls hl => ?_)
                refine lv_aload_n hx hb dX16_hour_112 rfl (lv_at hl 0 rfl) ?_
                refine lv_aload_n hx hb dX16_hour_113 rfl (lv_at hl 0 rfl) ?_
                refine g_12_1 (S := T63) (x := (mI (tiL (recL A ns nj g nt) (g % 24) k63) 193 k63)) X w (h.e_mo k63 hlt_k63).2.1 wF_X16_101 (hE.1 193 rfl k63) dX16_hour_114 ?_
                refine lv_iload_n hx hb dX16_hour_117 rfl (lv_at hl 1 rfl) ?_
                refine lv_if_eq (tgt := 125) hx hb dX16_hour_118 (by decide) (fun hc32 => ?_) (fun hc32 => ?_)
                · exact absurd hc32 (by decide)
                · refine lv_iconst (v := 3) hx hb dX16_hour_121 (by decide) ?_
                  refine lv_goto (tgt := 127) hx hb dX16_hour_122 (by decide) ?_
                  refine lv_iadd hx hb dX16_hour_127 ?_
                  refine lv_iconst (v := 0) hx hb dX16_hour_128 (by decide) ?_
                  refine lv_bipush (v := 40) hx hb dX16_hour_129 (by decide) ?_
                  refine cS (S := T63) (nA := 3) (As := [.int ((mI (tiL (recL A ns nj g nt) (g % 24) k63) 193 k63) + 3), .int 0, .int 40]) (rest := [.ref (gG T63 12 k63)]) X w hl (m_X16_hold G T63 ((mI (tiL (recL A ns nj g nt) (g % 24) k63) 193 k63) + 3) 0 40) wY_X16_hold wM_X16_89 wSt_X16_hold wI_X16 (by decide +kernel) rfl rfl dX16_hour_131 ⟨by decide, by decide⟩ (Nat.le_of_ble_eq_true rfl) (⟨Nat.le_of_ble_eq_true rfl, Nat.le_of_ble_eq_true rfl⟩) (fun v33 S1 H locs hp w => ?_)
                  obtain ⟨rfl, rfl⟩ := hp
                  refine p_12_1 (S := T63) (x := (if ((mI (tiL (recL A ns nj g nt) (g % 24) k63) 193 k63) + 3) < 0 then 0 else if 40 < ((mI (tiL (recL A ns nj g nt) (g % 24) k63) 193 k63) + 3) then 40 else ((mI (tiL (recL A ns nj g nt) (g % 24) k63) 193 k63) + 3))) X w (h.e_mo k63 hlt_k63).2.1 wF_X16_101 dX16_hour_134 (fun H locs w => ?_)
                  have h : RI ea (sI T63 193 k63 (if ((mI (tiL (recL A ns nj g nt) (g % 24) k63) 193 k63) + 3) < 0 then 0 else if 40 < ((mI (tiL (recL A ns nj g nt) (g % 24) k63) 193 k63) + 3) then 40 else ((mI (tiL (recL A ns nj g nt) (g % 24) k63) 193 k63) + 3))) ns nj nm nt nr nq := h.stI (by decide)
                  have hK : Kq hvH hiHr hrQ S (sI T63 193 k63 (if ((mI (tiL (recL A ns nj g nt) (g % 24) k63) 193 k63) + 3) < 0 then 0 else if 40 < ((mI (tiL (recL A ns nj g nt) (g % 24) k63) 193 k63) + 3) then 40 else ((mI (tiL (recL A ns nj g nt) (g % 24) k63) 193 k63) + 3))) := hK.sI rfl
                  have hE : RF s0 (sI T63 193 k63 (if ((mI (tiL (recL A ns nj g nt) (g % 24) k63) 193 k63) + 3) < 0 then 0 else if 40 < ((mI (tiL (recL A ns nj g nt) (g % 24) k63) 193 k63) + 3) then 40 else ((mI (tiL (recL A ns nj g nt) (g % 24) k63) 193 k63) + 3))) (sI (tiL (recL A ns nj g nt) (g % 24) k63) 193 k63 (if ((mI (tiL (recL A ns nj g nt) (g % 24) k63) 193 k63) + 3) < 0 then 0 else if 40 < ((mI (tiL (recL A ns nj g nt) (g % 24) k63) 193 k63) + 3) then 40 else ((mI (tiL (recL A ns nj g nt) (g % 24) k63) 193 k63) + 3))) nq nt := hE.bI
                  refine lv_aload_n hx hb dX16_hour_137 rfl (lv_at hl 0 rfl) ?_
                  refine lv_dup hx hb dX16_hour_138 rfl ?_
                  refine g_12_2 (S := (sI T63 193 k63 (if ((mI (tiL (recL A ns nj g nt) (g % 24) k63) 193 k63) + 3) < 0 then 0 else if 40 < ((mI (tiL (recL A ns nj g nt) (g % 24) k63) 193 k63) + 3) then 40 else ((mI (tiL (recL A ns nj g nt) (g % 24) k63) 193 k63) + 3)))) (x := (mI (sI (tiL (recL A ns nj g nt) (g % 24) k63) 193 k63 (if ((mI (tiL (recL A ns nj g nt) (g % 24) k63) 193 k63) + 3) < 0 then 0 else if 40 < ((mI (tiL (recL A ns nj g nt) (g % 24) k63) 193 k63) + 3) then 40 else ((mI (tiL (recL A ns nj g nt) (g % 24) k63) 193 k63) + 3))) 194 k63)) X w (h.e_mo k63 hlt_k63).2.1 wF_X16_211 (hE.1 194 rfl k63) dX16_hour_139 ?_
                  refine lv_iload_n hx hb dX16_hour_142 rfl (lv_at hl 1 rfl) ?_
                  refine lv_if_eq (tgt := 150) hx hb dX16_hour_143 (by decide) (fun hc34 => ?_) (fun hc34 => ?_)
                  · exact absurd hc34 (by decide)
                  · refine lv_iconst (v := 1) hx hb dX16_hour_146 (by decide) ?_
                    refine lv_goto (tgt := 151) hx hb dX16_hour_147 (by decide) ?_
                    refine lv_iadd hx hb dX16_hour_151 ?_
                    refine p_12_2 (S := (sI T63 193 k63 (if ((mI (tiL (recL A ns nj g nt) (g % 24) k63) 193 k63) + 3) < 0 then 0 else if 40 < ((mI (tiL (recL A ns nj g nt) (g % 24) k63) 193 k63) + 3) then 40 else ((mI (tiL (recL A ns nj g nt) (g % 24) k63) 193 k63) + 3)))) (x := ((mI (sI (tiL (recL A ns nj g nt) (g % 24) k63) 193 k63 (if ((mI (tiL (recL A ns nj g nt) (g % 24) k63) 193 k63) + 3) < 0 then 0 else if 40 < ((mI (tiL (recL A ns nj g nt) (g % 24) k63) 193 k63) + 3) then 40 else ((mI (tiL (recL A ns nj g nt) (g % 24) k63) 193 k63) + 3))) 194 k63) + 1)) X w (h.e_mo k63 hlt_k63).2.1 wF_X16_211 dX16_hour_152 (fun H locs w => ?_)
                    have h : RI ea (sI (sI T63 193 k63 (if ((mI (tiL (recL A ns nj g nt) (g % 24) k63) 193 k63) + 3) < 0 then 0 else if 40 < ((mI (tiL (recL A ns nj g nt) (g % 24) k63) 193 k63) + 3) then 40 else ((mI (tiL (recL A ns nj g nt) (g % 24) k63) 193 k63) + 3))) 194 k63 ((mI (sI (tiL (recL A ns nj g nt) (g % 24) k63) 193 k63 (if ((mI (tiL (recL A ns nj g nt) (g % 24) k63) 193 k63) + 3) < 0 then 0 else if 40 < ((mI (tiL (recL A ns nj g nt) (g % 24) k63) 193 k63) + 3) then 40 else ((mI (tiL (recL A ns nj g nt) (g % 24) k63) 193 k63) + 3))) 194 k63) + 1)) ns nj nm nt nr nq := h.stI (by decide)
                    have hK : Kq hvH hiHr hrQ S (sI (sI T63 193 k63 (if ((mI (tiL (recL A ns nj g nt) (g % 24) k63) 193 k63) + 3) < 0 then 0 else if 40 < ((mI (tiL (recL A ns nj g nt) (g % 24) k63) 193 k63) + 3) then 40 else ((mI (tiL (recL A ns nj g nt) (g % 24) k63) 193 k63) + 3))) 194 k63 ((mI (sI (tiL (recL A ns nj g nt) (g % 24) k63) 193 k63 (if ((mI (tiL (recL A ns nj g nt) (g % 24) k63) 193 k63) + 3) < 0 then 0 else if 40 < ((mI (tiL (recL A ns nj g nt) (g % 24) k63) 193 k63) + 3) then 40 else ((mI (tiL (recL A ns nj g nt) (g % 24) k63) 193 k63) + 3))) 194 k63) + 1)) := hK.sI rfl
                    have hE : RF s0 (sI (sI T63 193 k63 (if ((mI (tiL (recL A ns nj g nt) (g % 24) k63) 193 k63) + 3) < 0 then 0 else if 40 < ((mI (tiL (recL A ns nj g nt) (g % 24) k63) 193 k63) + 3) then 40 else ((mI (tiL (recL A ns nj g nt) (g % 24) k63) 193 k63) + 3))) 194 k63 ((mI (sI (tiL (recL A ns nj g nt) (g % 24) k63) 193 k63 (if ((mI (tiL (recL A ns nj g nt) (g % 24) k63) 193 k63) + 3) < 0 then 0 else if 40 < ((mI (tiL (recL A ns nj g nt) (g % 24) k63) 193 k63) + 3) then 40 else ((mI (tiL (recL A ns nj g nt) (g % 24) k63) 193 k63) + 3))) 194 k63) + 1)) (sI (sI (tiL (recL A ns nj g nt) (g % 24) k63) 193 k63 (if ((mI (tiL (recL A ns nj g nt) (g % 24) k63) 193 k63) + 3) < 0 then 0 else if 40 < ((mI (tiL (recL A ns nj g nt) (g % 24) k63) 193 k63) + 3) then 40 else ((mI (tiL (recL A ns nj g nt) (g % 24) k63) 193 k63) + 3))) 194 k63 ((mI (sI (tiL (recL A ns nj g nt) (g % 24) k63) 193 k63 (if ((mI (tiL (recL A ns nj g nt) (g % 24) k63) 193 k63) + 3) < 0 then 0 else if 40 < ((mI (tiL (recL A ns nj g nt) (g % 24) k63) 193 k63) + 3) then 40 else ((mI (tiL (recL A ns nj g nt) (g % 24) k63) 193 k63) + 3))) 194 k63) + 1)) nq nt := hE.bI
                    refine lv_iinc (v := nI (k63 + 1)) (lv' := [(1, .int (nI (k63 + 1))), (3, .ref (gG T63 12 k63)), (2, .int 1), (0, .ref (gG S 16 0))]) hx hb dX16_hour_155 hl (k := 2) rfl (nI_1 _) (by decide) rfl (fun ls hl => ?_)
                    refine lv_goto (tgt := 63) hx hb dX16_hour_158 (by decide) ?_
                    have hE : RF s0 (sI (sI T63 193 k63 (if ((mI (tiL (recL A ns nj g nt) (g % 24) k63) 193 k63) + 3) < 0 then 0 else if 40 < ((mI (tiL (recL A ns nj g nt) (g % 24) k63) 193 k63) + 3) then 40 else ((mI (tiL (recL A ns nj g nt) (g % 24) k63) 193 k63) + 3))) 194 k63 ((mI (sI (tiL (recL A ns nj g nt) (g % 24) k63) 193 k63 (if ((mI (tiL (recL A ns nj g nt) (g % 24) k63) 193 k63) + 3) < 0 then 0 else if 40 < ((mI (tiL (recL A ns nj g nt) (g % 24) k63) 193 k63) + 3) then 40 else ((mI (tiL (recL A ns nj g nt) (g % 24) k63) 193 k63) + 3))) 194 k63) + 1)) (tiL (recL A ns nj g nt) (g % 24) (k63 + 1)) nq nt := by first | (rw [tiR_T hse]; exact hE) | (rw [tiR_F hse]; exact hE)
                    exact ih63 (k63 + 1) (sI (sI T63 193 k63 (if ((mI (tiL (recL A ns nj g nt) (g % 24) k63) 193 k63) + 3) < 0 then 0 else if 40 < ((mI (tiL (recL A ns nj g nt) (g % 24) k63) 193 k63) + 3) then 40 else ((mI (tiL (recL A ns nj g nt) (g % 24) k63) 193 k63) + 3))) 194 k63 ((mI (sI (tiL (recL A ns nj g nt) (g % 24) k63) 193 k63 (if ((mI (tiL (recL A ns nj g nt) (g % 24) k63) 193 k63) + 3) < 0 then 0 else if 40 < ((mI (tiL (recL A ns nj g nt) (g % 24) k63) 193 k63) + 3) then 40 else ((mI (tiL (recL A ns nj g nt) (g % 24) k63) 193 k63) + 3))) 194 k63) + 1)) _ _ _ (by omega) (hlt_k63) (hE) (h) (hK) (hQ) (e257) (h40) w (lv_sub hl [0, 3] rfl)
        exact L63 _ 0 T2 _ _ _ (Nat.lt_succ_self _) (Nat.zero_le _) (hE) (h) (hK) (hQ) (e257) (h40) w (lv_sub hl [0, 1] rfl)
      · have hlt_k2 : k2 < nt := by
          have hb1 := h.b_ta
          exact Nat.lt_of_not_le (fun z => hc_k2 ((nI_leI (a := nt) (b := k2) (by omega) (by omega)).mpr z))
        refine lv_aload_n hx hb dX16_hour_15 rfl (lv_at hl 1 rfl) ?_
        refine rE0 ((rfl).trans ((hK_T2.G (t := 16) (i := 0) rfl)).symm) ?_
        refine g_16_9 (S := T2) (x := (some (gG T2 17 9))) X w h.v wF_X16_26 (h.f_ta) dX16_hour_16 ?_
        refine lv_iload_n hx hb dX16_hour_19 rfl (lv_at hl 0 rfl) ?_
        refine cF (S := T2) (t := 17) (nA := 1) (As := [.int (nI k2)]) (rest := []) X w hl h.l_ta.1 (m_get G T2 ea 9 k2 nt (some (gG T2 15 k2)) h.l_ta hlt_k2 (h.e_ta k2 hlt_k2).1) wY_Jx4a65c_get_915e3 wM_X16_46 wIn_Jx4a65c_get_915e3 wSe_Jx4a65c_Jx4a65c_get_915e3_of_java_util_List_get__I_Ljava_lang_Object_ wI_Jx4a65c fw_get (by decide) rfl (by decide +kernel) rfl rfl dX16_hour_20 ⟨by decide, by decide⟩ (Nat.le_of_ble_eq_true rfl) (⟨Nat.le_of_ble_eq_true rfl, Nat.le_of_ble_eq_true rfl⟩) (fun v35 S1 H locs hp w => ?_)
        obtain ⟨rfl, rfl⟩ := hp
        refine ckC (S := T2) (t := 15) X w (h.e_ta k2 hlt_k2).2 (by decide) rfl wC_X16_105 dX16_hour_25 ?_
        refine g_15_1 (S := T2) (x := (mI T2 241 k2)) X w (h.e_ta k2 hlt_k2).2 wF_X16_112 (rfl) dX16_hour_28 ?_
        refine lv_aload_n hx hb dX16_hour_31 rfl (lv_at hl 1 rfl) ?_
        refine rE0 ((rfl).trans ((hK_T2.G (t := 16) (i := 0) rfl)).symm) ?_
        refine g_16_1 (S := T2) (x := (mI T2 257 0)) X w h.v wF_X16_125 (rfl) dX16_hour_32 ?_
        refine lv_icmp_ne (tgt := 55) hx hb dX16_hour_35 (by decide) (fun hth => ?_) (fun hth => ?_)
        · refine lv_iinc (v := nI (k2 + 1)) (lv' := [(1, .int (nI (k2 + 1))), (0, .ref (gG S 16 0))]) hx hb dX16_hour_55 hl (k := 0) rfl (nI_1 _) (by decide) rfl (fun ls hl => ?_)
          refine lv_goto (tgt := 2) hx hb dX16_hour_58 (by decide) ?_
          have hE : RF s0 T2 (recL A ns nj g (k2 + 1)) nq nt := by first | (rw [recL_f (fun z => hth ((hE.1 241 rfl k2).trans (z.trans (e257.trans hg).symm)))]; exact hE) | (rw [recL_t hth9]; exact hE)
          exact ih2 (k2 + 1) T2 _ _ _ (by omega) (hlt_k2) (hE) (h) (hK) (hQ) (e257) (h40) w (lv_sub hl [0, 1] rfl)
        · have hth9 : mI (recL A ns nj g k2) 241 k2 = nI g := (hE.1 241 rfl k2).symm.trans (hth.trans (e257.trans hg))
          refine lv_aload_n hx hb dX16_hour_38 rfl (lv_at hl 1 rfl) ?_
          refine lv_aload_n hx hb dX16_hour_39 rfl (lv_at hl 1 rfl) ?_
          refine rE0 ((rfl).trans ((hK_T2.G (t := 16) (i := 0) rfl)).symm) ?_
          refine g_16_9 (S := T2) (x := (some (gG T2 17 9))) X w h.v wF_X16_26 (h.f_ta) dX16_hour_40 ?_
          refine lv_iload_n hx hb dX16_hour_43 rfl (lv_at hl 0 rfl) ?_
          refine cF (S := T2) (t := 17) (nA := 1) (As := [.int (nI k2)]) (rest := [.ref (gG S 16 0)]) X w hl h.l_ta.1 (m_get G T2 ea 9 k2 nt (some (gG T2 15 k2)) h.l_ta hlt_k2 (h.e_ta k2 hlt_k2).1) wY_Jx4a65c_get_915e3 wM_X16_46 wIn_Jx4a65c_get_915e3 wSe_Jx4a65c_Jx4a65c_get_915e3_of_java_util_List_get__I_Ljava_lang_Object_ wI_Jx4a65c fw_get (by decide) rfl (by decide +kernel) rfl rfl dX16_hour_44 ⟨by decide, by decide⟩ (Nat.le_of_ble_eq_true rfl) (⟨Nat.le_of_ble_eq_true rfl, Nat.le_of_ble_eq_true rfl⟩) (fun v36 S1 H locs hp w => ?_)
          obtain ⟨rfl, rfl⟩ := hp
          refine ckC (S := T2) (t := 15) X w (h.e_ta k2 hlt_k2).2 (by decide) rfl wC_X16_105 dX16_hour_49 ?_
          refine rE1 ((rfl).trans ((hK_T2.G (t := 16) (i := 0) rfl)).symm) ?_
          refine cV (S := T2) (nA := 1) (As := [.ref (gG T2 15 k2)]) (rest := []) X w hl h.v (r_X16_record G T2 ea ns nj nm nt nr nq h (recL A ns nj g k2) hE g (e257.trans hg) (by omega) k2 hlt_k2 hth hQ) wY_X16_record wM_X16_204 wIn_X16_record wSe_X16_X16_record wI_X16 (by decide) rfl (by decide +kernel) rfl rfl dX16_hour_52 ⟨by decide, by decide⟩ (Nat.le_of_ble_eq_true rfl) (⟨Nat.le_of_ble_eq_true rfl, Nat.le_of_ble_eq_true rfl⟩) (fun v38 U37 H locs hp w => ?_)
          obtain ⟨rfl, h, hkU37, hQ, hE⟩ := hp
          have hK_U37 : Kq hvH hiHr hrQ S U37 := hK.tr (q12 hkU37)
          have hK := hK_U37
          have e257 : mI U37 257 0 = mI S 257 0 := (hkU37.I (f := 257) (i := 0) rfl).trans e257
          have h40 : ¬ vV U37 40 0 := by rw [show vV U37 40 0 = vV T2 40 0 from hkU37.V rfl]; exact h40
          refine lv_iinc (v := nI (k2 + 1)) (lv' := [(1, .int (nI (k2 + 1))), (0, .ref (gG S 16 0))]) hx hb dX16_hour_55 hl (k := 0) rfl (nI_1 _) (by decide) rfl (fun ls hl => ?_)
          refine lv_goto (tgt := 2) hx hb dX16_hour_58 (by decide) ?_
          have hE : RF s0 U37 (recL A ns nj g (k2 + 1)) nq nt := by first | (rw [recL_f (fun z => hth ((hE.1 241 rfl k2).trans (z.trans (e257.trans hg).symm)))]; exact hE) | (rw [recL_t hth9]; exact hE)
          exact ih2 (k2 + 1) U37 _ _ _ (by omega) (hlt_k2) (hE) (h) (hK) (hQ) (e257) (h40) w (lv_sub hl [0, 1] rfl)
  exact L2 _ 0 S _ _ _ (Nat.lt_succ_self _) (Nat.zero_le _) (hE) (h) (hK) (hQ) (e257) (h40) w (lv_sub hl [0, 1] rfl)

