theorem Zr.tmp {S : HS} (h : Zr S) (L : List (Nat × Nat)) (hL : ∀ x ∈ L, x.1 = 39 ∨ x.1 = 40) : ∀ x ∈ L, ¬ vV S x.1 x.2 := fun x hx => (hL x hx).elim (fun e => by rw [e]; exact (h.2 _).1) (fun e => by rw [e]; exact (h.2 _).2)

theorem dX16_ofStation_0 : decode cX16_ofStation 0 = .ok (.aload_n 0, 1) := by decide +kernel
theorem dX16_ofStation_1 : decode cX16_ofStation 1 = .ok (.iconst 0, 1) := by decide +kernel
theorem dX16_ofStation_2 : decode cX16_ofStation 2 = .ok (.putfield 43, 3) := by decide +kernel
theorem dX16_ofStation_5 : decode cX16_ofStation 5 = .ok (.aload_n 0, 1) := by decide +kernel
theorem dX16_ofStation_6 : decode cX16_ofStation 6 = .ok (.iload_n 1, 1) := by decide +kernel
theorem dX16_ofStation_7 : decode cX16_ofStation 7 = .ok (.invokevirtual 235, 3) := by decide +kernel
theorem dX16_ofStation_10 : decode cX16_ofStation 10 = .ok (.ifCond .ne 9, 3) := by decide +kernel
theorem dX16_ofStation_13 : decode cX16_ofStation 13 = .ok (.aload_n 0, 1) := by decide +kernel
theorem dX16_ofStation_14 : decode cX16_ofStation 14 = .ok (.iconst 1, 1) := by decide +kernel
theorem dX16_ofStation_15 : decode cX16_ofStation 15 = .ok (.invokevirtual 229, 3) := by decide +kernel
theorem dX16_ofStation_18 : decode cX16_ofStation 18 = .ok (.ireturn, 1) := by decide +kernel
theorem dX16_ofStation_19 : decode cX16_ofStation 19 = .ok (.iload_n 2, 1) := by decide +kernel
theorem dX16_ofStation_20 : decode cX16_ofStation 20 = .ok (.iconst 0, 1) := by decide +kernel
theorem dX16_ofStation_21 : decode cX16_ofStation 21 = .ok (.bipush 8, 2) := by decide +kernel
theorem dX16_ofStation_23 : decode cX16_ofStation 23 = .ok (.invokestatic 224, 3) := by decide +kernel
theorem dX16_ofStation_26 : decode cX16_ofStation 26 = .ok (.ifCond .ne 9, 3) := by decide +kernel
theorem dX16_ofStation_29 : decode cX16_ofStation 29 = .ok (.aload_n 0, 1) := by decide +kernel
theorem dX16_ofStation_30 : decode cX16_ofStation 30 = .ok (.iconst 2, 1) := by decide +kernel
theorem dX16_ofStation_31 : decode cX16_ofStation 31 = .ok (.invokevirtual 229, 3) := by decide +kernel
theorem dX16_ofStation_34 : decode cX16_ofStation 34 = .ok (.ireturn, 1) := by decide +kernel
theorem dX16_ofStation_35 : decode cX16_ofStation 35 = .ok (.aload_n 0, 1) := by decide +kernel
theorem dX16_ofStation_36 : decode cX16_ofStation 36 = .ok (.iload_n 1, 1) := by decide +kernel
theorem dX16_ofStation_37 : decode cX16_ofStation 37 = .ok (.iload_n 2, 1) := by decide +kernel
theorem dX16_ofStation_38 : decode cX16_ofStation 38 = .ok (.invokevirtual 267, 3) := by decide +kernel
theorem dX16_ofStation_41 : decode cX16_ofStation 41 = .ok (.ireturn, 1) := by decide +kernel
abbrev rm_m_X16_ofStation : Room := { frames := 6, cells := 1, slots := 9, locals := 139 }
set_option maxHeartbeats 4000000 in
set_option maxRecDepth 100000 in
theorem m_X16_ofStation {s0 : State} {l : Launch} {D : va_G} {cy : Nat → ClassId} (G : Gl s0 l D cy) (S : HS) (ea ns nj nm nt nr nq : Nat) (h : RI ea S ns nj nm nt nr nq) (hea : ea = eaOf s0) (hQ : QI s0 S nq nt) (hZr : Zr S) (A : HS) (g0 : Nat) (hF : RF s0 S A nq nt) (hg : mI S 257 0 = nI g0) (a b : Int32) : Ctr s0 l D cy yX16_ofStation cX16_ofStation 3 (some .int) rm_m_X16_ofStation S [.ref (gG S 16 0), .int a, .int b] (PF s0 S (ns, nj, nm, nr, nt, g0, A) (dK ns 8 a b) (rStaNow A ns nj nt a.toNatClampNeg b.toNatClampNeg) (ns, nj, nm, nr, nt, g0, A)) := by
  refine pro "CavershamShiftModel" G rfl rfl (Nat.le_of_ble_eq_true rfl) (fun p e s m below meth c ls X w hnm hl => ?_)
  have hx := X.1
  have hb := X.2.1
  have hown := X.2.2.2.1
  have hts := X.2.2.2.2.1
  have hl : lv_has ls 3 [(0, .ref (gG S 16 0)), (1, .int a), (2, .int b)] := hl
  have h0 := h
  have hK : Kq hvTm hiTm hrTm S S := Kq.rf
  have hE : RE S A := hF.re
  have hF0 : RF s0 (sI S 256 0 0) A nq nt := hF.oI rfl
  refine lv_aload_n hx hb dX16_ofStation_0 rfl (lv_at hl 0 rfl) ?_
  refine lv_iconst (v := 0) hx hb dX16_ofStation_1 (by decide) ?_
  refine p_16_0 (S := S) (x := 0) X w h.v wF_X16_43 dX16_ofStation_2 (fun H locs w => ?_)
  have h : RI ea (sI S 256 0 0) ns nj nm nt nr nq := h.stI (by decide)
  have hK : Kq hvTm hiTm hrTm S (sI S 256 0 0) := hK.sI rfl
  refine lv_aload_n hx hb dX16_ofStation_5 rfl (lv_at hl 0 rfl) ?_
  refine lv_iload_n hx hb dX16_ofStation_6 rfl (lv_at hl 1 rfl) ?_
  refine cV (S := (sI S 256 0 0)) (nA := 1) (As := [.int a]) (rest := []) X w hl h.v (m_X16_isStation G (sI S 256 0 0) ea ns nj nm nt nr nq h a) wY_X16_isStation wM_X16_235 wIn_X16_isStation wSe_X16_X16_isStation wI_X16 (by decide) rfl (by decide +kernel) rfl rfl dX16_ofStation_7 ⟨by decide, by decide⟩ (Nat.le_of_ble_eq_true rfl) (⟨Nat.le_of_ble_eq_true rfl, Nat.le_of_ble_eq_true rfl⟩) (fun v1 S1 H locs hp w => ?_)
  obtain ⟨rfl, rfl⟩ := hp
  refine lv_if_ne (tgt := 19) hx hb dX16_ofStation_10 (by decide) (fun hy10 => ?_) (fun hy10 => ?_)
  · obtain ⟨j2, hlj2, hvj2⟩ := out_in (n := ns) (by have hb1 := h.b_st; omega) ((by simpa using b2i_t hy10))
    rw [hvj2] at hl
    refine lv_iload_n hx hb dX16_ofStation_19 rfl (lv_at hl 2 rfl) ?_
    refine lv_iconst (v := 0) hx hb dX16_ofStation_20 (by decide) ?_
    refine lv_bipush (v := 8) hx hb dX16_ofStation_21 (by decide) ?_
    refine cS (S := (sI S 256 0 0)) (nA := 3) (As := [.int b, .int 0, .int 8]) (rest := []) X w hl (m_X16_in G (sI S 256 0 0) b 0 8) wY_X16_in wM_X16_224 wSt_X16_in wI_X16 (by decide +kernel) rfl rfl dX16_ofStation_23 ⟨by decide, by decide⟩ (Nat.le_of_ble_eq_true rfl) (⟨Nat.le_of_ble_eq_true rfl, Nat.le_of_ble_eq_true rfl⟩) (fun v3 S1 H locs hp w => ?_)
    obtain ⟨rfl, rfl⟩ := hp
    refine lv_if_ne (tgt := 35) hx hb dX16_ofStation_26 (by decide) (fun hy26 => ?_) (fun hy26 => ?_)
    · obtain ⟨j4, hlj4, hvj4⟩ := out_in (n := 9) (by decide) (by rw [show (nI 9 - 1 : Int32) = 8 by decide]; exact (by simpa using b2i_t hy26))
      rw [hvj4] at hl
      refine lv_aload_n hx hb dX16_ofStation_35 rfl (lv_at hl 0 rfl) ?_
      refine lv_iload_n hx hb dX16_ofStation_36 rfl (lv_at hl 1 rfl) ?_
      refine lv_iload_n hx hb dX16_ofStation_37 rfl (lv_at hl 2 rfl) ?_
      refine cV (S := (sI S 256 0 0)) (nA := 2) (As := [.int (nI j2), .int (nI j4)]) (rest := []) X w hl h.v (m_X16_stationNow G (sI S 256 0 0) ea ns nj nm nt nr nq h j2 j4 hlj2 hlj4 ((hZr.2 0).1)) wY_X16_stationNow wM_X16_267 wIn_X16_stationNow wSe_X16_X16_stationNow wI_X16 (by decide) rfl (by decide +kernel) rfl rfl dX16_ofStation_38 ⟨by decide, by decide⟩ (Nat.le_of_ble_eq_true rfl) (⟨Nat.le_of_ble_eq_true rfl, Nat.le_of_ble_eq_true rfl⟩) (fun v5 S1 H locs hp w => ?_)
      obtain ⟨rfl, rfl⟩ := hp
      exact rI X w rfl dX16_ofStation_41 (by decide) (by decide) (Or.inr ⟨by have z10 : sOut a 0 (nI ns - 1) = false := (by simpa using b2i_t hy10); have z26 : sOut b 0 8 = false := (by simpa using b2i_t hy26); simp [dK, z10, z26], by rw [tnI (a := a) (by assumption) (Nat.le_trans h.b_st (by decide)) (by assumption), tnI (n := 9) (a := b) (by assumption) (by decide) (by assumption), ← hF0.sta]; first | done | rfl, ⟨_, hea ▸ h, hQ, hZr, hF.keepT hK, (hK.I (f := 257) (i := 0) rfl).trans hg⟩, Kq.rB (kTR hK), rfl⟩)
    · refine lv_aload_n hx hb dX16_ofStation_29 rfl (lv_at hl 0 rfl) ?_
      refine lv_iconst (v := 2) hx hb dX16_ofStation_30 (by decide) ?_
      refine cV (S := (sI S 256 0 0)) (nA := 1) (As := [.int 2]) (rest := []) X w hl h.v (m_X16_no G (sI S 256 0 0) ea ns nj nm nt nr nq h 2) wY_X16_no wM_X16_229 wIn_X16_no wSe_X16_X16_no wI_X16 (by decide) rfl (by decide +kernel) rfl rfl dX16_ofStation_31 ⟨by decide, by decide⟩ (Nat.le_of_ble_eq_true rfl) (⟨Nat.le_of_ble_eq_true rfl, Nat.le_of_ble_eq_true rfl⟩) (fun v6 S1 H locs hp w => ?_)
      obtain ⟨rfl, rfl⟩ := hp
      have h : RI ea (sI (sI S 256 0 0) 256 0 2) ns nj nm nt nr nq := h.stI (by decide)
      have hK : Kq hvTm hiTm hrTm S (sI (sI S 256 0 0) 256 0 2) := hK.sI rfl
      exact rI X w rfl dX16_ofStation_34 (by decide) (by decide) (pf_x (k := 2) (by first | (have z10 : sOut a 0 (nI ns - 1) = false := (by simpa using b2i_t hy10); have y : sOut b 0 8 = true := (by simpa using b2i_f hy26); simp [dK, z10, y])) (by decide) (by decide) ⟨_, hea ▸ h, hQ, hZr, (hF.oI rfl).oI rfl, hg⟩)
  · refine lv_aload_n hx hb dX16_ofStation_13 rfl (lv_at hl 0 rfl) ?_
    refine lv_iconst (v := 1) hx hb dX16_ofStation_14 (by decide) ?_
    refine cV (S := (sI S 256 0 0)) (nA := 1) (As := [.int 1]) (rest := []) X w hl h.v (m_X16_no G (sI S 256 0 0) ea ns nj nm nt nr nq h 1) wY_X16_no wM_X16_229 wIn_X16_no wSe_X16_X16_no wI_X16 (by decide) rfl (by decide +kernel) rfl rfl dX16_ofStation_15 ⟨by decide, by decide⟩ (Nat.le_of_ble_eq_true rfl) (⟨Nat.le_of_ble_eq_true rfl, Nat.le_of_ble_eq_true rfl⟩) (fun v7 S1 H locs hp w => ?_)
    obtain ⟨rfl, rfl⟩ := hp
    have h : RI ea (sI (sI S 256 0 0) 256 0 1) ns nj nm nt nr nq := h.stI (by decide)
    have hK : Kq hvTm hiTm hrTm S (sI (sI S 256 0 0) 256 0 1) := hK.sI rfl
    exact rI X w rfl dX16_ofStation_18 (by decide) (by decide) (pf_x (k := 1) (by first | (have y : sOut a 0 (nI ns - 1) = true := (by simpa using b2i_f hy10); simp [dK, y])) (by decide) (by decide) ⟨_, hea ▸ h, hQ, hZr, (hF.oI rfl).oI rfl, hg⟩)

theorem dX16_ofMonitor_0 : decode cX16_ofMonitor 0 = .ok (.aload_n 0, 1) := by decide +kernel
theorem dX16_ofMonitor_1 : decode cX16_ofMonitor 1 = .ok (.iconst 0, 1) := by decide +kernel
theorem dX16_ofMonitor_2 : decode cX16_ofMonitor 2 = .ok (.putfield 43, 3) := by decide +kernel
theorem dX16_ofMonitor_5 : decode cX16_ofMonitor 5 = .ok (.aload_n 0, 1) := by decide +kernel
theorem dX16_ofMonitor_6 : decode cX16_ofMonitor 6 = .ok (.iload_n 1, 1) := by decide +kernel
theorem dX16_ofMonitor_7 : decode cX16_ofMonitor 7 = .ok (.invokevirtual 241, 3) := by decide +kernel
theorem dX16_ofMonitor_10 : decode cX16_ofMonitor 10 = .ok (.ifCond .ne 9, 3) := by decide +kernel
theorem dX16_ofMonitor_13 : decode cX16_ofMonitor 13 = .ok (.aload_n 0, 1) := by decide +kernel
theorem dX16_ofMonitor_14 : decode cX16_ofMonitor 14 = .ok (.iconst 1, 1) := by decide +kernel
theorem dX16_ofMonitor_15 : decode cX16_ofMonitor 15 = .ok (.invokevirtual 229, 3) := by decide +kernel
theorem dX16_ofMonitor_18 : decode cX16_ofMonitor 18 = .ok (.ireturn, 1) := by decide +kernel
theorem dX16_ofMonitor_19 : decode cX16_ofMonitor 19 = .ok (.iload_n 2, 1) := by decide +kernel
theorem dX16_ofMonitor_20 : decode cX16_ofMonitor 20 = .ok (.iconst 0, 1) := by decide +kernel
theorem dX16_ofMonitor_21 : decode cX16_ofMonitor 21 = .ok (.bipush 8, 2) := by decide +kernel
theorem dX16_ofMonitor_23 : decode cX16_ofMonitor 23 = .ok (.invokestatic 224, 3) := by decide +kernel
theorem dX16_ofMonitor_26 : decode cX16_ofMonitor 26 = .ok (.ifCond .ne 9, 3) := by decide +kernel
theorem dX16_ofMonitor_29 : decode cX16_ofMonitor 29 = .ok (.aload_n 0, 1) := by decide +kernel
theorem dX16_ofMonitor_30 : decode cX16_ofMonitor 30 = .ok (.iconst 2, 1) := by decide +kernel
theorem dX16_ofMonitor_31 : decode cX16_ofMonitor 31 = .ok (.invokevirtual 229, 3) := by decide +kernel
theorem dX16_ofMonitor_34 : decode cX16_ofMonitor 34 = .ok (.ireturn, 1) := by decide +kernel
theorem dX16_ofMonitor_35 : decode cX16_ofMonitor 35 = .ok (.aload_n 0, 1) := by decide +kernel
theorem dX16_ofMonitor_36 : decode cX16_ofMonitor 36 = .ok (.iload_n 1, 1) := by decide +kernel
theorem dX16_ofMonitor_37 : decode cX16_ofMonitor 37 = .ok (.iload_n 2, 1) := by decide +kernel
theorem dX16_ofMonitor_38 : decode cX16_ofMonitor 38 = .ok (.invokevirtual 270, 3) := by decide +kernel
theorem dX16_ofMonitor_41 : decode cX16_ofMonitor 41 = .ok (.ireturn, 1) := by decide +kernel
abbrev rm_m_X16_ofMonitor : Room := { frames := 4, cells := 0, slots := 0, locals := 87 }
set_option maxHeartbeats 4000000 in
set_option maxRecDepth 100000 in
theorem m_X16_ofMonitor {s0 : State} {l : Launch} {D : va_G} {cy : Nat → ClassId} (G : Gl s0 l D cy) (S : HS) (ea ns nj nm nt nr nq : Nat) (h : RI ea S ns nj nm nt nr nq) (hea : ea = eaOf s0) (hQ : QI s0 S nq nt) (hZr : Zr S) (A : HS) (g0 : Nat) (hF : RF s0 S A nq nt) (hg : mI S 257 0 = nI g0) (a b : Int32) : Ctr s0 l D cy yX16_ofMonitor cX16_ofMonitor 3 (some .int) rm_m_X16_ofMonitor S [.ref (gG S 16 0), .int a, .int b] (PF s0 S (ns, nj, nm, nr, nt, g0, A) (dK nm 8 a b) (rMonNow A a.toNatClampNeg b.toNatClampNeg) (ns, nj, nm, nr, nt, g0, A)) := by
  refine pro "CavershamShiftModel" G rfl rfl (Nat.le_of_ble_eq_true rfl) (fun p e s m below meth c ls X w hnm hl => ?_)
  have hx := X.1
  have hb := X.2.1
  have hown := X.2.2.2.1
  have hts := X.2.2.2.2.1
  have hl : lv_has ls 3 [(0, .ref (gG S 16 0)), (1, .int a), (2, .int b)] := hl
  have h0 := h
  have hK : Kq hvTm hiTm hrTm S S := Kq.rf
  have hE : RE S A := hF.re
  have hF0 : RF s0 (sI S 256 0 0) A nq nt := hF.oI rfl
  refine lv_aload_n hx hb dX16_ofMonitor_0 rfl (lv_at hl 0 rfl) ?_
  refine lv_iconst (v := 0) hx hb dX16_ofMonitor_1 (by decide) ?_
  refine p_16_0 (S := S) (x := 0) X w h.v wF_X16_43 dX16_ofMonitor_2 (fun H locs w => ?_)
  have h : RI ea (sI S 256 0 0) ns nj nm nt nr nq := h.stI (by decide)
  have hK : Kq hvTm hiTm hrTm S (sI S 256 0 0) := hK.sI rfl
  refine lv_aload_n hx hb dX16_ofMonitor_5 rfl (lv_at hl 0 rfl) ?_
  refine lv_iload_n hx hb dX16_ofMonitor_6 rfl (lv_at hl 1 rfl) ?_
  refine cV (S := (sI S 256 0 0)) (nA := 1) (As := [.int a]) (rest := []) X w hl h.v (m_X16_isMonitor G (sI S 256 0 0) ea ns nj nm nt nr nq h a) wY_X16_isMonitor wM_X16_241 wIn_X16_isMonitor wSe_X16_X16_isMonitor wI_X16 (by decide) rfl (by decide +kernel) rfl rfl dX16_ofMonitor_7 ⟨by decide, by decide⟩ (Nat.le_of_ble_eq_true rfl) (⟨Nat.le_of_ble_eq_true rfl, Nat.le_of_ble_eq_true rfl⟩) (fun v1 S1 H locs hp w => ?_)
  obtain ⟨rfl, rfl⟩ := hp
  refine lv_if_ne (tgt := 19) hx hb dX16_ofMonitor_10 (by decide) (fun hy10 => ?_) (fun hy10 => ?_)
  · obtain ⟨j2, hlj2, hvj2⟩ := out_in (n := nm) (by have hb1 := h.b_mo; omega) ((by simpa using b2i_t hy10))
    rw [hvj2] at hl
    refine lv_iload_n hx hb dX16_ofMonitor_19 rfl (lv_at hl 2 rfl) ?_
    refine lv_iconst (v := 0) hx hb dX16_ofMonitor_20 (by decide) ?_
    refine lv_bipush (v := 8) hx hb dX16_ofMonitor_21 (by decide) ?_
    refine cS (S := (sI S 256 0 0)) (nA := 3) (As := [.int b, .int 0, .int 8]) (rest := []) X w hl (m_X16_in G (sI S 256 0 0) b 0 8) wY_X16_in wM_X16_224 wSt_X16_in wI_X16 (by decide +kernel) rfl rfl dX16_ofMonitor_23 ⟨by decide, by decide⟩ (Nat.le_of_ble_eq_true rfl) (⟨Nat.le_of_ble_eq_true rfl, Nat.le_of_ble_eq_true rfl⟩) (fun v3 S1 H locs hp w => ?_)
    obtain ⟨rfl, rfl⟩ := hp
    refine lv_if_ne (tgt := 35) hx hb dX16_ofMonitor_26 (by decide) (fun hy26 => ?_) (fun hy26 => ?_)
    · obtain ⟨j4, hlj4, hvj4⟩ := out_in (n := 9) (by decide) (by rw [show (nI 9 - 1 : Int32) = 8 by decide]; exact (by simpa using b2i_t hy26))
      rw [hvj4] at hl
      refine lv_aload_n hx hb dX16_ofMonitor_35 rfl (lv_at hl 0 rfl) ?_
      refine lv_iload_n hx hb dX16_ofMonitor_36 rfl (lv_at hl 1 rfl) ?_
      refine lv_iload_n hx hb dX16_ofMonitor_37 rfl (lv_at hl 2 rfl) ?_
      refine cV (S := (sI S 256 0 0)) (nA := 2) (As := [.int (nI j2), .int (nI j4)]) (rest := []) X w hl h.v (m_X16_monitorNow G (sI S 256 0 0) ea ns nj nm nt nr nq h j2 j4 hlj2 hlj4) wY_X16_monitorNow wM_X16_270 wIn_X16_monitorNow wSe_X16_X16_monitorNow wI_X16 (by decide) rfl (by decide +kernel) rfl rfl dX16_ofMonitor_38 ⟨by decide, by decide⟩ (Nat.le_of_ble_eq_true rfl) (⟨Nat.le_of_ble_eq_true rfl, Nat.le_of_ble_eq_true rfl⟩) (fun v5 S1 H locs hp w => ?_)
      obtain ⟨rfl, rfl⟩ := hp
      exact rI X w rfl dX16_ofMonitor_41 (by decide) (by decide) (Or.inr ⟨by have z10 : sOut a 0 (nI nm - 1) = false := (by simpa using b2i_t hy10); have z26 : sOut b 0 8 = false := (by simpa using b2i_t hy26); simp [dK, z10, z26], by rw [tnI (a := a) (by assumption) (Nat.le_trans h.b_mo (by decide)) (by assumption), tnI (n := 9) (a := b) (by assumption) (by decide) (by assumption), ← hF0.mon]; first | done | rfl, ⟨_, hea ▸ h, hQ, hZr, hF.keepT hK, (hK.I (f := 257) (i := 0) rfl).trans hg⟩, Kq.rB (kTR hK), rfl⟩)
    · refine lv_aload_n hx hb dX16_ofMonitor_29 rfl (lv_at hl 0 rfl) ?_
      refine lv_iconst (v := 2) hx hb dX16_ofMonitor_30 (by decide) ?_
      refine cV (S := (sI S 256 0 0)) (nA := 1) (As := [.int 2]) (rest := []) X w hl h.v (m_X16_no G (sI S 256 0 0) ea ns nj nm nt nr nq h 2) wY_X16_no wM_X16_229 wIn_X16_no wSe_X16_X16_no wI_X16 (by decide) rfl (by decide +kernel) rfl rfl dX16_ofMonitor_31 ⟨by decide, by decide⟩ (Nat.le_of_ble_eq_true rfl) (⟨Nat.le_of_ble_eq_true rfl, Nat.le_of_ble_eq_true rfl⟩) (fun v6 S1 H locs hp w => ?_)
      obtain ⟨rfl, rfl⟩ := hp
      have h : RI ea (sI (sI S 256 0 0) 256 0 2) ns nj nm nt nr nq := h.stI (by decide)
      have hK : Kq hvTm hiTm hrTm S (sI (sI S 256 0 0) 256 0 2) := hK.sI rfl
      exact rI X w rfl dX16_ofMonitor_34 (by decide) (by decide) (pf_x (k := 2) (by first | (have z10 : sOut a 0 (nI nm - 1) = false := (by simpa using b2i_t hy10); have y : sOut b 0 8 = true := (by simpa using b2i_f hy26); simp [dK, z10, y])) (by decide) (by decide) ⟨_, hea ▸ h, hQ, hZr, (hF.oI rfl).oI rfl, hg⟩)
  · refine lv_aload_n hx hb dX16_ofMonitor_13 rfl (lv_at hl 0 rfl) ?_
    refine lv_iconst (v := 1) hx hb dX16_ofMonitor_14 (by decide) ?_
    refine cV (S := (sI S 256 0 0)) (nA := 1) (As := [.int 1]) (rest := []) X w hl h.v (m_X16_no G (sI S 256 0 0) ea ns nj nm nt nr nq h 1) wY_X16_no wM_X16_229 wIn_X16_no wSe_X16_X16_no wI_X16 (by decide) rfl (by decide +kernel) rfl rfl dX16_ofMonitor_15 ⟨by decide, by decide⟩ (Nat.le_of_ble_eq_true rfl) (⟨Nat.le_of_ble_eq_true rfl, Nat.le_of_ble_eq_true rfl⟩) (fun v7 S1 H locs hp w => ?_)
    obtain ⟨rfl, rfl⟩ := hp
    have h : RI ea (sI (sI S 256 0 0) 256 0 1) ns nj nm nt nr nq := h.stI (by decide)
    have hK : Kq hvTm hiTm hrTm S (sI (sI S 256 0 0) 256 0 1) := hK.sI rfl
    exact rI X w rfl dX16_ofMonitor_18 (by decide) (by decide) (pf_x (k := 1) (by first | (have y : sOut a 0 (nI nm - 1) = true := (by simpa using b2i_f hy10); simp [dK, y])) (by decide) (by decide) ⟨_, hea ▸ h, hQ, hZr, (hF.oI rfl).oI rfl, hg⟩)

theorem dX16_ofTalk_0 : decode cX16_ofTalk 0 = .ok (.aload_n 0, 1) := by decide +kernel
theorem dX16_ofTalk_1 : decode cX16_ofTalk 1 = .ok (.iconst 0, 1) := by decide +kernel
theorem dX16_ofTalk_2 : decode cX16_ofTalk 2 = .ok (.putfield 43, 3) := by decide +kernel
theorem dX16_ofTalk_5 : decode cX16_ofTalk 5 = .ok (.aload_n 0, 1) := by decide +kernel
theorem dX16_ofTalk_6 : decode cX16_ofTalk 6 = .ok (.iload_n 1, 1) := by decide +kernel
theorem dX16_ofTalk_7 : decode cX16_ofTalk 7 = .ok (.invokevirtual 246, 3) := by decide +kernel
theorem dX16_ofTalk_10 : decode cX16_ofTalk 10 = .ok (.ifCond .ne 9, 3) := by decide +kernel
theorem dX16_ofTalk_13 : decode cX16_ofTalk 13 = .ok (.aload_n 0, 1) := by decide +kernel
theorem dX16_ofTalk_14 : decode cX16_ofTalk 14 = .ok (.iconst 1, 1) := by decide +kernel
theorem dX16_ofTalk_15 : decode cX16_ofTalk 15 = .ok (.invokevirtual 229, 3) := by decide +kernel
theorem dX16_ofTalk_18 : decode cX16_ofTalk 18 = .ok (.ireturn, 1) := by decide +kernel
theorem dX16_ofTalk_19 : decode cX16_ofTalk 19 = .ok (.iload_n 2, 1) := by decide +kernel
theorem dX16_ofTalk_20 : decode cX16_ofTalk 20 = .ok (.iconst 0, 1) := by decide +kernel
theorem dX16_ofTalk_21 : decode cX16_ofTalk 21 = .ok (.bipush 7, 2) := by decide +kernel
theorem dX16_ofTalk_23 : decode cX16_ofTalk 23 = .ok (.invokestatic 224, 3) := by decide +kernel
theorem dX16_ofTalk_26 : decode cX16_ofTalk 26 = .ok (.ifCond .ne 9, 3) := by decide +kernel
theorem dX16_ofTalk_29 : decode cX16_ofTalk 29 = .ok (.aload_n 0, 1) := by decide +kernel
theorem dX16_ofTalk_30 : decode cX16_ofTalk 30 = .ok (.iconst 2, 1) := by decide +kernel
theorem dX16_ofTalk_31 : decode cX16_ofTalk 31 = .ok (.invokevirtual 229, 3) := by decide +kernel
theorem dX16_ofTalk_34 : decode cX16_ofTalk 34 = .ok (.ireturn, 1) := by decide +kernel
theorem dX16_ofTalk_35 : decode cX16_ofTalk 35 = .ok (.aload_n 0, 1) := by decide +kernel
theorem dX16_ofTalk_36 : decode cX16_ofTalk 36 = .ok (.iload_n 1, 1) := by decide +kernel
theorem dX16_ofTalk_37 : decode cX16_ofTalk 37 = .ok (.iload_n 2, 1) := by decide +kernel
theorem dX16_ofTalk_38 : decode cX16_ofTalk 38 = .ok (.invokevirtual 279, 3) := by decide +kernel
theorem dX16_ofTalk_41 : decode cX16_ofTalk 41 = .ok (.ireturn, 1) := by decide +kernel
abbrev rm_m_X16_ofTalk : Room := { frames := 4, cells := 1, slots := 8, locals := 88 }
set_option maxHeartbeats 4000000 in
set_option maxRecDepth 100000 in
theorem m_X16_ofTalk {s0 : State} {l : Launch} {D : va_G} {cy : Nat → ClassId} (G : Gl s0 l D cy) (S : HS) (ea ns nj nm nt nr nq : Nat) (h : RI ea S ns nj nm nt nr nq) (hea : ea = eaOf s0) (hQ : QI s0 S nq nt) (hZr : Zr S) (A : HS) (g0 : Nat) (hF : RF s0 S A nq nt) (hg : mI S 257 0 = nI g0) (a b : Int32) : Ctr s0 l D cy yX16_ofTalk cX16_ofTalk 3 (some .int) rm_m_X16_ofTalk S [.ref (gG S 16 0), .int a, .int b] (PF s0 S (ns, nj, nm, nr, nt, g0, A) (dK nt 7 a b) (rTalkNow A a.toNatClampNeg b.toNatClampNeg) (ns, nj, nm, nr, nt, g0, A)) := by
  refine pro "CavershamShiftModel" G rfl rfl (Nat.le_of_ble_eq_true rfl) (fun p e s m below meth c ls X w hnm hl => ?_)
  have hx := X.1
  have hb := X.2.1
  have hown := X.2.2.2.1
  have hts := X.2.2.2.2.1
  have hl : lv_has ls 3 [(0, .ref (gG S 16 0)), (1, .int a), (2, .int b)] := hl
  have h0 := h
  have hK : Kq hvTm hiTm hrTm S S := Kq.rf
  have hE : RE S A := hF.re
  have hF0 : RF s0 (sI S 256 0 0) A nq nt := hF.oI rfl
  refine lv_aload_n hx hb dX16_ofTalk_0 rfl (lv_at hl 0 rfl) ?_
  refine lv_iconst (v := 0) hx hb dX16_ofTalk_1 (by decide) ?_
  refine p_16_0 (S := S) (x := 0) X w h.v wF_X16_43 dX16_ofTalk_2 (fun H locs w => ?_)
  have h : RI ea (sI S 256 0 0) ns nj nm nt nr nq := h.stI (by decide)
  have hK : Kq hvTm hiTm hrTm S (sI S 256 0 0) := hK.sI rfl
  refine lv_aload_n hx hb dX16_ofTalk_5 rfl (lv_at hl 0 rfl) ?_
  refine lv_iload_n hx hb dX16_ofTalk_6 rfl (lv_at hl 1 rfl) ?_
  refine cV (S := (sI S 256 0 0)) (nA := 1) (As := [.int a]) (rest := []) X w hl h.v (m_X16_isTalk G (sI S 256 0 0) ea ns nj nm nt nr nq h a) wY_X16_isTalk wM_X16_246 wIn_X16_isTalk wSe_X16_X16_isTalk wI_X16 (by decide) rfl (by decide +kernel) rfl rfl dX16_ofTalk_7 ⟨by decide, by decide⟩ (Nat.le_of_ble_eq_true rfl) (⟨Nat.le_of_ble_eq_true rfl, Nat.le_of_ble_eq_true rfl⟩) (fun v1 S1 H locs hp w => ?_)
  obtain ⟨rfl, rfl⟩ := hp
  refine lv_if_ne (tgt := 19) hx hb dX16_ofTalk_10 (by decide) (fun hy10 => ?_) (fun hy10 => ?_)
  · obtain ⟨j2, hlj2, hvj2⟩ := out_in (n := nt) (by have hb1 := h.b_ta; omega) ((by simpa using b2i_t hy10))
    rw [hvj2] at hl
    refine lv_iload_n hx hb dX16_ofTalk_19 rfl (lv_at hl 2 rfl) ?_
    refine lv_iconst (v := 0) hx hb dX16_ofTalk_20 (by decide) ?_
    refine lv_bipush (v := 7) hx hb dX16_ofTalk_21 (by decide) ?_
    refine cS (S := (sI S 256 0 0)) (nA := 3) (As := [.int b, .int 0, .int 7]) (rest := []) X w hl (m_X16_in G (sI S 256 0 0) b 0 7) wY_X16_in wM_X16_224 wSt_X16_in wI_X16 (by decide +kernel) rfl rfl dX16_ofTalk_23 ⟨by decide, by decide⟩ (Nat.le_of_ble_eq_true rfl) (⟨Nat.le_of_ble_eq_true rfl, Nat.le_of_ble_eq_true rfl⟩) (fun v3 S1 H locs hp w => ?_)
    obtain ⟨rfl, rfl⟩ := hp
    refine lv_if_ne (tgt := 35) hx hb dX16_ofTalk_26 (by decide) (fun hy26 => ?_) (fun hy26 => ?_)
    · obtain ⟨j4, hlj4, hvj4⟩ := out_in (n := 8) (by decide) (by rw [show (nI 8 - 1 : Int32) = 7 by decide]; exact (by simpa using b2i_t hy26))
      rw [hvj4] at hl
      refine lv_aload_n hx hb dX16_ofTalk_35 rfl (lv_at hl 0 rfl) ?_
      refine lv_iload_n hx hb dX16_ofTalk_36 rfl (lv_at hl 1 rfl) ?_
      refine lv_iload_n hx hb dX16_ofTalk_37 rfl (lv_at hl 2 rfl) ?_
      refine cV (S := (sI S 256 0 0)) (nA := 2) (As := [.int (nI j2), .int (nI j4)]) (rest := []) X w hl h.v (m_X16_talkNow G (sI S 256 0 0) ea ns nj nm nt nr nq h j2 j4 hlj2 hlj4 ((hZr.2 0).1)) wY_X16_talkNow wM_X16_279 wIn_X16_talkNow wSe_X16_X16_talkNow wI_X16 (by decide) rfl (by decide +kernel) rfl rfl dX16_ofTalk_38 ⟨by decide, by decide⟩ (Nat.le_of_ble_eq_true rfl) (⟨Nat.le_of_ble_eq_true rfl, Nat.le_of_ble_eq_true rfl⟩) (fun v5 S1 H locs hp w => ?_)
      obtain ⟨rfl, rfl⟩ := hp
      exact rI X w rfl dX16_ofTalk_41 (by decide) (by decide) (Or.inr ⟨by have z10 : sOut a 0 (nI nt - 1) = false := (by simpa using b2i_t hy10); have z26 : sOut b 0 7 = false := (by simpa using b2i_t hy26); simp [dK, z10, z26], by rw [tnI (a := a) (by assumption) (Nat.le_trans h.b_ta (by decide)) (by assumption), tnI (n := 8) (a := b) (by assumption) (by decide) (by assumption), ← hF0.talk]; first | done | rfl, ⟨_, hea ▸ h, hQ, hZr, hF.keepT hK, (hK.I (f := 257) (i := 0) rfl).trans hg⟩, Kq.rB (kTR hK), rfl⟩)
    · refine lv_aload_n hx hb dX16_ofTalk_29 rfl (lv_at hl 0 rfl) ?_
      refine lv_iconst (v := 2) hx hb dX16_ofTalk_30 (by decide) ?_
      refine cV (S := (sI S 256 0 0)) (nA := 1) (As := [.int 2]) (rest := []) X w hl h.v (m_X16_no G (sI S 256 0 0) ea ns nj nm nt nr nq h 2) wY_X16_no wM_X16_229 wIn_X16_no wSe_X16_X16_no wI_X16 (by decide) rfl (by decide +kernel) rfl rfl dX16_ofTalk_31 ⟨by decide, by decide⟩ (Nat.le_of_ble_eq_true rfl) (⟨Nat.le_of_ble_eq_true rfl, Nat.le_of_ble_eq_true rfl⟩) (fun v6 S1 H locs hp w => ?_)
      obtain ⟨rfl, rfl⟩ := hp
      have h : RI ea (sI (sI S 256 0 0) 256 0 2) ns nj nm nt nr nq := h.stI (by decide)
      have hK : Kq hvTm hiTm hrTm S (sI (sI S 256 0 0) 256 0 2) := hK.sI rfl
      exact rI X w rfl dX16_ofTalk_34 (by decide) (by decide) (pf_x (k := 2) (by first | (have z10 : sOut a 0 (nI nt - 1) = false := (by simpa using b2i_t hy10); have y : sOut b 0 7 = true := (by simpa using b2i_f hy26); simp [dK, z10, y])) (by decide) (by decide) ⟨_, hea ▸ h, hQ, hZr, (hF.oI rfl).oI rfl, hg⟩)
  · refine lv_aload_n hx hb dX16_ofTalk_13 rfl (lv_at hl 0 rfl) ?_
    refine lv_iconst (v := 1) hx hb dX16_ofTalk_14 (by decide) ?_
    refine cV (S := (sI S 256 0 0)) (nA := 1) (As := [.int 1]) (rest := []) X w hl h.v (m_X16_no G (sI S 256 0 0) ea ns nj nm nt nr nq h 1) wY_X16_no wM_X16_229 wIn_X16_no wSe_X16_X16_no wI_X16 (by decide) rfl (by decide +kernel) rfl rfl dX16_ofTalk_15 ⟨by decide, by decide⟩ (Nat.le_of_ble_eq_true rfl) (⟨Nat.le_of_ble_eq_true rfl, Nat.le_of_ble_eq_true rfl⟩) (fun v7 S1 H locs hp w => ?_)
    obtain ⟨rfl, rfl⟩ := hp
    have h : RI ea (sI (sI S 256 0 0) 256 0 1) ns nj nm nt nr nq := h.stI (by decide)
    have hK : Kq hvTm hiTm hrTm S (sI (sI S 256 0 0) 256 0 1) := hK.sI rfl
    exact rI X w rfl dX16_ofTalk_18 (by decide) (by decide) (pf_x (k := 1) (by first | (have y : sOut a 0 (nI nt - 1) = true := (by simpa using b2i_f hy10); simp [dK, y])) (by decide) (by decide) ⟨_, hea ▸ h, hQ, hZr, (hF.oI rfl).oI rfl, hg⟩)

theorem dX16_ofReport_0 : decode cX16_ofReport 0 = .ok (.aload_n 0, 1) := by decide +kernel
theorem dX16_ofReport_1 : decode cX16_ofReport 1 = .ok (.iconst 0, 1) := by decide +kernel
theorem dX16_ofReport_2 : decode cX16_ofReport 2 = .ok (.putfield 43, 3) := by decide +kernel
theorem dX16_ofReport_5 : decode cX16_ofReport 5 = .ok (.aload_n 0, 1) := by decide +kernel
theorem dX16_ofReport_6 : decode cX16_ofReport 6 = .ok (.iload_n 1, 1) := by decide +kernel
theorem dX16_ofReport_7 : decode cX16_ofReport 7 = .ok (.invokevirtual 246, 3) := by decide +kernel
theorem dX16_ofReport_10 : decode cX16_ofReport 10 = .ok (.ifCond .ne 9, 3) := by decide +kernel
theorem dX16_ofReport_13 : decode cX16_ofReport 13 = .ok (.aload_n 0, 1) := by decide +kernel
theorem dX16_ofReport_14 : decode cX16_ofReport 14 = .ok (.iconst 1, 1) := by decide +kernel
theorem dX16_ofReport_15 : decode cX16_ofReport 15 = .ok (.invokevirtual 229, 3) := by decide +kernel
theorem dX16_ofReport_18 : decode cX16_ofReport 18 = .ok (.ireturn, 1) := by decide +kernel
theorem dX16_ofReport_19 : decode cX16_ofReport 19 = .ok (.iload_n 2, 1) := by decide +kernel
theorem dX16_ofReport_20 : decode cX16_ofReport 20 = .ok (.iconst 0, 1) := by decide +kernel
theorem dX16_ofReport_21 : decode cX16_ofReport 21 = .ok (.bipush 11, 2) := by decide +kernel
theorem dX16_ofReport_23 : decode cX16_ofReport 23 = .ok (.invokestatic 224, 3) := by decide +kernel
theorem dX16_ofReport_26 : decode cX16_ofReport 26 = .ok (.ifCond .ne 9, 3) := by decide +kernel
theorem dX16_ofReport_29 : decode cX16_ofReport 29 = .ok (.aload_n 0, 1) := by decide +kernel
theorem dX16_ofReport_30 : decode cX16_ofReport 30 = .ok (.iconst 2, 1) := by decide +kernel
theorem dX16_ofReport_31 : decode cX16_ofReport 31 = .ok (.invokevirtual 229, 3) := by decide +kernel
theorem dX16_ofReport_34 : decode cX16_ofReport 34 = .ok (.ireturn, 1) := by decide +kernel
theorem dX16_ofReport_35 : decode cX16_ofReport 35 = .ok (.aload_n 0, 1) := by decide +kernel
theorem dX16_ofReport_36 : decode cX16_ofReport 36 = .ok (.iload_n 1, 1) := by decide +kernel
theorem dX16_ofReport_37 : decode cX16_ofReport 37 = .ok (.iload_n 2, 1) := by decide +kernel
theorem dX16_ofReport_38 : decode cX16_ofReport 38 = .ok (.invokevirtual 290, 3) := by decide +kernel
theorem dX16_ofReport_41 : decode cX16_ofReport 41 = .ok (.ireturn, 1) := by decide +kernel
abbrev rm_m_X16_ofReport : Room := { frames := 5, cells := 1, slots := 12, locals := 105 }
set_option maxHeartbeats 4000000 in
set_option maxRecDepth 100000 in
theorem m_X16_ofReport {s0 : State} {l : Launch} {D : va_G} {cy : Nat → ClassId} (G : Gl s0 l D cy) (S : HS) (ea ns nj nm nt nr nq : Nat) (h : RI ea S ns nj nm nt nr nq) (hea : ea = eaOf s0) (hQ : QI s0 S nq nt) (hZr : Zr S) (A : HS) (g0 : Nat) (hF : RF s0 S A nq nt) (hg : mI S 257 0 = nI g0) (a b : Int32) : Ctr s0 l D cy yX16_ofReport cX16_ofReport 3 (some .int) rm_m_X16_ofReport S [.ref (gG S 16 0), .int a, .int b] (PF s0 S (ns, nj, nm, nr, nt, g0, A) (dK nt 11 a b) (if mI A 247 a.toNatClampNeg = -1 then -2 else rRepNow A a.toNatClampNeg b.toNatClampNeg) (ns, nj, nm, nr, nt, g0, A)) := by
  refine pro "CavershamShiftModel" G rfl rfl (Nat.le_of_ble_eq_true rfl) (fun p e s m below meth c ls X w hnm hl => ?_)
  have hx := X.1
  have hb := X.2.1
  have hown := X.2.2.2.1
  have hts := X.2.2.2.2.1
  have hl : lv_has ls 3 [(0, .ref (gG S 16 0)), (1, .int a), (2, .int b)] := hl
  have h0 := h
  have hK : Kq hvTm hiTm hrTm S S := Kq.rf
  have hE : RE S A := hF.re
  have hF0 : RF s0 (sI S 256 0 0) A nq nt := hF.oI rfl
  refine lv_aload_n hx hb dX16_ofReport_0 rfl (lv_at hl 0 rfl) ?_
  refine lv_iconst (v := 0) hx hb dX16_ofReport_1 (by decide) ?_
  refine p_16_0 (S := S) (x := 0) X w h.v wF_X16_43 dX16_ofReport_2 (fun H locs w => ?_)
  have h : RI ea (sI S 256 0 0) ns nj nm nt nr nq := h.stI (by decide)
  have hK : Kq hvTm hiTm hrTm S (sI S 256 0 0) := hK.sI rfl
  refine lv_aload_n hx hb dX16_ofReport_5 rfl (lv_at hl 0 rfl) ?_
  refine lv_iload_n hx hb dX16_ofReport_6 rfl (lv_at hl 1 rfl) ?_
  refine cV (S := (sI S 256 0 0)) (nA := 1) (As := [.int a]) (rest := []) X w hl h.v (m_X16_isTalk G (sI S 256 0 0) ea ns nj nm nt nr nq h a) wY_X16_isTalk wM_X16_246 wIn_X16_isTalk wSe_X16_X16_isTalk wI_X16 (by decide) rfl (by decide +kernel) rfl rfl dX16_ofReport_7 ⟨by decide, by decide⟩ (Nat.le_of_ble_eq_true rfl) (⟨Nat.le_of_ble_eq_true rfl, Nat.le_of_ble_eq_true rfl⟩) (fun v1 S1 H locs hp w => ?_)
  obtain ⟨rfl, rfl⟩ := hp
  refine lv_if_ne (tgt := 19) hx hb dX16_ofReport_10 (by decide) (fun hy10 => ?_) (fun hy10 => ?_)
  · obtain ⟨j2, hlj2, hvj2⟩ := out_in (n := nt) (by have hb1 := h.b_ta; omega) ((by simpa using b2i_t hy10))
    rw [hvj2] at hl
    refine lv_iload_n hx hb dX16_ofReport_19 rfl (lv_at hl 2 rfl) ?_
    refine lv_iconst (v := 0) hx hb dX16_ofReport_20 (by decide) ?_
    refine lv_bipush (v := 11) hx hb dX16_ofReport_21 (by decide) ?_
    refine cS (S := (sI S 256 0 0)) (nA := 3) (As := [.int b, .int 0, .int 11]) (rest := []) X w hl (m_X16_in G (sI S 256 0 0) b 0 11) wY_X16_in wM_X16_224 wSt_X16_in wI_X16 (by decide +kernel) rfl rfl dX16_ofReport_23 ⟨by decide, by decide⟩ (Nat.le_of_ble_eq_true rfl) (⟨Nat.le_of_ble_eq_true rfl, Nat.le_of_ble_eq_true rfl⟩) (fun v3 S1 H locs hp w => ?_)
    obtain ⟨rfl, rfl⟩ := hp
    refine lv_if_ne (tgt := 35) hx hb dX16_ofReport_26 (by decide) (fun hy26 => ?_) (fun hy26 => ?_)
    · obtain ⟨j4, hlj4, hvj4⟩ := out_in (n := 12) (by decide) (by rw [show (nI 12 - 1 : Int32) = 11 by decide]; exact (by simpa using b2i_t hy26))
      rw [hvj4] at hl
      refine lv_aload_n hx hb dX16_ofReport_35 rfl (lv_at hl 0 rfl) ?_
      refine lv_iload_n hx hb dX16_ofReport_36 rfl (lv_at hl 1 rfl) ?_
      refine lv_iload_n hx hb dX16_ofReport_37 rfl (lv_at hl 2 rfl) ?_
      refine cV (S := (sI S 256 0 0)) (nA := 2) (As := [.int (nI j2), .int (nI j4)]) (rest := []) X w hl h.v (m_X16_reportNow G (sI S 256 0 0) ea ns nj nm nt nr nq h j2 j4 hlj2 hlj4 ((hZr.2 0).1)) wY_X16_reportNow wM_X16_290 wIn_X16_reportNow wSe_X16_X16_reportNow wI_X16 (by decide) rfl (by decide +kernel) rfl rfl dX16_ofReport_38 ⟨by decide, by decide⟩ (Nat.le_of_ble_eq_true rfl) (⟨Nat.le_of_ble_eq_true rfl, Nat.le_of_ble_eq_true rfl⟩) (fun v5 S1 H locs hp w => ?_)
      obtain ⟨rfl, rfl⟩ := hp
      exact rI X w rfl dX16_ofReport_41 (by decide) (by decide) (Or.inr ⟨by have z10 : sOut a 0 (nI nt - 1) = false := (by simpa using b2i_t hy10); have z26 : sOut b 0 11 = false := (by simpa using b2i_t hy26); simp [dK, z10, z26], by rw [tnI (a := a) (by assumption) (Nat.le_trans h.b_ta (by decide)) (by assumption), tnI (n := 12) (a := b) (by assumption) (by decide) (by assumption), ← hF0.rep]; first | done | rfl, ⟨_, hea ▸ h, hQ, hZr, hF.keepT hK, (hK.I (f := 257) (i := 0) rfl).trans hg⟩, Kq.rB (kTR hK), rfl⟩)
    · refine lv_aload_n hx hb dX16_ofReport_29 rfl (lv_at hl 0 rfl) ?_
      refine lv_iconst (v := 2) hx hb dX16_ofReport_30 (by decide) ?_
      refine cV (S := (sI S 256 0 0)) (nA := 1) (As := [.int 2]) (rest := []) X w hl h.v (m_X16_no G (sI S 256 0 0) ea ns nj nm nt nr nq h 2) wY_X16_no wM_X16_229 wIn_X16_no wSe_X16_X16_no wI_X16 (by decide) rfl (by decide +kernel) rfl rfl dX16_ofReport_31 ⟨by decide, by decide⟩ (Nat.le_of_ble_eq_true rfl) (⟨Nat.le_of_ble_eq_true rfl, Nat.le_of_ble_eq_true rfl⟩) (fun v6 S1 H locs hp w => ?_)
      obtain ⟨rfl, rfl⟩ := hp
      have h : RI ea (sI (sI S 256 0 0) 256 0 2) ns nj nm nt nr nq := h.stI (by decide)
      have hK : Kq hvTm hiTm hrTm S (sI (sI S 256 0 0) 256 0 2) := hK.sI rfl
      exact rI X w rfl dX16_ofReport_34 (by decide) (by decide) (pf_x (k := 2) (by first | (have z10 : sOut a 0 (nI nt - 1) = false := (by simpa using b2i_t hy10); have y : sOut b 0 11 = true := (by simpa using b2i_f hy26); simp [dK, z10, y])) (by decide) (by decide) ⟨_, hea ▸ h, hQ, hZr, (hF.oI rfl).oI rfl, hg⟩)
  · refine lv_aload_n hx hb dX16_ofReport_13 rfl (lv_at hl 0 rfl) ?_
    refine lv_iconst (v := 1) hx hb dX16_ofReport_14 (by decide) ?_
    refine cV (S := (sI S 256 0 0)) (nA := 1) (As := [.int 1]) (rest := []) X w hl h.v (m_X16_no G (sI S 256 0 0) ea ns nj nm nt nr nq h 1) wY_X16_no wM_X16_229 wIn_X16_no wSe_X16_X16_no wI_X16 (by decide) rfl (by decide +kernel) rfl rfl dX16_ofReport_15 ⟨by decide, by decide⟩ (Nat.le_of_ble_eq_true rfl) (⟨Nat.le_of_ble_eq_true rfl, Nat.le_of_ble_eq_true rfl⟩) (fun v7 S1 H locs hp w => ?_)
    obtain ⟨rfl, rfl⟩ := hp
    have h : RI ea (sI (sI S 256 0 0) 256 0 1) ns nj nm nt nr nq := h.stI (by decide)
    have hK : Kq hvTm hiTm hrTm S (sI (sI S 256 0 0) 256 0 1) := hK.sI rfl
    exact rI X w rfl dX16_ofReport_18 (by decide) (by decide) (pf_x (k := 1) (by first | (have y : sOut a 0 (nI nt - 1) = true := (by simpa using b2i_f hy10); simp [dK, y])) (by decide) (by decide) ⟨_, hea ▸ h, hQ, hZr, (hF.oI rfl).oI rfl, hg⟩)

theorem dX16_ofReader_0 : decode cX16_ofReader 0 = .ok (.aload_n 0, 1) := by decide +kernel
theorem dX16_ofReader_1 : decode cX16_ofReader 1 = .ok (.iconst 0, 1) := by decide +kernel
theorem dX16_ofReader_2 : decode cX16_ofReader 2 = .ok (.putfield 43, 3) := by decide +kernel
theorem dX16_ofReader_5 : decode cX16_ofReader 5 = .ok (.aload_n 0, 1) := by decide +kernel
theorem dX16_ofReader_6 : decode cX16_ofReader 6 = .ok (.iload_n 1, 1) := by decide +kernel
theorem dX16_ofReader_7 : decode cX16_ofReader 7 = .ok (.invokevirtual 259, 3) := by decide +kernel
theorem dX16_ofReader_10 : decode cX16_ofReader 10 = .ok (.ifCond .ne 9, 3) := by decide +kernel
theorem dX16_ofReader_13 : decode cX16_ofReader 13 = .ok (.aload_n 0, 1) := by decide +kernel
theorem dX16_ofReader_14 : decode cX16_ofReader 14 = .ok (.iconst 1, 1) := by decide +kernel
theorem dX16_ofReader_15 : decode cX16_ofReader 15 = .ok (.invokevirtual 229, 3) := by decide +kernel
theorem dX16_ofReader_18 : decode cX16_ofReader 18 = .ok (.ireturn, 1) := by decide +kernel
theorem dX16_ofReader_19 : decode cX16_ofReader 19 = .ok (.iload_n 2, 1) := by decide +kernel
theorem dX16_ofReader_20 : decode cX16_ofReader 20 = .ok (.iconst 0, 1) := by decide +kernel
theorem dX16_ofReader_21 : decode cX16_ofReader 21 = .ok (.iconst 4, 1) := by decide +kernel
theorem dX16_ofReader_22 : decode cX16_ofReader 22 = .ok (.invokestatic 224, 3) := by decide +kernel
theorem dX16_ofReader_25 : decode cX16_ofReader 25 = .ok (.ifCond .ne 9, 3) := by decide +kernel
theorem dX16_ofReader_28 : decode cX16_ofReader 28 = .ok (.aload_n 0, 1) := by decide +kernel
theorem dX16_ofReader_29 : decode cX16_ofReader 29 = .ok (.iconst 2, 1) := by decide +kernel
theorem dX16_ofReader_30 : decode cX16_ofReader 30 = .ok (.invokevirtual 229, 3) := by decide +kernel
theorem dX16_ofReader_33 : decode cX16_ofReader 33 = .ok (.ireturn, 1) := by decide +kernel
theorem dX16_ofReader_34 : decode cX16_ofReader 34 = .ok (.aload_n 0, 1) := by decide +kernel
theorem dX16_ofReader_35 : decode cX16_ofReader 35 = .ok (.iload_n 1, 1) := by decide +kernel
theorem dX16_ofReader_36 : decode cX16_ofReader 36 = .ok (.iload_n 2, 1) := by decide +kernel
theorem dX16_ofReader_37 : decode cX16_ofReader 37 = .ok (.invokevirtual 293, 3) := by decide +kernel
theorem dX16_ofReader_40 : decode cX16_ofReader 40 = .ok (.ireturn, 1) := by decide +kernel
abbrev rm_m_X16_ofReader : Room := { frames := 5, cells := 1, slots := 5, locals := 108 }
set_option maxHeartbeats 4000000 in
set_option maxRecDepth 100000 in
theorem m_X16_ofReader {s0 : State} {l : Launch} {D : va_G} {cy : Nat → ClassId} (G : Gl s0 l D cy) (S : HS) (ea ns nj nm nt nr nq : Nat) (h : RI ea S ns nj nm nt nr nq) (hea : ea = eaOf s0) (hQ : QI s0 S nq nt) (hZr : Zr S) (A : HS) (g0 : Nat) (hF : RF s0 S A nq nt) (hg : mI S 257 0 = nI g0) (a b : Int32) : Ctr s0 l D cy yX16_ofReader cX16_ofReader 3 (some .int) rm_m_X16_ofReader S [.ref (gG S 16 0), .int a, .int b] (PF s0 S (ns, nj, nm, nr, nt, g0, A) (dK nr 4 a b) (rReaNow A nt a.toNatClampNeg b.toNatClampNeg) (ns, nj, nm, nr, nt, g0, A)) := by
  refine pro "CavershamShiftModel" G rfl rfl (Nat.le_of_ble_eq_true rfl) (fun p e s m below meth c ls X w hnm hl => ?_)
  have hx := X.1
  have hb := X.2.1
  have hown := X.2.2.2.1
  have hts := X.2.2.2.2.1
  have hl : lv_has ls 3 [(0, .ref (gG S 16 0)), (1, .int a), (2, .int b)] := hl
  have h0 := h
  have hK : Kq hvTm hiTm hrTm S S := Kq.rf
  have hE : RE S A := hF.re
  have hF0 : RF s0 (sI S 256 0 0) A nq nt := hF.oI rfl
  refine lv_aload_n hx hb dX16_ofReader_0 rfl (lv_at hl 0 rfl) ?_
  refine lv_iconst (v := 0) hx hb dX16_ofReader_1 (by decide) ?_
  refine p_16_0 (S := S) (x := 0) X w h.v wF_X16_43 dX16_ofReader_2 (fun H locs w => ?_)
  have h : RI ea (sI S 256 0 0) ns nj nm nt nr nq := h.stI (by decide)
  have hK : Kq hvTm hiTm hrTm S (sI S 256 0 0) := hK.sI rfl
  refine lv_aload_n hx hb dX16_ofReader_5 rfl (lv_at hl 0 rfl) ?_
  refine lv_iload_n hx hb dX16_ofReader_6 rfl (lv_at hl 1 rfl) ?_
  refine cV (S := (sI S 256 0 0)) (nA := 1) (As := [.int a]) (rest := []) X w hl h.v (m_X16_isReader G (sI S 256 0 0) ea ns nj nm nt nr nq h a) wY_X16_isReader wM_X16_259 wIn_X16_isReader wSe_X16_X16_isReader wI_X16 (by decide) rfl (by decide +kernel) rfl rfl dX16_ofReader_7 ⟨by decide, by decide⟩ (Nat.le_of_ble_eq_true rfl) (⟨Nat.le_of_ble_eq_true rfl, Nat.le_of_ble_eq_true rfl⟩) (fun v1 S1 H locs hp w => ?_)
  obtain ⟨rfl, rfl⟩ := hp
  refine lv_if_ne (tgt := 19) hx hb dX16_ofReader_10 (by decide) (fun hy10 => ?_) (fun hy10 => ?_)
  · obtain ⟨j2, hlj2, hvj2⟩ := out_in (n := nr) (by have hb1 := h.b_re; omega) ((by simpa using b2i_t hy10))
    rw [hvj2] at hl
    refine lv_iload_n hx hb dX16_ofReader_19 rfl (lv_at hl 2 rfl) ?_
    refine lv_iconst (v := 0) hx hb dX16_ofReader_20 (by decide) ?_
    refine lv_iconst (v := 4) hx hb dX16_ofReader_21 (by decide) ?_
    refine cS (S := (sI S 256 0 0)) (nA := 3) (As := [.int b, .int 0, .int 4]) (rest := []) X w hl (m_X16_in G (sI S 256 0 0) b 0 4) wY_X16_in wM_X16_224 wSt_X16_in wI_X16 (by decide +kernel) rfl rfl dX16_ofReader_22 ⟨by decide, by decide⟩ (Nat.le_of_ble_eq_true rfl) (⟨Nat.le_of_ble_eq_true rfl, Nat.le_of_ble_eq_true rfl⟩) (fun v3 S1 H locs hp w => ?_)
    obtain ⟨rfl, rfl⟩ := hp
    refine lv_if_ne (tgt := 34) hx hb dX16_ofReader_25 (by decide) (fun hy25 => ?_) (fun hy25 => ?_)
    · obtain ⟨j4, hlj4, hvj4⟩ := out_in (n := 5) (by decide) (by rw [show (nI 5 - 1 : Int32) = 4 by decide]; exact (by simpa using b2i_t hy25))
      rw [hvj4] at hl
      refine lv_aload_n hx hb dX16_ofReader_34 rfl (lv_at hl 0 rfl) ?_
      refine lv_iload_n hx hb dX16_ofReader_35 rfl (lv_at hl 1 rfl) ?_
      refine lv_iload_n hx hb dX16_ofReader_36 rfl (lv_at hl 2 rfl) ?_
      refine cV (S := (sI S 256 0 0)) (nA := 2) (As := [.int (nI j2), .int (nI j4)]) (rest := []) X w hl h.v (m_X16_readerNow G (sI S 256 0 0) ea ns nj nm nt nr nq h j2 j4 hlj2 hlj4 ((hZr.2 0).1)) wY_X16_readerNow wM_X16_293 wIn_X16_readerNow wSe_X16_X16_readerNow wI_X16 (by decide) rfl (by decide +kernel) rfl rfl dX16_ofReader_37 ⟨by decide, by decide⟩ (Nat.le_of_ble_eq_true rfl) (⟨Nat.le_of_ble_eq_true rfl, Nat.le_of_ble_eq_true rfl⟩) (fun v5 S1 H locs hp w => ?_)
      obtain ⟨rfl, rfl⟩ := hp
      exact rI X w rfl dX16_ofReader_40 (by decide) (by decide) (Or.inr ⟨by have z10 : sOut a 0 (nI nr - 1) = false := (by simpa using b2i_t hy10); have z25 : sOut b 0 4 = false := (by simpa using b2i_t hy25); simp [dK, z10, z25], by rw [tnI (a := a) (by assumption) (Nat.le_trans h.b_re (by decide)) (by assumption), tnI (n := 5) (a := b) (by assumption) (by decide) (by assumption), ← hF0.rea]; first | done | rfl, ⟨_, hea ▸ h, hQ, hZr, hF.keepT hK, (hK.I (f := 257) (i := 0) rfl).trans hg⟩, Kq.rB (kTR hK), rfl⟩)
    · refine lv_aload_n hx hb dX16_ofReader_28 rfl (lv_at hl 0 rfl) ?_
      refine lv_iconst (v := 2) hx hb dX16_ofReader_29 (by decide) ?_
      refine cV (S := (sI S 256 0 0)) (nA := 1) (As := [.int 2]) (rest := []) X w hl h.v (m_X16_no G (sI S 256 0 0) ea ns nj nm nt nr nq h 2) wY_X16_no wM_X16_229 wIn_X16_no wSe_X16_X16_no wI_X16 (by decide) rfl (by decide +kernel) rfl rfl dX16_ofReader_30 ⟨by decide, by decide⟩ (Nat.le_of_ble_eq_true rfl) (⟨Nat.le_of_ble_eq_true rfl, Nat.le_of_ble_eq_true rfl⟩) (fun v6 S1 H locs hp w => ?_)
      obtain ⟨rfl, rfl⟩ := hp
      have h : RI ea (sI (sI S 256 0 0) 256 0 2) ns nj nm nt nr nq := h.stI (by decide)
      have hK : Kq hvTm hiTm hrTm S (sI (sI S 256 0 0) 256 0 2) := hK.sI rfl
      exact rI X w rfl dX16_ofReader_33 (by decide) (by decide) (pf_x (k := 2) (by first | (have z10 : sOut a 0 (nI nr - 1) = false := (by simpa using b2i_t hy10); have y : sOut b 0 4 = true := (by simpa using b2i_f hy25); simp [dK, z10, y])) (by decide) (by decide) ⟨_, hea ▸ h, hQ, hZr, (hF.oI rfl).oI rfl, hg⟩)
  · refine lv_aload_n hx hb dX16_ofReader_13 rfl (lv_at hl 0 rfl) ?_
    refine lv_iconst (v := 1) hx hb dX16_ofReader_14 (by decide) ?_
    refine cV (S := (sI S 256 0 0)) (nA := 1) (As := [.int 1]) (rest := []) X w hl h.v (m_X16_no G (sI S 256 0 0) ea ns nj nm nt nr nq h 1) wY_X16_no wM_X16_229 wIn_X16_no wSe_X16_X16_no wI_X16 (by decide) rfl (by decide +kernel) rfl rfl dX16_ofReader_15 ⟨by decide, by decide⟩ (Nat.le_of_ble_eq_true rfl) (⟨Nat.le_of_ble_eq_true rfl, Nat.le_of_ble_eq_true rfl⟩) (fun v7 S1 H locs hp w => ?_)
    obtain ⟨rfl, rfl⟩ := hp
    have h : RI ea (sI (sI S 256 0 0) 256 0 1) ns nj nm nt nr nq := h.stI (by decide)
    have hK : Kq hvTm hiTm hrTm S (sI (sI S 256 0 0) 256 0 1) := hK.sI rfl
    exact rI X w rfl dX16_ofReader_18 (by decide) (by decide) (pf_x (k := 1) (by first | (have y : sOut a 0 (nI nr - 1) = true := (by simpa using b2i_f hy10); simp [dK, y])) (by decide) (by decide) ⟨_, hea ▸ h, hQ, hZr, (hF.oI rfl).oI rfl, hg⟩)

theorem dX16_comes_0 : decode cX16_comes 0 = .ok (.aload_n 0, 1) := by decide +kernel
theorem dX16_comes_1 : decode cX16_comes 1 = .ok (.iconst 0, 1) := by decide +kernel
theorem dX16_comes_2 : decode cX16_comes 2 = .ok (.putfield 43, 3) := by decide +kernel
theorem dX16_comes_5 : decode cX16_comes 5 = .ok (.aload_n 0, 1) := by decide +kernel
theorem dX16_comes_6 : decode cX16_comes 6 = .ok (.iload_n 1, 1) := by decide +kernel
theorem dX16_comes_7 : decode cX16_comes 7 = .ok (.invokevirtual 235, 3) := by decide +kernel
theorem dX16_comes_10 : decode cX16_comes 10 = .ok (.ifCond .eq 13, 3) := by decide +kernel
theorem dX16_comes_13 : decode cX16_comes 13 = .ok (.iload_n 2, 1) := by decide +kernel
theorem dX16_comes_14 : decode cX16_comes 14 = .ok (.iconst 0, 1) := by decide +kernel
theorem dX16_comes_15 : decode cX16_comes 15 = .ok (.bipush 23, 2) := by decide +kernel
theorem dX16_comes_17 : decode cX16_comes 17 = .ok (.invokestatic 224, 3) := by decide +kernel
theorem dX16_comes_20 : decode cX16_comes 20 = .ok (.ifCond .ne 9, 3) := by decide +kernel
theorem dX16_comes_23 : decode cX16_comes 23 = .ok (.aload_n 0, 1) := by decide +kernel
theorem dX16_comes_24 : decode cX16_comes 24 = .ok (.iconst 1, 1) := by decide +kernel
theorem dX16_comes_25 : decode cX16_comes 25 = .ok (.invokevirtual 229, 3) := by decide +kernel
theorem dX16_comes_28 : decode cX16_comes 28 = .ok (.ireturn, 1) := by decide +kernel
theorem dX16_comes_29 : decode cX16_comes 29 = .ok (.aload_n 0, 1) := by decide +kernel
theorem dX16_comes_30 : decode cX16_comes 30 = .ok (.iload_n 1, 1) := by decide +kernel
theorem dX16_comes_31 : decode cX16_comes 31 = .ok (.iload_n 2, 1) := by decide +kernel
theorem dX16_comes_32 : decode cX16_comes 32 = .ok (.invokevirtual 85, 3) := by decide +kernel
theorem dX16_comes_35 : decode cX16_comes 35 = .ok (.ireturn, 1) := by decide +kernel
abbrev rm_m_X16_comes : Room := { frames := 5, cells := 0, slots := 0, locals := 112 }
set_option maxHeartbeats 4000000 in
set_option maxRecDepth 100000 in
theorem m_X16_comes {s0 : State} {l : Launch} {D : va_G} {cy : Nat → ClassId} (G : Gl s0 l D cy) (S : HS) (ea ns nj nm nt nr nq : Nat) (h : RI ea S ns nj nm nt nr nq) (hea : ea = eaOf s0) (hQ : QI s0 S nq nt) (hZr : Zr S) (A : HS) (g0 : Nat) (hF : RF s0 S A nq nt) (hg : mI S 257 0 = nI g0) (a b : Int32) : Ctr s0 l D cy yX16_comes cX16_comes 3 (some .int) rm_m_X16_comes S [.ref (gG S 16 0), .int a, .int b] (PF s0 S (ns, nj, nm, nr, nt, g0, A) (coK ns a b) (rComes A ns nj a.toNatClampNeg b) (ns, nj, nm, nr, nt, g0, A)) := by
  refine pro "CavershamShiftModel" G rfl rfl (Nat.le_of_ble_eq_true rfl) (fun p e s m below meth c ls X w hnm hl => ?_)
  have hx := X.1
  have hb := X.2.1
  have hown := X.2.2.2.1
  have hts := X.2.2.2.2.1
  have hl : lv_has ls 3 [(0, .ref (gG S 16 0)), (1, .int a), (2, .int b)] := hl
  have h0 := h
  have hK : Kq hvTm hiTm hrTm S S := Kq.rf
  have hE : RE S A := hF.re
  refine lv_aload_n hx hb dX16_comes_0 rfl (lv_at hl 0 rfl) ?_
  refine lv_iconst (v := 0) hx hb dX16_comes_1 (by decide) ?_
  refine p_16_0 (S := S) (x := 0) X w h.v wF_X16_43 dX16_comes_2 (fun H locs w => ?_)
  have h : RI ea (sI S 256 0 0) ns nj nm nt nr nq := h.stI (by decide)
  have hK : Kq hvTm hiTm hrTm S (sI S 256 0 0) := hK.sI rfl
  refine lv_aload_n hx hb dX16_comes_5 rfl (lv_at hl 0 rfl) ?_
  refine lv_iload_n hx hb dX16_comes_6 rfl (lv_at hl 1 rfl) ?_
  refine cV (S := (sI S 256 0 0)) (nA := 1) (As := [.int a]) (rest := []) X w hl h.v (m_X16_isStation G (sI S 256 0 0) ea ns nj nm nt nr nq h a) wY_X16_isStation wM_X16_235 wIn_X16_isStation wSe_X16_X16_isStation wI_X16 (by decide) rfl (by decide +kernel) rfl rfl dX16_comes_7 ⟨by decide, by decide⟩ (Nat.le_of_ble_eq_true rfl) (⟨Nat.le_of_ble_eq_true rfl, Nat.le_of_ble_eq_true rfl⟩) (fun v1 S1 H locs hp w => ?_)
  obtain ⟨rfl, rfl⟩ := hp
  refine lv_if_eq (tgt := 23) hx hb dX16_comes_10 (by decide) (fun hy10 => ?_) (fun hy10 => ?_)
  · refine lv_aload_n hx hb dX16_comes_23 rfl (lv_at hl 0 rfl) ?_
    refine lv_iconst (v := 1) hx hb dX16_comes_24 (by decide) ?_
    refine cV (S := (sI S 256 0 0)) (nA := 1) (As := [.int 1]) (rest := []) X w hl h.v (m_X16_no G (sI S 256 0 0) ea ns nj nm nt nr nq h 1) wY_X16_no wM_X16_229 wIn_X16_no wSe_X16_X16_no wI_X16 (by decide) rfl (by decide +kernel) rfl rfl dX16_comes_25 ⟨by decide, by decide⟩ (Nat.le_of_ble_eq_true rfl) (⟨Nat.le_of_ble_eq_true rfl, Nat.le_of_ble_eq_true rfl⟩) (fun v2 S1 H locs hp w => ?_)
    obtain ⟨rfl, rfl⟩ := hp
    have h : RI ea (sI (sI S 256 0 0) 256 0 1) ns nj nm nt nr nq := h.stI (by decide)
    have hK : Kq hvTm hiTm hrTm S (sI (sI S 256 0 0) 256 0 1) := hK.sI rfl
    exact rI X w rfl dX16_comes_28 (by decide) (by decide) (pf_x (k := 1) (by first | exact coK_1a (by simpa using b2i_f hy10) | exact coK_1b (by simpa using b2i_f hy20)) (by decide) (by decide) ⟨_, hea ▸ h, hQ, hZr, (hF.oI rfl).oI rfl, hg⟩)
  · obtain ⟨j3, hlj3, hvj3⟩ := out_in (n := ns) (by have hb1 := h.b_st; omega) ((by simpa using b2i_t hy10))
    rw [hvj3] at hl
    refine lv_iload_n hx hb dX16_comes_13 rfl (lv_at hl 2 rfl) ?_
    refine lv_iconst (v := 0) hx hb dX16_comes_14 (by decide) ?_
    refine lv_bipush (v := 23) hx hb dX16_comes_15 (by decide) ?_
    refine cS (S := (sI S 256 0 0)) (nA := 3) (As := [.int b, .int 0, .int 23]) (rest := []) X w hl (m_X16_in G (sI S 256 0 0) b 0 23) wY_X16_in wM_X16_224 wSt_X16_in wI_X16 (by decide +kernel) rfl rfl dX16_comes_17 ⟨by decide, by decide⟩ (Nat.le_of_ble_eq_true rfl) (⟨Nat.le_of_ble_eq_true rfl, Nat.le_of_ble_eq_true rfl⟩) (fun v4 S1 H locs hp w => ?_)
    obtain ⟨rfl, rfl⟩ := hp
    refine lv_if_ne (tgt := 29) hx hb dX16_comes_20 (by decide) (fun hy20 => ?_) (fun hy20 => ?_)
    · refine lv_aload_n hx hb dX16_comes_29 rfl (lv_at hl 0 rfl) ?_
      refine lv_iload_n hx hb dX16_comes_30 rfl (lv_at hl 1 rfl) ?_
      refine lv_iload_n hx hb dX16_comes_31 rfl (lv_at hl 2 rfl) ?_
      refine cV (S := (sI S 256 0 0)) (nA := 2) (As := [.int (nI j3), .int b]) (rest := []) X w hl h.v (m_X16_comesNow G (sI S 256 0 0) ea ns nj nm nt nr nq h j3 hlj3 b) wY_X16_comesNow wM_X16_85 wIn_X16_comesNow wSe_X16_X16_comesNow wI_X16 (by decide) rfl (by decide +kernel) rfl rfl dX16_comes_32 ⟨by decide, by decide⟩ (Nat.le_of_ble_eq_true rfl) (⟨Nat.le_of_ble_eq_true rfl, Nat.le_of_ble_eq_true rfl⟩) (fun v5 S1 H locs hp w => ?_)
      obtain ⟨rfl, rfl⟩ := hp
      exact rI X w rfl dX16_comes_35 (by decide) (by decide) (Or.inr ⟨coK_0 (by assumption) (by assumption) h.b_st (by simpa using b2i_t hy20), by rw [tnI (a := a) (by assumption) (Nat.le_trans h.b_st (by decide)) (by assumption), ← hE.comes]; first | done | rfl, ⟨_, hea ▸ h, hQ, hZr, hF.keepT hK, (hK.I (f := 257) (i := 0) rfl).trans hg⟩, Kq.rB (kTR hK), rfl⟩)
    · refine lv_aload_n hx hb dX16_comes_23 rfl (lv_at hl 0 rfl) ?_
      refine lv_iconst (v := 1) hx hb dX16_comes_24 (by decide) ?_
      refine cV (S := (sI S 256 0 0)) (nA := 1) (As := [.int 1]) (rest := []) X w hl h.v (m_X16_no G (sI S 256 0 0) ea ns nj nm nt nr nq h 1) wY_X16_no wM_X16_229 wIn_X16_no wSe_X16_X16_no wI_X16 (by decide) rfl (by decide +kernel) rfl rfl dX16_comes_25 ⟨by decide, by decide⟩ (Nat.le_of_ble_eq_true rfl) (⟨Nat.le_of_ble_eq_true rfl, Nat.le_of_ble_eq_true rfl⟩) (fun v6 S1 H locs hp w => ?_)
      obtain ⟨rfl, rfl⟩ := hp
      have h : RI ea (sI (sI S 256 0 0) 256 0 1) ns nj nm nt nr nq := h.stI (by decide)
      have hK : Kq hvTm hiTm hrTm S (sI (sI S 256 0 0) 256 0 1) := hK.sI rfl
      exact rI X w rfl dX16_comes_28 (by decide) (by decide) (pf_x (k := 1) (by first | exact coK_1a (by simpa using b2i_f hy10) | exact coK_1b (by simpa using b2i_f hy20)) (by decide) (by decide) ⟨_, hea ▸ h, hQ, hZr, (hF.oI rfl).oI rfl, hg⟩)

theorem dX16_quality_0 : decode cX16_quality 0 = .ok (.aload_n 0, 1) := by decide +kernel
theorem dX16_quality_1 : decode cX16_quality 1 = .ok (.iconst 0, 1) := by decide +kernel
theorem dX16_quality_2 : decode cX16_quality 2 = .ok (.putfield 43, 3) := by decide +kernel
theorem dX16_quality_5 : decode cX16_quality 5 = .ok (.aload_n 0, 1) := by decide +kernel
theorem dX16_quality_6 : decode cX16_quality 6 = .ok (.iload_n 1, 1) := by decide +kernel
theorem dX16_quality_7 : decode cX16_quality 7 = .ok (.invokevirtual 241, 3) := by decide +kernel
theorem dX16_quality_10 : decode cX16_quality 10 = .ok (.ifCond .eq 21, 3) := by decide +kernel
theorem dX16_quality_13 : decode cX16_quality 13 = .ok (.aload_n 0, 1) := by decide +kernel
theorem dX16_quality_14 : decode cX16_quality 14 = .ok (.iload_n 2, 1) := by decide +kernel
theorem dX16_quality_15 : decode cX16_quality 15 = .ok (.invokevirtual 235, 3) := by decide +kernel
theorem dX16_quality_18 : decode cX16_quality 18 = .ok (.ifCond .eq 13, 3) := by decide +kernel
theorem dX16_quality_21 : decode cX16_quality 21 = .ok (.iload_n 3, 1) := by decide +kernel
theorem dX16_quality_22 : decode cX16_quality 22 = .ok (.iconst 0, 1) := by decide +kernel
theorem dX16_quality_23 : decode cX16_quality 23 = .ok (.bipush 23, 2) := by decide +kernel
theorem dX16_quality_25 : decode cX16_quality 25 = .ok (.invokestatic 224, 3) := by decide +kernel
theorem dX16_quality_28 : decode cX16_quality 28 = .ok (.ifCond .ne 9, 3) := by decide +kernel
theorem dX16_quality_31 : decode cX16_quality 31 = .ok (.aload_n 0, 1) := by decide +kernel
theorem dX16_quality_32 : decode cX16_quality 32 = .ok (.iconst 1, 1) := by decide +kernel
theorem dX16_quality_33 : decode cX16_quality 33 = .ok (.invokevirtual 229, 3) := by decide +kernel
theorem dX16_quality_36 : decode cX16_quality 36 = .ok (.ireturn, 1) := by decide +kernel
theorem dX16_quality_37 : decode cX16_quality 37 = .ok (.aload_n 0, 1) := by decide +kernel
theorem dX16_quality_38 : decode cX16_quality 38 = .ok (.iload_n 1, 1) := by decide +kernel
theorem dX16_quality_39 : decode cX16_quality 39 = .ok (.iload_n 2, 1) := by decide +kernel
theorem dX16_quality_40 : decode cX16_quality 40 = .ok (.iload_n 3, 1) := by decide +kernel
theorem dX16_quality_41 : decode cX16_quality 41 = .ok (.invokevirtual 115, 3) := by decide +kernel
theorem dX16_quality_44 : decode cX16_quality 44 = .ok (.ireturn, 1) := by decide +kernel
abbrev rm_m_X16_quality : Room := { frames := 6, cells := 0, slots := 0, locals := 137 }
set_option maxHeartbeats 4000000 in
set_option maxRecDepth 100000 in
theorem m_X16_quality {s0 : State} {l : Launch} {D : va_G} {cy : Nat → ClassId} (G : Gl s0 l D cy) (S : HS) (ea ns nj nm nt nr nq : Nat) (h : RI ea S ns nj nm nt nr nq) (hea : ea = eaOf s0) (hQ : QI s0 S nq nt) (hZr : Zr S) (A : HS) (g0 : Nat) (hF : RF s0 S A nq nt) (hg : mI S 257 0 = nI g0) (a b d : Int32) : Ctr s0 l D cy yX16_quality cX16_quality 4 (some .int) rm_m_X16_quality S [.ref (gG S 16 0), .int a, .int b, .int d] (PF s0 S (ns, nj, nm, nr, nt, g0, A) (quK ns nm a b d) (rQual A ns nj a.toNatClampNeg b.toNatClampNeg d) (ns, nj, nm, nr, nt, g0, A)) := by
  refine pro "CavershamShiftModel" G rfl rfl (Nat.le_of_ble_eq_true rfl) (fun p e s m below meth c ls X w hnm hl => ?_)
  have hx := X.1
  have hb := X.2.1
  have hown := X.2.2.2.1
  have hts := X.2.2.2.2.1
  have hl : lv_has ls 4 [(0, .ref (gG S 16 0)), (1, .int a), (2, .int b), (3, .int d)] := hl
  have h0 := h
  have hK : Kq hvTm hiTm hrTm S S := Kq.rf
  have hE : RE S A := hF.re
  have hF0 : RF s0 (sI S 256 0 0) A nq nt := hF.oI rfl
  refine lv_aload_n hx hb dX16_quality_0 rfl (lv_at hl 0 rfl) ?_
  refine lv_iconst (v := 0) hx hb dX16_quality_1 (by decide) ?_
  refine p_16_0 (S := S) (x := 0) X w h.v wF_X16_43 dX16_quality_2 (fun H locs w => ?_)
  have h : RI ea (sI S 256 0 0) ns nj nm nt nr nq := h.stI (by decide)
  have hK : Kq hvTm hiTm hrTm S (sI S 256 0 0) := hK.sI rfl
  refine lv_aload_n hx hb dX16_quality_5 rfl (lv_at hl 0 rfl) ?_
  refine lv_iload_n hx hb dX16_quality_6 rfl (lv_at hl 1 rfl) ?_
  refine cV (S := (sI S 256 0 0)) (nA := 1) (As := [.int a]) (rest := []) X w hl h.v (m_X16_isMonitor G (sI S 256 0 0) ea ns nj nm nt nr nq h a) wY_X16_isMonitor wM_X16_241 wIn_X16_isMonitor wSe_X16_X16_isMonitor wI_X16 (by decide) rfl (by decide +kernel) rfl rfl dX16_quality_7 ⟨by decide, by decide⟩ (Nat.le_of_ble_eq_true rfl) (⟨Nat.le_of_ble_eq_true rfl, Nat.le_of_ble_eq_true rfl⟩) (fun v1 S1 H locs hp w => ?_)
  obtain ⟨rfl, rfl⟩ := hp
  refine lv_if_eq (tgt := 31) hx hb dX16_quality_10 (by decide) (fun hy10 => ?_) (fun hy10 => ?_)
  · refine lv_aload_n hx hb dX16_quality_31 rfl (lv_at hl 0 rfl) ?_
    refine lv_iconst (v := 1) hx hb dX16_quality_32 (by decide) ?_
    refine cV (S := (sI S 256 0 0)) (nA := 1) (As := [.int 1]) (rest := []) X w hl h.v (m_X16_no G (sI S 256 0 0) ea ns nj nm nt nr nq h 1) wY_X16_no wM_X16_229 wIn_X16_no wSe_X16_X16_no wI_X16 (by decide) rfl (by decide +kernel) rfl rfl dX16_quality_33 ⟨by decide, by decide⟩ (Nat.le_of_ble_eq_true rfl) (⟨Nat.le_of_ble_eq_true rfl, Nat.le_of_ble_eq_true rfl⟩) (fun v2 S1 H locs hp w => ?_)
    obtain ⟨rfl, rfl⟩ := hp
    have h : RI ea (sI (sI S 256 0 0) 256 0 1) ns nj nm nt nr nq := h.stI (by decide)
    have hK : Kq hvTm hiTm hrTm S (sI (sI S 256 0 0) 256 0 1) := hK.sI rfl
    exact rI X w rfl dX16_quality_36 (by decide) (by decide) (pf_x (k := 1) (by first | (have y : sOut a 0 (nI nm - 1) = true := (by simpa using b2i_f hy10); simp [quK, y]) | (have y : sOut b 0 (nI ns - 1) = true := (by simpa using b2i_f hy18); simp [quK, y]) | (have y : sOut d 0 23 = true := (by simpa using b2i_f hy28); simp [quK, y])) (by decide) (by decide) ⟨_, hea ▸ h, hQ, hZr, (hF.oI rfl).oI rfl, hg⟩)
  · obtain ⟨j3, hlj3, hvj3⟩ := out_in (n := nm) (by have hb1 := h.b_mo; omega) ((by simpa using b2i_t hy10))
    rw [hvj3] at hl
    refine lv_aload_n hx hb dX16_quality_13 rfl (lv_at hl 0 rfl) ?_
    refine lv_iload_n hx hb dX16_quality_14 rfl (lv_at hl 2 rfl) ?_
    refine cV (S := (sI S 256 0 0)) (nA := 1) (As := [.int b]) (rest := []) X w hl h.v (m_X16_isStation G (sI S 256 0 0) ea ns nj nm nt nr nq h b) wY_X16_isStation wM_X16_235 wIn_X16_isStation wSe_X16_X16_isStation wI_X16 (by decide) rfl (by decide +kernel) rfl rfl dX16_quality_15 ⟨by decide, by decide⟩ (Nat.le_of_ble_eq_true rfl) (⟨Nat.le_of_ble_eq_true rfl, Nat.le_of_ble_eq_true rfl⟩) (fun v4 S1 H locs hp w => ?_)
    obtain ⟨rfl, rfl⟩ := hp
    refine lv_if_eq (tgt := 31) hx hb dX16_quality_18 (by decide) (fun hy18 => ?_) (fun hy18 => ?_)
    · refine lv_aload_n hx hb dX16_quality_31 rfl (lv_at hl 0 rfl) ?_
      refine lv_iconst (v := 1) hx hb dX16_quality_32 (by decide) ?_
      refine cV (S := (sI S 256 0 0)) (nA := 1) (As := [.int 1]) (rest := []) X w hl h.v (m_X16_no G (sI S 256 0 0) ea ns nj nm nt nr nq h 1) wY_X16_no wM_X16_229 wIn_X16_no wSe_X16_X16_no wI_X16 (by decide) rfl (by decide +kernel) rfl rfl dX16_quality_33 ⟨by decide, by decide⟩ (Nat.le_of_ble_eq_true rfl) (⟨Nat.le_of_ble_eq_true rfl, Nat.le_of_ble_eq_true rfl⟩) (fun v5 S1 H locs hp w => ?_)
      obtain ⟨rfl, rfl⟩ := hp
      have h : RI ea (sI (sI S 256 0 0) 256 0 1) ns nj nm nt nr nq := h.stI (by decide)
      have hK : Kq hvTm hiTm hrTm S (sI (sI S 256 0 0) 256 0 1) := hK.sI rfl
      exact rI X w rfl dX16_quality_36 (by decide) (by decide) (pf_x (k := 1) (by first | (have y : sOut a 0 (nI nm - 1) = true := (by simpa using b2i_f hy10); simp [quK, y]) | (have y : sOut b 0 (nI ns - 1) = true := (by simpa using b2i_f hy18); simp [quK, y]) | (have y : sOut d 0 23 = true := (by simpa using b2i_f hy28); simp [quK, y])) (by decide) (by decide) ⟨_, hea ▸ h, hQ, hZr, (hF.oI rfl).oI rfl, hg⟩)
    · obtain ⟨j6, hlj6, hvj6⟩ := out_in (n := ns) (by have hb1 := h.b_st; omega) ((by simpa using b2i_t hy18))
      rw [hvj6] at hl
      refine lv_iload_n hx hb dX16_quality_21 rfl (lv_at hl 3 rfl) ?_
      refine lv_iconst (v := 0) hx hb dX16_quality_22 (by decide) ?_
      refine lv_bipush (v := 23) hx hb dX16_quality_23 (by decide) ?_
      refine cS (S := (sI S 256 0 0)) (nA := 3) (As := [.int d, .int 0, .int 23]) (rest := []) X w hl (m_X16_in G (sI S 256 0 0) d 0 23) wY_X16_in wM_X16_224 wSt_X16_in wI_X16 (by decide +kernel) rfl rfl dX16_quality_25 ⟨by decide, by decide⟩ (Nat.le_of_ble_eq_true rfl) (⟨Nat.le_of_ble_eq_true rfl, Nat.le_of_ble_eq_true rfl⟩) (fun v7 S1 H locs hp w => ?_)
      obtain ⟨rfl, rfl⟩ := hp
      refine lv_if_ne (tgt := 37) hx hb dX16_quality_28 (by decide) (fun hy28 => ?_) (fun hy28 => ?_)
      · refine lv_aload_n hx hb dX16_quality_37 rfl (lv_at hl 0 rfl) ?_
        refine lv_iload_n hx hb dX16_quality_38 rfl (lv_at hl 1 rfl) ?_
        refine lv_iload_n hx hb dX16_quality_39 rfl (lv_at hl 2 rfl) ?_
        refine lv_iload_n hx hb dX16_quality_40 rfl (lv_at hl 3 rfl) ?_
        refine cV (S := (sI S 256 0 0)) (nA := 3) (As := [.int (nI j3), .int (nI j6), .int d]) (rest := []) X w hl h.v (m_X16_qualityNow G (sI S 256 0 0) ea ns nj nm nt nr nq h j3 j6 hlj3 hlj6 d) wY_X16_qualityNow wM_X16_115 wIn_X16_qualityNow wSe_X16_X16_qualityNow wI_X16 (by decide) rfl (by decide +kernel) rfl rfl dX16_quality_41 ⟨by decide, by decide⟩ (Nat.le_of_ble_eq_true rfl) (⟨Nat.le_of_ble_eq_true rfl, Nat.le_of_ble_eq_true rfl⟩) (fun v8 S1 H locs hp w => ?_)
        obtain ⟨rfl, rfl⟩ := hp
        exact rI X w rfl dX16_quality_44 (by decide) (by decide) (Or.inr ⟨by have z10 : sOut a 0 (nI nm - 1) = false := (by simpa using b2i_t hy10); have z18 : sOut b 0 (nI ns - 1) = false := (by simpa using b2i_t hy18); have z28 : sOut d 0 23 = false := (by simpa using b2i_t hy28); simp [quK, z10, z18, z28], by rw [tnI (a := a) (by assumption) (Nat.le_trans h.b_mo (by decide)) (by assumption), tnI (a := b) (by assumption) (Nat.le_trans h.b_st (by decide)) (by assumption), ← hF0.qual]; first | done | rfl, ⟨_, hea ▸ h, hQ, hZr, hF.keepT hK, (hK.I (f := 257) (i := 0) rfl).trans hg⟩, Kq.rB (kTR hK), rfl⟩)
      · refine lv_aload_n hx hb dX16_quality_31 rfl (lv_at hl 0 rfl) ?_
        refine lv_iconst (v := 1) hx hb dX16_quality_32 (by decide) ?_
        refine cV (S := (sI S 256 0 0)) (nA := 1) (As := [.int 1]) (rest := []) X w hl h.v (m_X16_no G (sI S 256 0 0) ea ns nj nm nt nr nq h 1) wY_X16_no wM_X16_229 wIn_X16_no wSe_X16_X16_no wI_X16 (by decide) rfl (by decide +kernel) rfl rfl dX16_quality_33 ⟨by decide, by decide⟩ (Nat.le_of_ble_eq_true rfl) (⟨Nat.le_of_ble_eq_true rfl, Nat.le_of_ble_eq_true rfl⟩) (fun v9 S1 H locs hp w => ?_)
        obtain ⟨rfl, rfl⟩ := hp
        have h : RI ea (sI (sI S 256 0 0) 256 0 1) ns nj nm nt nr nq := h.stI (by decide)
        have hK : Kq hvTm hiTm hrTm S (sI (sI S 256 0 0) 256 0 1) := hK.sI rfl
        exact rI X w rfl dX16_quality_36 (by decide) (by decide) (pf_x (k := 1) (by first | (have y : sOut a 0 (nI nm - 1) = true := (by simpa using b2i_f hy10); simp [quK, y]) | (have y : sOut b 0 (nI ns - 1) = true := (by simpa using b2i_f hy18); simp [quK, y]) | (have y : sOut d 0 23 = true := (by simpa using b2i_f hy28); simp [quK, y])) (by decide) (by decide) ⟨_, hea ▸ h, hQ, hZr, (hF.oI rfl).oI rfl, hg⟩)

theorem dX16_sits_0 : decode cX16_sits 0 = .ok (.aload_n 0, 1) := by decide +kernel
theorem dX16_sits_1 : decode cX16_sits 1 = .ok (.iconst 0, 1) := by decide +kernel
theorem dX16_sits_2 : decode cX16_sits 2 = .ok (.putfield 43, 3) := by decide +kernel
theorem dX16_sits_5 : decode cX16_sits 5 = .ok (.iload_n 1, 1) := by decide +kernel
theorem dX16_sits_6 : decode cX16_sits 6 = .ok (.iconst 0, 1) := by decide +kernel
theorem dX16_sits_7 : decode cX16_sits 7 = .ok (.bipush 23, 2) := by decide +kernel
theorem dX16_sits_9 : decode cX16_sits 9 = .ok (.invokestatic 224, 3) := by decide +kernel
theorem dX16_sits_12 : decode cX16_sits 12 = .ok (.ifCond .eq 12, 3) := by decide +kernel
theorem dX16_sits_15 : decode cX16_sits 15 = .ok (.iload_n 2, 1) := by decide +kernel
theorem dX16_sits_16 : decode cX16_sits 16 = .ok (.iconst 0, 1) := by decide +kernel
theorem dX16_sits_17 : decode cX16_sits 17 = .ok (.iconst 2, 1) := by decide +kernel
theorem dX16_sits_18 : decode cX16_sits 18 = .ok (.invokestatic 224, 3) := by decide +kernel
theorem dX16_sits_21 : decode cX16_sits 21 = .ok (.ifCond .ne 9, 3) := by decide +kernel
theorem dX16_sits_24 : decode cX16_sits 24 = .ok (.aload_n 0, 1) := by decide +kernel
theorem dX16_sits_25 : decode cX16_sits 25 = .ok (.iconst 1, 1) := by decide +kernel
theorem dX16_sits_26 : decode cX16_sits 26 = .ok (.invokevirtual 229, 3) := by decide +kernel
theorem dX16_sits_29 : decode cX16_sits 29 = .ok (.ireturn, 1) := by decide +kernel
theorem dX16_sits_30 : decode cX16_sits 30 = .ok (.iload_n 3, 1) := by decide +kernel
theorem dX16_sits_31 : decode cX16_sits 31 = .ok (.ifCond .eq 14, 3) := by decide +kernel
theorem dX16_sits_34 : decode cX16_sits 34 = .ok (.aload_n 0, 1) := by decide +kernel
theorem dX16_sits_35 : decode cX16_sits 35 = .ok (.getfield 40, 3) := by decide +kernel
theorem dX16_sits_38 : decode cX16_sits 38 = .ok (.iload_n 1, 1) := by decide +kernel
theorem dX16_sits_39 : decode cX16_sits 39 = .ok (.aaload, 1) := by decide +kernel
theorem dX16_sits_40 : decode cX16_sits 40 = .ok (.iload_n 2, 1) := by decide +kernel
theorem dX16_sits_41 : decode cX16_sits 41 = .ok (.iaload, 1) := by decide +kernel
theorem dX16_sits_42 : decode cX16_sits 42 = .ok (.goto 11, 3) := by decide +kernel
theorem dX16_sits_45 : decode cX16_sits 45 = .ok (.aload_n 0, 1) := by decide +kernel
theorem dX16_sits_46 : decode cX16_sits 46 = .ok (.getfield 37, 3) := by decide +kernel
theorem dX16_sits_49 : decode cX16_sits 49 = .ok (.iload_n 1, 1) := by decide +kernel
theorem dX16_sits_50 : decode cX16_sits 50 = .ok (.aaload, 1) := by decide +kernel
theorem dX16_sits_51 : decode cX16_sits 51 = .ok (.iload_n 2, 1) := by decide +kernel
theorem dX16_sits_52 : decode cX16_sits 52 = .ok (.iaload, 1) := by decide +kernel
theorem dX16_sits_53 : decode cX16_sits 53 = .ok (.ireturn, 1) := by decide +kernel
abbrev rm_m_X16_sits : Room := { frames := 1, cells := 0, slots := 0, locals := 22 }
set_option maxHeartbeats 4000000 in
set_option maxRecDepth 100000 in
theorem m_X16_sits {s0 : State} {l : Launch} {D : va_G} {cy : Nat → ClassId} (G : Gl s0 l D cy) (S : HS) (ea ns nj nm nt nr nq : Nat) (h : RI ea S ns nj nm nt nr nq) (hea : ea = eaOf s0) (hQ : QI s0 S nq nt) (hZr : Zr S) (A : HS) (g0 : Nat) (hF : RF s0 S A nq nt) (hg : mI S 257 0 = nI g0) (a b z : Int32) : Ctr s0 l D cy yX16_sits cX16_sits 4 (some .int) rm_m_X16_sits S [.ref (gG S 16 0), .int a, .int b, .int z] (PF s0 S (ns, nj, nm, nr, nt, g0, A) (siK a b) (if z = 0 then mA A 36 a.toNatClampNeg b.toNatClampNeg else mA A 37 a.toNatClampNeg b.toNatClampNeg) (ns, nj, nm, nr, nt, g0, A)) := by
  refine pro "CavershamShiftModel" G rfl rfl (Nat.le_of_ble_eq_true rfl) (fun p e s m below meth c ls X w hnm hl => ?_)
  have hx := X.1
  have hb := X.2.1
  have hown := X.2.2.2.1
  have hts := X.2.2.2.2.1
  have hl : lv_has ls 4 [(0, .ref (gG S 16 0)), (1, .int a), (2, .int b), (3, .int z)] := hl
  have h0 := h
  have hK : Kq hvTm hiTm hrTm S S := Kq.rf
  have hE : RE S A := hF.re
  refine lv_aload_n hx hb dX16_sits_0 rfl (lv_at hl 0 rfl) ?_
  refine lv_iconst (v := 0) hx hb dX16_sits_1 (by decide) ?_
  refine p_16_0 (S := S) (x := 0) X w h.v wF_X16_43 dX16_sits_2 (fun H locs w => ?_)
  have h : RI ea (sI S 256 0 0) ns nj nm nt nr nq := h.stI (by decide)
  have hK : Kq hvTm hiTm hrTm S (sI S 256 0 0) := hK.sI rfl
  refine lv_iload_n hx hb dX16_sits_5 rfl (lv_at hl 1 rfl) ?_
  refine lv_iconst (v := 0) hx hb dX16_sits_6 (by decide) ?_
  refine lv_bipush (v := 23) hx hb dX16_sits_7 (by decide) ?_
  refine cS (S := (sI S 256 0 0)) (nA := 3) (As := [.int a, .int 0, .int 23]) (rest := []) X w hl (m_X16_in G (sI S 256 0 0) a 0 23) wY_X16_in wM_X16_224 wSt_X16_in wI_X16 (by decide +kernel) rfl rfl dX16_sits_9 ⟨by decide, by decide⟩ (Nat.le_of_ble_eq_true rfl) (⟨Nat.le_of_ble_eq_true rfl, Nat.le_of_ble_eq_true rfl⟩) (fun v1 S1 H locs hp w => ?_)
  obtain ⟨rfl, rfl⟩ := hp
  refine lv_if_eq (tgt := 24) hx hb dX16_sits_12 (by decide) (fun hy12 => ?_) (fun hy12 => ?_)
  · refine lv_aload_n hx hb dX16_sits_24 rfl (lv_at hl 0 rfl) ?_
    refine lv_iconst (v := 1) hx hb dX16_sits_25 (by decide) ?_
    refine cV (S := (sI S 256 0 0)) (nA := 1) (As := [.int 1]) (rest := []) X w hl h.v (m_X16_no G (sI S 256 0 0) ea ns nj nm nt nr nq h 1) wY_X16_no wM_X16_229 wIn_X16_no wSe_X16_X16_no wI_X16 (by decide) rfl (by decide +kernel) rfl rfl dX16_sits_26 ⟨by decide, by decide⟩ (Nat.le_of_ble_eq_true rfl) (⟨Nat.le_of_ble_eq_true rfl, Nat.le_of_ble_eq_true rfl⟩) (fun v2 S1 H locs hp w => ?_)
    obtain ⟨rfl, rfl⟩ := hp
    have h : RI ea (sI (sI S 256 0 0) 256 0 1) ns nj nm nt nr nq := h.stI (by decide)
    have hK : Kq hvTm hiTm hrTm S (sI (sI S 256 0 0) 256 0 1) := hK.sI rfl
    exact rI X w rfl dX16_sits_29 (by decide) (by decide) (pf_x (k := 1) (by first | exact siK_1a (by simpa using b2i_f hy12) | exact siK_1b (by simpa using b2i_f hy21)) (by decide) (by decide) ⟨_, hea ▸ h, hQ, hZr, (hF.oI rfl).oI rfl, hg⟩)
  · obtain ⟨j3, hlj3, hvj3⟩ := out_in (n := 24) (by decide) (by rw [show (nI 24 - 1 : Int32) = 23 by decide]; exact (by simpa using b2i_t hy12))
    rw [hvj3] at hl
    refine lv_iload_n hx hb dX16_sits_15 rfl (lv_at hl 2 rfl) ?_
    refine lv_iconst (v := 0) hx hb dX16_sits_16 (by decide) ?_
    refine lv_iconst (v := 2) hx hb dX16_sits_17 (by decide) ?_
    refine cS (S := (sI S 256 0 0)) (nA := 3) (As := [.int b, .int 0, .int 2]) (rest := []) X w hl (m_X16_in G (sI S 256 0 0) b 0 2) wY_X16_in wM_X16_224 wSt_X16_in wI_X16 (by decide +kernel) rfl rfl dX16_sits_18 ⟨by decide, by decide⟩ (Nat.le_of_ble_eq_true rfl) (⟨Nat.le_of_ble_eq_true rfl, Nat.le_of_ble_eq_true rfl⟩) (fun v4 S1 H locs hp w => ?_)
    obtain ⟨rfl, rfl⟩ := hp
    refine lv_if_ne (tgt := 30) hx hb dX16_sits_21 (by decide) (fun hy21 => ?_) (fun hy21 => ?_)
    · obtain ⟨j5, hlj5, hvj5⟩ := out_in (n := 3) (by decide) (by rw [show (nI 3 - 1 : Int32) = 2 by decide]; exact (by simpa using b2i_t hy21))
      rw [hvj5] at hl
      refine lv_iload_n hx hb dX16_sits_30 rfl (lv_at hl 3 rfl) ?_
      refine lv_if_eq (tgt := 45) hx hb dX16_sits_31 (by decide) (fun hz9 => ?_) (fun hz9 => ?_)
      · refine lv_aload_n hx hb dX16_sits_45 rfl (lv_at hl 0 rfl) ?_
        refine g_16_12 (S := (sI S 256 0 0)) (x := (some (gG (sI S 256 0 0) 38 0))) X w h.v wF_X16_37 (h.h1.2.2) dX16_sits_46 ?_
        refine lv_iload_n hx hb dX16_sits_49 rfl (lv_at hl 1 rfl) ?_
        refine aLdR (S := (sI S 256 0 0)) (t := 38) (v := (some (gG (sI S 256 0 0) 36 j3))) X w h.h1.1 (by decide) rfl rfl (Or.inr ⟨_, rfl⟩) (by rw [show mN (sI S 256 0 0) 38 0 = 24 from h.h1.2.1]; exact nI_vp hlj3 (by decide)) (by rw [cl_nI (n := 24) hlj3 (by decide)]; exact (h.h2 j3 hlj3).1) dX16_sits_50 ?_
        refine lv_iload_n hx hb dX16_sits_51 rfl (lv_at hl 2 rfl) ?_
        refine aLdI (S := (sI S 256 0 0)) (t := 36) (v := mA (sI S 256 0 0) 36 j3 j5) X w (h.h2 j3 hlj3).2.1 (by decide) rfl rfl (by rw [show mN (sI S 256 0 0) 36 j3 = 3 from (h.h2 j3 hlj3).2.2]; exact nI_vp hlj5 (by decide)) (by rw [cl_nI (n := 3) hlj5 (by decide)]) dX16_sits_52 ?_
        exact rI X w rfl dX16_sits_53 (by decide) (by decide) (Or.inr ⟨siK_0 (by simpa using b2i_t hy12) (by simpa using b2i_t hy21), by rw [tnI (n := 24) (a := a) (by assumption) (by decide) (by assumption), tnI (n := 3) (a := b) (by assumption) (by decide) (by assumption), ← (hE.2.2.1 _).2.1, ← (hE.2.2.1 _).2.2]; (first | rw [if_pos hz9] | rw [if_neg hz9]); first | done | rfl, ⟨_, hea ▸ h, hQ, hZr, hF.keepT hK, (hK.I (f := 257) (i := 0) rfl).trans hg⟩, Kq.rB (kTR hK), rfl⟩)
      · refine lv_aload_n hx hb dX16_sits_34 rfl (lv_at hl 0 rfl) ?_
        refine g_16_13 (S := (sI S 256 0 0)) (x := (some (gG (sI S 256 0 0) 38 1))) X w h.v wF_X16_40 (h.s1.2.2) dX16_sits_35 ?_
        refine lv_iload_n hx hb dX16_sits_38 rfl (lv_at hl 1 rfl) ?_
        refine aLdR (S := (sI S 256 0 0)) (t := 38) (v := (some (gG (sI S 256 0 0) 37 j3))) X w h.s1.1 (by decide) rfl rfl (Or.inr ⟨_, rfl⟩) (by rw [show mN (sI S 256 0 0) 38 1 = 24 from h.s1.2.1]; exact nI_vp hlj3 (by decide)) (by rw [cl_nI (n := 24) hlj3 (by decide)]; exact (h.s2 j3 hlj3).1) dX16_sits_39 ?_
        refine lv_iload_n hx hb dX16_sits_40 rfl (lv_at hl 2 rfl) ?_
        refine aLdI (S := (sI S 256 0 0)) (t := 37) (v := mA (sI S 256 0 0) 37 j3 j5) X w (h.s2 j3 hlj3).2.1 (by decide) rfl rfl (by rw [show mN (sI S 256 0 0) 37 j3 = 3 from (h.s2 j3 hlj3).2.2]; exact nI_vp hlj5 (by decide)) (by rw [cl_nI (n := 3) hlj5 (by decide)]) dX16_sits_41 ?_
        refine lv_goto (tgt := 53) hx hb dX16_sits_42 (by decide) ?_
        exact rI X w rfl dX16_sits_53 (by decide) (by decide) (Or.inr ⟨siK_0 (by simpa using b2i_t hy12) (by simpa using b2i_t hy21), by rw [tnI (n := 24) (a := a) (by assumption) (by decide) (by assumption), tnI (n := 3) (a := b) (by assumption) (by decide) (by assumption), ← (hE.2.2.1 _).2.1, ← (hE.2.2.1 _).2.2]; (first | rw [if_pos hz9] | rw [if_neg hz9]); first | done | rfl, ⟨_, hea ▸ h, hQ, hZr, hF.keepT hK, (hK.I (f := 257) (i := 0) rfl).trans hg⟩, Kq.rB (kTR hK), rfl⟩)
    · refine lv_aload_n hx hb dX16_sits_24 rfl (lv_at hl 0 rfl) ?_
      refine lv_iconst (v := 1) hx hb dX16_sits_25 (by decide) ?_
      refine cV (S := (sI S 256 0 0)) (nA := 1) (As := [.int 1]) (rest := []) X w hl h.v (m_X16_no G (sI S 256 0 0) ea ns nj nm nt nr nq h 1) wY_X16_no wM_X16_229 wIn_X16_no wSe_X16_X16_no wI_X16 (by decide) rfl (by decide +kernel) rfl rfl dX16_sits_26 ⟨by decide, by decide⟩ (Nat.le_of_ble_eq_true rfl) (⟨Nat.le_of_ble_eq_true rfl, Nat.le_of_ble_eq_true rfl⟩) (fun v6 S1 H locs hp w => ?_)
      obtain ⟨rfl, rfl⟩ := hp
      have h : RI ea (sI (sI S 256 0 0) 256 0 1) ns nj nm nt nr nq := h.stI (by decide)
      have hK : Kq hvTm hiTm hrTm S (sI (sI S 256 0 0) 256 0 1) := hK.sI rfl
      exact rI X w rfl dX16_sits_29 (by decide) (by decide) (pf_x (k := 1) (by first | exact siK_1a (by simpa using b2i_f hy12) | exact siK_1b (by simpa using b2i_f hy21)) (by decide) (by decide) ⟨_, hea ▸ h, hQ, hZr, (hF.oI rfl).oI rfl, hg⟩)

theorem dX16_got_0 : decode cX16_got 0 = .ok (.aload_n 0, 1) := by decide +kernel
theorem dX16_got_1 : decode cX16_got 1 = .ok (.iconst 0, 1) := by decide +kernel
theorem dX16_got_2 : decode cX16_got 2 = .ok (.putfield 43, 3) := by decide +kernel
theorem dX16_got_5 : decode cX16_got 5 = .ok (.aload_n 0, 1) := by decide +kernel
theorem dX16_got_6 : decode cX16_got 6 = .ok (.iload_n 1, 1) := by decide +kernel
theorem dX16_got_7 : decode cX16_got 7 = .ok (.invokevirtual 259, 3) := by decide +kernel
theorem dX16_got_10 : decode cX16_got 10 = .ok (.ifCond .eq 11, 3) := by decide +kernel
theorem dX16_got_13 : decode cX16_got 13 = .ok (.aload_n 0, 1) := by decide +kernel
theorem dX16_got_14 : decode cX16_got 14 = .ok (.iload_n 2, 1) := by decide +kernel
theorem dX16_got_15 : decode cX16_got 15 = .ok (.invokevirtual 246, 3) := by decide +kernel
theorem dX16_got_18 : decode cX16_got 18 = .ok (.ifCond .ne 9, 3) := by decide +kernel
theorem dX16_got_21 : decode cX16_got 21 = .ok (.aload_n 0, 1) := by decide +kernel
theorem dX16_got_22 : decode cX16_got 22 = .ok (.iconst 1, 1) := by decide +kernel
theorem dX16_got_23 : decode cX16_got 23 = .ok (.invokevirtual 229, 3) := by decide +kernel
theorem dX16_got_26 : decode cX16_got 26 = .ok (.ireturn, 1) := by decide +kernel
theorem dX16_got_27 : decode cX16_got 27 = .ok (.aload_n 0, 1) := by decide +kernel
theorem dX16_got_28 : decode cX16_got 28 = .ok (.getfield 29, 3) := by decide +kernel
theorem dX16_got_31 : decode cX16_got 31 = .ok (.iload_n 1, 1) := by decide +kernel
theorem dX16_got_32 : decode cX16_got 32 = .ok (.invokeinterface 46 2, 5) := by decide +kernel
theorem dX16_got_37 : decode cX16_got 37 = .ok (.checkcast 177, 3) := by decide +kernel
theorem dX16_got_40 : decode cX16_got 40 = .ok (.getfield 179, 3) := by decide +kernel
theorem dX16_got_43 : decode cX16_got 43 = .ok (.iload_n 2, 1) := by decide +kernel
theorem dX16_got_44 : decode cX16_got 44 = .ok (.iaload, 1) := by decide +kernel
theorem dX16_got_45 : decode cX16_got 45 = .ok (.ireturn, 1) := by decide +kernel
abbrev rm_m_X16_got : Room := { frames := 3, cells := 0, slots := 0, locals := 64 }
set_option maxHeartbeats 4000000 in
set_option maxRecDepth 100000 in
theorem m_X16_got {s0 : State} {l : Launch} {D : va_G} {cy : Nat → ClassId} (G : Gl s0 l D cy) (S : HS) (ea ns nj nm nt nr nq : Nat) (h : RI ea S ns nj nm nt nr nq) (hea : ea = eaOf s0) (hQ : QI s0 S nq nt) (hZr : Zr S) (A : HS) (g0 : Nat) (hF : RF s0 S A nq nt) (hg : mI S 257 0 = nI g0) (a b : Int32) : Ctr s0 l D cy yX16_got cX16_got 3 (some .int) rm_m_X16_got S [.ref (gG S 16 0), .int a, .int b] (PF s0 S (ns, nj, nm, nr, nt, g0, A) (goK nr nt a b) (mA A 35 a.toNatClampNeg b.toNatClampNeg) (ns, nj, nm, nr, nt, g0, A)) := by
  refine pro "CavershamShiftModel" G rfl rfl (Nat.le_of_ble_eq_true rfl) (fun p e s m below meth c ls X w hnm hl => ?_)
  have hx := X.1
  have hb := X.2.1
  have hown := X.2.2.2.1
  have hts := X.2.2.2.2.1
  have hl : lv_has ls 3 [(0, .ref (gG S 16 0)), (1, .int a), (2, .int b)] := hl
  have h0 := h
  have hK : Kq hvTm hiTm hrTm S S := Kq.rf
  have hE : RE S A := hF.re
  have hF0 : RF s0 (sI S 256 0 0) A nq nt := hF.oI rfl
  refine lv_aload_n hx hb dX16_got_0 rfl (lv_at hl 0 rfl) ?_
  refine lv_iconst (v := 0) hx hb dX16_got_1 (by decide) ?_
  refine p_16_0 (S := S) (x := 0) X w h.v wF_X16_43 dX16_got_2 (fun H locs w => ?_)
  have h : RI ea (sI S 256 0 0) ns nj nm nt nr nq := h.stI (by decide)
  have hK : Kq hvTm hiTm hrTm S (sI S 256 0 0) := hK.sI rfl
  refine lv_aload_n hx hb dX16_got_5 rfl (lv_at hl 0 rfl) ?_
  refine lv_iload_n hx hb dX16_got_6 rfl (lv_at hl 1 rfl) ?_
  refine cV (S := (sI S 256 0 0)) (nA := 1) (As := [.int a]) (rest := []) X w hl h.v (m_X16_isReader G (sI S 256 0 0) ea ns nj nm nt nr nq h a) wY_X16_isReader wM_X16_259 wIn_X16_isReader wSe_X16_X16_isReader wI_X16 (by decide) rfl (by decide +kernel) rfl rfl dX16_got_7 ⟨by decide, by decide⟩ (Nat.le_of_ble_eq_true rfl) (⟨Nat.le_of_ble_eq_true rfl, Nat.le_of_ble_eq_true rfl⟩) (fun v1 S1 H locs hp w => ?_)
  obtain ⟨rfl, rfl⟩ := hp
  refine lv_if_eq (tgt := 21) hx hb dX16_got_10 (by decide) (fun hy10 => ?_) (fun hy10 => ?_)
  · refine lv_aload_n hx hb dX16_got_21 rfl (lv_at hl 0 rfl) ?_
    refine lv_iconst (v := 1) hx hb dX16_got_22 (by decide) ?_
    refine cV (S := (sI S 256 0 0)) (nA := 1) (As := [.int 1]) (rest := []) X w hl h.v (m_X16_no G (sI S 256 0 0) ea ns nj nm nt nr nq h 1) wY_X16_no wM_X16_229 wIn_X16_no wSe_X16_X16_no wI_X16 (by decide) rfl (by decide +kernel) rfl rfl dX16_got_23 ⟨by decide, by decide⟩ (Nat.le_of_ble_eq_true rfl) (⟨Nat.le_of_ble_eq_true rfl, Nat.le_of_ble_eq_true rfl⟩) (fun v2 S1 H locs hp w => ?_)
    obtain ⟨rfl, rfl⟩ := hp
    have h : RI ea (sI (sI S 256 0 0) 256 0 1) ns nj nm nt nr nq := h.stI (by decide)
    have hK : Kq hvTm hiTm hrTm S (sI (sI S 256 0 0) 256 0 1) := hK.sI rfl
    exact rI X w rfl dX16_got_26 (by decide) (by decide) (pf_x (k := 1) (by first | (have y : sOut a 0 (nI nr - 1) = true := (by simpa using b2i_f hy10); simp [goK, y]) | (have y : sOut b 0 (nI nt - 1) = true := (by simpa using b2i_f hy18); simp [goK, y])) (by decide) (by decide) ⟨_, hea ▸ h, hQ, hZr, (hF.oI rfl).oI rfl, hg⟩)
  · obtain ⟨j3, hlj3, hvj3⟩ := out_in (n := nr) (by have hb1 := h.b_re; omega) ((by simpa using b2i_t hy10))
    rw [hvj3] at hl
    refine lv_aload_n hx hb dX16_got_13 rfl (lv_at hl 0 rfl) ?_
    refine lv_iload_n hx hb dX16_got_14 rfl (lv_at hl 2 rfl) ?_
    refine cV (S := (sI S 256 0 0)) (nA := 1) (As := [.int b]) (rest := []) X w hl h.v (m_X16_isTalk G (sI S 256 0 0) ea ns nj nm nt nr nq h b) wY_X16_isTalk wM_X16_246 wIn_X16_isTalk wSe_X16_X16_isTalk wI_X16 (by decide) rfl (by decide +kernel) rfl rfl dX16_got_15 ⟨by decide, by decide⟩ (Nat.le_of_ble_eq_true rfl) (⟨Nat.le_of_ble_eq_true rfl, Nat.le_of_ble_eq_true rfl⟩) (fun v4 S1 H locs hp w => ?_)
    obtain ⟨rfl, rfl⟩ := hp
    refine lv_if_ne (tgt := 27) hx hb dX16_got_18 (by decide) (fun hy18 => ?_) (fun hy18 => ?_)
    · obtain ⟨j5, hlj5, hvj5⟩ := out_in (n := nt) (by have hb1 := h.b_ta; omega) ((by simpa using b2i_t hy18))
      rw [hvj5] at hl
      refine lv_aload_n hx hb dX16_got_27 rfl (lv_at hl 0 rfl) ?_
      refine g_16_10 (S := (sI S 256 0 0)) (x := (some (gG (sI S 256 0 0) 17 10))) X w h.v wF_X16_29 (h.f_re) dX16_got_28 ?_
      refine lv_iload_n hx hb dX16_got_31 rfl (lv_at hl 1 rfl) ?_
      refine cF (S := (sI S 256 0 0)) (t := 17) (nA := 1) (As := [.int (nI j3)]) (rest := []) X w hl h.l_re.1 (m_get G (sI S 256 0 0) ea 10 j3 nr (some (gG (sI S 256 0 0) 13 j3)) h.l_re hlj3 (h.e_re j3 hlj3).1) wY_Jx4a65c_get_915e3 wM_X16_46 wIn_Jx4a65c_get_915e3 wSe_Jx4a65c_Jx4a65c_get_915e3_of_java_util_List_get__I_Ljava_lang_Object_ wI_Jx4a65c fw_get (by decide) rfl (by decide +kernel) rfl rfl dX16_got_32 ⟨by decide, by decide⟩ (Nat.le_of_ble_eq_true rfl) (⟨Nat.le_of_ble_eq_true rfl, Nat.le_of_ble_eq_true rfl⟩) (fun v6 S1 H locs hp w => ?_)
      obtain ⟨rfl, rfl⟩ := hp
      refine ckC (S := (sI S 256 0 0)) (t := 13) X w (h.e_re j3 hlj3).2.1 (by decide) rfl wC_X16_177 dX16_got_37 ?_
      refine g_13_2 (S := (sI S 256 0 0)) (x := (some (gG (sI S 256 0 0) 35 j3))) X w (h.e_re j3 hlj3).2.1 wF_X16_179 ((h.e_re j3 hlj3).2.2.1) dX16_got_40 ?_
      refine lv_iload_n hx hb dX16_got_43 rfl (lv_at hl 2 rfl) ?_
      refine aLdI (S := (sI S 256 0 0)) (t := 35) (v := mA (sI S 256 0 0) 35 j3 j5) X w (h.e_re j3 hlj3).2.2.2.1 (by decide) rfl rfl (by rw [(h.e_re j3 hlj3).2.2.2.2]; exact nI_vp (Nat.lt_of_lt_of_le hlj5 h.b_ta) (by decide)) (by rw [cl_nI (n := 40) (Nat.lt_of_lt_of_le hlj5 h.b_ta) (by decide)]) dX16_got_44 ?_
      exact rI X w rfl dX16_got_45 (by decide) (by decide) (Or.inr ⟨by have z10 : sOut a 0 (nI nr - 1) = false := (by simpa using b2i_t hy10); have z18 : sOut b 0 (nI nt - 1) = false := (by simpa using b2i_t hy18); simp [goK, z10, z18], by rw [tnI (a := a) (by assumption) (Nat.le_trans h.b_re (by decide)) (by assumption), tnI (a := b) (by assumption) (Nat.le_trans h.b_ta (by decide)) (by assumption), ← hF0.2.1 35 rfl]; first | done | rfl, ⟨_, hea ▸ h, hQ, hZr, hF.keepT hK, (hK.I (f := 257) (i := 0) rfl).trans hg⟩, Kq.rB (kTR hK), rfl⟩)
    · refine lv_aload_n hx hb dX16_got_21 rfl (lv_at hl 0 rfl) ?_
      refine lv_iconst (v := 1) hx hb dX16_got_22 (by decide) ?_
      refine cV (S := (sI S 256 0 0)) (nA := 1) (As := [.int 1]) (rest := []) X w hl h.v (m_X16_no G (sI S 256 0 0) ea ns nj nm nt nr nq h 1) wY_X16_no wM_X16_229 wIn_X16_no wSe_X16_X16_no wI_X16 (by decide) rfl (by decide +kernel) rfl rfl dX16_got_23 ⟨by decide, by decide⟩ (Nat.le_of_ble_eq_true rfl) (⟨Nat.le_of_ble_eq_true rfl, Nat.le_of_ble_eq_true rfl⟩) (fun v7 S1 H locs hp w => ?_)
      obtain ⟨rfl, rfl⟩ := hp
      have h : RI ea (sI (sI S 256 0 0) 256 0 1) ns nj nm nt nr nq := h.stI (by decide)
      have hK : Kq hvTm hiTm hrTm S (sI (sI S 256 0 0) 256 0 1) := hK.sI rfl
      exact rI X w rfl dX16_got_26 (by decide) (by decide) (pf_x (k := 1) (by first | (have y : sOut a 0 (nI nr - 1) = true := (by simpa using b2i_f hy10); simp [goK, y]) | (have y : sOut b 0 (nI nt - 1) = true := (by simpa using b2i_f hy18); simp [goK, y])) (by decide) (by decide) ⟨_, hea ▸ h, hQ, hZr, (hF.oI rfl).oI rfl, hg⟩)

theorem dX16_used_0 : decode cX16_used 0 = .ok (.aload_n 0, 1) := by decide +kernel
theorem dX16_used_1 : decode cX16_used 1 = .ok (.iconst 0, 1) := by decide +kernel
theorem dX16_used_2 : decode cX16_used 2 = .ok (.putfield 43, 3) := by decide +kernel
theorem dX16_used_5 : decode cX16_used 5 = .ok (.iload_n 1, 1) := by decide +kernel
theorem dX16_used_6 : decode cX16_used 6 = .ok (.iconst 0, 1) := by decide +kernel
theorem dX16_used_7 : decode cX16_used 7 = .ok (.iconst 5, 1) := by decide +kernel
theorem dX16_used_8 : decode cX16_used 8 = .ok (.invokestatic 224, 3) := by decide +kernel
theorem dX16_used_11 : decode cX16_used 11 = .ok (.ifCond .eq 13, 3) := by decide +kernel
theorem dX16_used_14 : decode cX16_used 14 = .ok (.iload_n 2, 1) := by decide +kernel
theorem dX16_used_15 : decode cX16_used 15 = .ok (.iconst 0, 1) := by decide +kernel
theorem dX16_used_16 : decode cX16_used 16 = .ok (.bipush 15, 2) := by decide +kernel
theorem dX16_used_18 : decode cX16_used 18 = .ok (.invokestatic 224, 3) := by decide +kernel
theorem dX16_used_21 : decode cX16_used 21 = .ok (.ifCond .ne 9, 3) := by decide +kernel
theorem dX16_used_24 : decode cX16_used 24 = .ok (.aload_n 0, 1) := by decide +kernel
theorem dX16_used_25 : decode cX16_used 25 = .ok (.iconst 1, 1) := by decide +kernel
theorem dX16_used_26 : decode cX16_used 26 = .ok (.invokevirtual 229, 3) := by decide +kernel
theorem dX16_used_29 : decode cX16_used 29 = .ok (.ireturn, 1) := by decide +kernel
theorem dX16_used_30 : decode cX16_used 30 = .ok (.aload_n 0, 1) := by decide +kernel
theorem dX16_used_31 : decode cX16_used 31 = .ok (.iload_n 1, 1) := by decide +kernel
theorem dX16_used_32 : decode cX16_used 32 = .ok (.iload_n 2, 1) := by decide +kernel
theorem dX16_used_33 : decode cX16_used 33 = .ok (.iload_n 3, 1) := by decide +kernel
theorem dX16_used_34 : decode cX16_used 34 = .ok (.iload 4, 2) := by decide +kernel
theorem dX16_used_36 : decode cX16_used 36 = .ok (.invokevirtual 296, 3) := by decide +kernel
theorem dX16_used_39 : decode cX16_used 39 = .ok (.ireturn, 1) := by decide +kernel
abbrev rm_m_X16_used : Room := { frames := 5, cells := 0, slots := 0, locals := 112 }
set_option maxHeartbeats 4000000 in
set_option maxRecDepth 100000 in
theorem m_X16_used {s0 : State} {l : Launch} {D : va_G} {cy : Nat → ClassId} (G : Gl s0 l D cy) (S : HS) (ea ns nj nm nt nr nq : Nat) (h : RI ea S ns nj nm nt nr nq) (hea : ea = eaOf s0) (hQ : QI s0 S nq nt) (hZr : Zr S) (A : HS) (g0 : Nat) (hF : RF s0 S A nq nt) (hg : mI S 257 0 = nI g0) (a b d g : Int32) : Ctr s0 l D cy yX16_used cX16_used 5 (some .int) rm_m_X16_used S [.ref (gG S 16 0), .int a, .int b, .int d, .int g] (PF s0 S (ns, nj, nm, nr, nt, g0, A) (usK a b) (rUsed A nt a b d g) (ns, nj, nm, nr, nt, g0, A)) := by
  refine pro "CavershamShiftModel" G rfl rfl (Nat.le_of_ble_eq_true rfl) (fun p e s m below meth c ls X w hnm hl => ?_)
  have hx := X.1
  have hb := X.2.1
  have hown := X.2.2.2.1
  have hts := X.2.2.2.2.1
  have hl : lv_has ls 5 [(0, .ref (gG S 16 0)), (1, .int a), (2, .int b), (3, .int d), (4, .int g)] := hl
  have h0 := h
  have hK : Kq hvTm hiTm hrTm S S := Kq.rf
  have hE : RE S A := hF.re
  have hF0 : RF s0 (sI S 256 0 0) A nq nt := hF.oI rfl
  refine lv_aload_n hx hb dX16_used_0 rfl (lv_at hl 0 rfl) ?_
  refine lv_iconst (v := 0) hx hb dX16_used_1 (by decide) ?_
  refine p_16_0 (S := S) (x := 0) X w h.v wF_X16_43 dX16_used_2 (fun H locs w => ?_)
  have h : RI ea (sI S 256 0 0) ns nj nm nt nr nq := h.stI (by decide)
  have hK : Kq hvTm hiTm hrTm S (sI S 256 0 0) := hK.sI rfl
  refine lv_iload_n hx hb dX16_used_5 rfl (lv_at hl 1 rfl) ?_
  refine lv_iconst (v := 0) hx hb dX16_used_6 (by decide) ?_
  refine lv_iconst (v := 5) hx hb dX16_used_7 (by decide) ?_
  refine cS (S := (sI S 256 0 0)) (nA := 3) (As := [.int a, .int 0, .int 5]) (rest := []) X w hl (m_X16_in G (sI S 256 0 0) a 0 5) wY_X16_in wM_X16_224 wSt_X16_in wI_X16 (by decide +kernel) rfl rfl dX16_used_8 ⟨by decide, by decide⟩ (Nat.le_of_ble_eq_true rfl) (⟨Nat.le_of_ble_eq_true rfl, Nat.le_of_ble_eq_true rfl⟩) (fun v1 S1 H locs hp w => ?_)
  obtain ⟨rfl, rfl⟩ := hp
  refine lv_if_eq (tgt := 24) hx hb dX16_used_11 (by decide) (fun hy11 => ?_) (fun hy11 => ?_)
  · refine lv_aload_n hx hb dX16_used_24 rfl (lv_at hl 0 rfl) ?_
    refine lv_iconst (v := 1) hx hb dX16_used_25 (by decide) ?_
    refine cV (S := (sI S 256 0 0)) (nA := 1) (As := [.int 1]) (rest := []) X w hl h.v (m_X16_no G (sI S 256 0 0) ea ns nj nm nt nr nq h 1) wY_X16_no wM_X16_229 wIn_X16_no wSe_X16_X16_no wI_X16 (by decide) rfl (by decide +kernel) rfl rfl dX16_used_26 ⟨by decide, by decide⟩ (Nat.le_of_ble_eq_true rfl) (⟨Nat.le_of_ble_eq_true rfl, Nat.le_of_ble_eq_true rfl⟩) (fun v2 S1 H locs hp w => ?_)
    obtain ⟨rfl, rfl⟩ := hp
    have h : RI ea (sI (sI S 256 0 0) 256 0 1) ns nj nm nt nr nq := h.stI (by decide)
    have hK : Kq hvTm hiTm hrTm S (sI (sI S 256 0 0) 256 0 1) := hK.sI rfl
    exact rI X w rfl dX16_used_29 (by decide) (by decide) (pf_x (k := 1) (by first | (have y : sOut a 0 5 = true := (by simpa using b2i_f hy11); simp [usK, y]) | (have y : sOut b 0 15 = true := (by simpa using b2i_f hy21); simp [usK, y])) (by decide) (by decide) ⟨_, hea ▸ h, hQ, hZr, (hF.oI rfl).oI rfl, hg⟩)
  · refine lv_iload_n hx hb dX16_used_14 rfl (lv_at hl 2 rfl) ?_
    refine lv_iconst (v := 0) hx hb dX16_used_15 (by decide) ?_
    refine lv_bipush (v := 15) hx hb dX16_used_16 (by decide) ?_
    refine cS (S := (sI S 256 0 0)) (nA := 3) (As := [.int b, .int 0, .int 15]) (rest := []) X w hl (m_X16_in G (sI S 256 0 0) b 0 15) wY_X16_in wM_X16_224 wSt_X16_in wI_X16 (by decide +kernel) rfl rfl dX16_used_18 ⟨by decide, by decide⟩ (Nat.le_of_ble_eq_true rfl) (⟨Nat.le_of_ble_eq_true rfl, Nat.le_of_ble_eq_true rfl⟩) (fun v3 S1 H locs hp w => ?_)
    obtain ⟨rfl, rfl⟩ := hp
    refine lv_if_ne (tgt := 30) hx hb dX16_used_21 (by decide) (fun hy21 => ?_) (fun hy21 => ?_)
    · refine lv_aload_n hx hb dX16_used_30 rfl (lv_at hl 0 rfl) ?_
      refine lv_iload_n hx hb dX16_used_31 rfl (lv_at hl 1 rfl) ?_
      refine lv_iload_n hx hb dX16_used_32 rfl (lv_at hl 2 rfl) ?_
      refine lv_iload_n hx hb dX16_used_33 rfl (lv_at hl 3 rfl) ?_
      refine lv_iload hx hb dX16_used_34 (lv_at hl 4 rfl) ?_
      refine cV (S := (sI S 256 0 0)) (nA := 4) (As := [.int a, .int b, .int d, .int g]) (rest := []) X w hl h.v (m_X16_usedNow G (sI S 256 0 0) ea ns nj nm nt nr nq h a b d g) wY_X16_usedNow wM_X16_296 wIn_X16_usedNow wSe_X16_X16_usedNow wI_X16 (by decide) rfl (by decide +kernel) rfl rfl dX16_used_36 ⟨by decide, by decide⟩ (Nat.le_of_ble_eq_true rfl) (⟨Nat.le_of_ble_eq_true rfl, Nat.le_of_ble_eq_true rfl⟩) (fun v4 S1 H locs hp w => ?_)
      obtain ⟨rfl, rfl⟩ := hp
      exact rI X w rfl dX16_used_39 (by decide) (by decide) (Or.inr ⟨by have z11 : sOut a 0 5 = false := (by simpa using b2i_t hy11); have z21 : sOut b 0 15 = false := (by simpa using b2i_t hy21); simp [usK, z11, z21], by rw [← hF0.used]; first | done | rfl, ⟨_, hea ▸ h, hQ, hZr, hF.keepT hK, (hK.I (f := 257) (i := 0) rfl).trans hg⟩, Kq.rB (kTR hK), rfl⟩)
    · refine lv_aload_n hx hb dX16_used_24 rfl (lv_at hl 0 rfl) ?_
      refine lv_iconst (v := 1) hx hb dX16_used_25 (by decide) ?_
      refine cV (S := (sI S 256 0 0)) (nA := 1) (As := [.int 1]) (rest := []) X w hl h.v (m_X16_no G (sI S 256 0 0) ea ns nj nm nt nr nq h 1) wY_X16_no wM_X16_229 wIn_X16_no wSe_X16_X16_no wI_X16 (by decide) rfl (by decide +kernel) rfl rfl dX16_used_26 ⟨by decide, by decide⟩ (Nat.le_of_ble_eq_true rfl) (⟨Nat.le_of_ble_eq_true rfl, Nat.le_of_ble_eq_true rfl⟩) (fun v5 S1 H locs hp w => ?_)
      obtain ⟨rfl, rfl⟩ := hp
      have h : RI ea (sI (sI S 256 0 0) 256 0 1) ns nj nm nt nr nq := h.stI (by decide)
      have hK : Kq hvTm hiTm hrTm S (sI (sI S 256 0 0) 256 0 1) := hK.sI rfl
      exact rI X w rfl dX16_used_29 (by decide) (by decide) (pf_x (k := 1) (by first | (have y : sOut a 0 5 = true := (by simpa using b2i_f hy11); simp [usK, y]) | (have y : sOut b 0 15 = true := (by simpa using b2i_f hy21); simp [usK, y])) (by decide) (by decide) ⟨_, hea ▸ h, hQ, hZr, (hF.oI rfl).oI rfl, hg⟩)

theorem dX16_gone_0 : decode cX16_gone 0 = .ok (.aload_n 0, 1) := by decide +kernel
theorem dX16_gone_1 : decode cX16_gone 1 = .ok (.iconst 0, 1) := by decide +kernel
theorem dX16_gone_2 : decode cX16_gone 2 = .ok (.putfield 43, 3) := by decide +kernel
theorem dX16_gone_5 : decode cX16_gone 5 = .ok (.iload_n 1, 1) := by decide +kernel
theorem dX16_gone_6 : decode cX16_gone 6 = .ok (.iconst 0, 1) := by decide +kernel
theorem dX16_gone_7 : decode cX16_gone 7 = .ok (.iconst 5, 1) := by decide +kernel
theorem dX16_gone_8 : decode cX16_gone 8 = .ok (.invokestatic 224, 3) := by decide +kernel
theorem dX16_gone_11 : decode cX16_gone 11 = .ok (.ifCond .ne 9, 3) := by decide +kernel
theorem dX16_gone_14 : decode cX16_gone 14 = .ok (.aload_n 0, 1) := by decide +kernel
theorem dX16_gone_15 : decode cX16_gone 15 = .ok (.iconst 1, 1) := by decide +kernel
theorem dX16_gone_16 : decode cX16_gone 16 = .ok (.invokevirtual 229, 3) := by decide +kernel
theorem dX16_gone_19 : decode cX16_gone 19 = .ok (.ireturn, 1) := by decide +kernel
theorem dX16_gone_20 : decode cX16_gone 20 = .ok (.aload_n 0, 1) := by decide +kernel
theorem dX16_gone_21 : decode cX16_gone 21 = .ok (.iload_n 1, 1) := by decide +kernel
theorem dX16_gone_22 : decode cX16_gone 22 = .ok (.invokevirtual 300, 3) := by decide +kernel
theorem dX16_gone_25 : decode cX16_gone 25 = .ok (.ireturn, 1) := by decide +kernel
abbrev rm_m_X16_gone : Room := { frames := 6, cells := 0, slots := 0, locals := 136 }
set_option maxHeartbeats 4000000 in
set_option maxRecDepth 100000 in
theorem m_X16_gone {s0 : State} {l : Launch} {D : va_G} {cy : Nat → ClassId} (G : Gl s0 l D cy) (S : HS) (ea ns nj nm nt nr nq : Nat) (h : RI ea S ns nj nm nt nr nq) (hea : ea = eaOf s0) (hQ : QI s0 S nq nt) (hZr : Zr S) (A : HS) (g0 : Nat) (hF : RF s0 S A nq nt) (hg : mI S 257 0 = nI g0) (a : Int32) : Ctr s0 l D cy yX16_gone cX16_gone 2 (some .int) rm_m_X16_gone S [.ref (gG S 16 0), .int a] (PF s0 S (ns, nj, nm, nr, nt, g0, A) (laK a 5) (rGone A nt a 16) (ns, nj, nm, nr, nt, g0, A)) := by
  refine pro "CavershamShiftModel" G rfl rfl (Nat.le_of_ble_eq_true rfl) (fun p e s m below meth c ls X w hnm hl => ?_)
  have hx := X.1
  have hb := X.2.1
  have hown := X.2.2.2.1
  have hts := X.2.2.2.2.1
  have hl : lv_has ls 2 [(0, .ref (gG S 16 0)), (1, .int a)] := hl
  have h0 := h
  have hK : Kq hvTm hiTm hrTm S S := Kq.rf
  have hE : RE S A := hF.re
  have hF0 : RF s0 (sI S 256 0 0) A nq nt := hF.oI rfl
  refine lv_aload_n hx hb dX16_gone_0 rfl (lv_at hl 0 rfl) ?_
  refine lv_iconst (v := 0) hx hb dX16_gone_1 (by decide) ?_
  refine p_16_0 (S := S) (x := 0) X w h.v wF_X16_43 dX16_gone_2 (fun H locs w => ?_)
  have h : RI ea (sI S 256 0 0) ns nj nm nt nr nq := h.stI (by decide)
  have hK : Kq hvTm hiTm hrTm S (sI S 256 0 0) := hK.sI rfl
  refine lv_iload_n hx hb dX16_gone_5 rfl (lv_at hl 1 rfl) ?_
  refine lv_iconst (v := 0) hx hb dX16_gone_6 (by decide) ?_
  refine lv_iconst (v := 5) hx hb dX16_gone_7 (by decide) ?_
  refine cS (S := (sI S 256 0 0)) (nA := 3) (As := [.int a, .int 0, .int 5]) (rest := []) X w hl (m_X16_in G (sI S 256 0 0) a 0 5) wY_X16_in wM_X16_224 wSt_X16_in wI_X16 (by decide +kernel) rfl rfl dX16_gone_8 ⟨by decide, by decide⟩ (Nat.le_of_ble_eq_true rfl) (⟨Nat.le_of_ble_eq_true rfl, Nat.le_of_ble_eq_true rfl⟩) (fun v1 S1 H locs hp w => ?_)
  obtain ⟨rfl, rfl⟩ := hp
  refine lv_if_ne (tgt := 20) hx hb dX16_gone_11 (by decide) (fun hy11 => ?_) (fun hy11 => ?_)
  · refine lv_aload_n hx hb dX16_gone_20 rfl (lv_at hl 0 rfl) ?_
    refine lv_iload_n hx hb dX16_gone_21 rfl (lv_at hl 1 rfl) ?_
    refine cV (S := (sI S 256 0 0)) (nA := 1) (As := [.int a]) (rest := []) X w hl h.v (m_X16_goneNow G (sI S 256 0 0) ea ns nj nm nt nr nq h a) wY_X16_goneNow wM_X16_300 wIn_X16_goneNow wSe_X16_X16_goneNow wI_X16 (by decide) rfl (by decide +kernel) rfl rfl dX16_gone_22 ⟨by decide, by decide⟩ (Nat.le_of_ble_eq_true rfl) (⟨Nat.le_of_ble_eq_true rfl, Nat.le_of_ble_eq_true rfl⟩) (fun v2 S1 H locs hp w => ?_)
    obtain ⟨rfl, rfl⟩ := hp
    exact rI X w rfl dX16_gone_25 (by decide) (by decide) (Or.inr ⟨by have z11 : sOut a 0 5 = false := (by simpa using b2i_t hy11); simp [laK, z11], by rw [← hF0.gone]; first | done | rfl, ⟨_, hea ▸ h, hQ, hZr, hF.keepT hK, (hK.I (f := 257) (i := 0) rfl).trans hg⟩, Kq.rB (kTR hK), rfl⟩)
  · refine lv_aload_n hx hb dX16_gone_14 rfl (lv_at hl 0 rfl) ?_
    refine lv_iconst (v := 1) hx hb dX16_gone_15 (by decide) ?_
    refine cV (S := (sI S 256 0 0)) (nA := 1) (As := [.int 1]) (rest := []) X w hl h.v (m_X16_no G (sI S 256 0 0) ea ns nj nm nt nr nq h 1) wY_X16_no wM_X16_229 wIn_X16_no wSe_X16_X16_no wI_X16 (by decide) rfl (by decide +kernel) rfl rfl dX16_gone_16 ⟨by decide, by decide⟩ (Nat.le_of_ble_eq_true rfl) (⟨Nat.le_of_ble_eq_true rfl, Nat.le_of_ble_eq_true rfl⟩) (fun v3 S1 H locs hp w => ?_)
    obtain ⟨rfl, rfl⟩ := hp
    have h : RI ea (sI (sI S 256 0 0) 256 0 1) ns nj nm nt nr nq := h.stI (by decide)
    have hK : Kq hvTm hiTm hrTm S (sI (sI S 256 0 0) 256 0 1) := hK.sI rfl
    exact rI X w rfl dX16_gone_19 (by decide) (by decide) (pf_x (k := 1) (by first | (have y : sOut a 0 5 = true := (by simpa using b2i_f hy11); simp [laK, y])) (by decide) (by decide) ⟨_, hea ▸ h, hQ, hZr, (hF.oI rfl).oI rfl, hg⟩)

theorem dX16_first_0 : decode cX16_first 0 = .ok (.aload_n 0, 1) := by decide +kernel
theorem dX16_first_1 : decode cX16_first 1 = .ok (.iconst 0, 1) := by decide +kernel
theorem dX16_first_2 : decode cX16_first 2 = .ok (.putfield 43, 3) := by decide +kernel
theorem dX16_first_5 : decode cX16_first 5 = .ok (.iload_n 1, 1) := by decide +kernel
theorem dX16_first_6 : decode cX16_first 6 = .ok (.iconst 0, 1) := by decide +kernel
theorem dX16_first_7 : decode cX16_first 7 = .ok (.bipush 15, 2) := by decide +kernel
theorem dX16_first_9 : decode cX16_first 9 = .ok (.invokestatic 224, 3) := by decide +kernel
theorem dX16_first_12 : decode cX16_first 12 = .ok (.ifCond .ne 9, 3) := by decide +kernel
theorem dX16_first_15 : decode cX16_first 15 = .ok (.aload_n 0, 1) := by decide +kernel
theorem dX16_first_16 : decode cX16_first 16 = .ok (.iconst 1, 1) := by decide +kernel
theorem dX16_first_17 : decode cX16_first 17 = .ok (.invokevirtual 229, 3) := by decide +kernel
theorem dX16_first_20 : decode cX16_first 20 = .ok (.ireturn, 1) := by decide +kernel
theorem dX16_first_21 : decode cX16_first 21 = .ok (.aload_n 0, 1) := by decide +kernel
theorem dX16_first_22 : decode cX16_first 22 = .ok (.iload_n 1, 1) := by decide +kernel
theorem dX16_first_23 : decode cX16_first 23 = .ok (.invokevirtual 303, 3) := by decide +kernel
theorem dX16_first_26 : decode cX16_first 26 = .ok (.ireturn, 1) := by decide +kernel
abbrev rm_m_X16_first : Room := { frames := 4, cells := 0, slots := 0, locals := 87 }
set_option maxHeartbeats 4000000 in
set_option maxRecDepth 100000 in
theorem m_X16_first {s0 : State} {l : Launch} {D : va_G} {cy : Nat → ClassId} (G : Gl s0 l D cy) (S : HS) (ea ns nj nm nt nr nq : Nat) (h : RI ea S ns nj nm nt nr nq) (hea : ea = eaOf s0) (hQ : QI s0 S nq nt) (hZr : Zr S) (A : HS) (g0 : Nat) (hF : RF s0 S A nq nt) (hg : mI S 257 0 = nI g0) (a : Int32) : Ctr s0 l D cy yX16_first cX16_first 2 (some .int) rm_m_X16_first S [.ref (gG S 16 0), .int a] (PF s0 S (ns, nj, nm, nr, nt, g0, A) (laK a 15) (rFirst A a nt) (ns, nj, nm, nr, nt, g0, A)) := by
  refine pro "CavershamShiftModel" G rfl rfl (Nat.le_of_ble_eq_true rfl) (fun p e s m below meth c ls X w hnm hl => ?_)
  have hx := X.1
  have hb := X.2.1
  have hown := X.2.2.2.1
  have hts := X.2.2.2.2.1
  have hl : lv_has ls 2 [(0, .ref (gG S 16 0)), (1, .int a)] := hl
  have h0 := h
  have hK : Kq hvTm hiTm hrTm S S := Kq.rf
  have hE : RE S A := hF.re
  have hF0 : RF s0 (sI S 256 0 0) A nq nt := hF.oI rfl
  refine lv_aload_n hx hb dX16_first_0 rfl (lv_at hl 0 rfl) ?_
  refine lv_iconst (v := 0) hx hb dX16_first_1 (by decide) ?_
  refine p_16_0 (S := S) (x := 0) X w h.v wF_X16_43 dX16_first_2 (fun H locs w => ?_)
  have h : RI ea (sI S 256 0 0) ns nj nm nt nr nq := h.stI (by decide)
  have hK : Kq hvTm hiTm hrTm S (sI S 256 0 0) := hK.sI rfl
  refine lv_iload_n hx hb dX16_first_5 rfl (lv_at hl 1 rfl) ?_
  refine lv_iconst (v := 0) hx hb dX16_first_6 (by decide) ?_
  refine lv_bipush (v := 15) hx hb dX16_first_7 (by decide) ?_
  refine cS (S := (sI S 256 0 0)) (nA := 3) (As := [.int a, .int 0, .int 15]) (rest := []) X w hl (m_X16_in G (sI S 256 0 0) a 0 15) wY_X16_in wM_X16_224 wSt_X16_in wI_X16 (by decide +kernel) rfl rfl dX16_first_9 ⟨by decide, by decide⟩ (Nat.le_of_ble_eq_true rfl) (⟨Nat.le_of_ble_eq_true rfl, Nat.le_of_ble_eq_true rfl⟩) (fun v1 S1 H locs hp w => ?_)
  obtain ⟨rfl, rfl⟩ := hp
  refine lv_if_ne (tgt := 21) hx hb dX16_first_12 (by decide) (fun hy12 => ?_) (fun hy12 => ?_)
  · refine lv_aload_n hx hb dX16_first_21 rfl (lv_at hl 0 rfl) ?_
    refine lv_iload_n hx hb dX16_first_22 rfl (lv_at hl 1 rfl) ?_
    refine cV (S := (sI S 256 0 0)) (nA := 1) (As := [.int a]) (rest := []) X w hl h.v (m_X16_firstNow G (sI S 256 0 0) ea ns nj nm nt nr nq h a) wY_X16_firstNow wM_X16_303 wIn_X16_firstNow wSe_X16_X16_firstNow wI_X16 (by decide) rfl (by decide +kernel) rfl rfl dX16_first_23 ⟨by decide, by decide⟩ (Nat.le_of_ble_eq_true rfl) (⟨Nat.le_of_ble_eq_true rfl, Nat.le_of_ble_eq_true rfl⟩) (fun v2 S1 H locs hp w => ?_)
    obtain ⟨rfl, rfl⟩ := hp
    exact rI X w rfl dX16_first_26 (by decide) (by decide) (Or.inr ⟨by have z12 : sOut a 0 15 = false := (by simpa using b2i_t hy12); simp [laK, z12], by rw [← hF0.first]; first | done | rfl, ⟨_, hea ▸ h, hQ, hZr, hF.keepT hK, (hK.I (f := 257) (i := 0) rfl).trans hg⟩, Kq.rB (kTR hK), rfl⟩)
  · refine lv_aload_n hx hb dX16_first_15 rfl (lv_at hl 0 rfl) ?_
    refine lv_iconst (v := 1) hx hb dX16_first_16 (by decide) ?_
    refine cV (S := (sI S 256 0 0)) (nA := 1) (As := [.int 1]) (rest := []) X w hl h.v (m_X16_no G (sI S 256 0 0) ea ns nj nm nt nr nq h 1) wY_X16_no wM_X16_229 wIn_X16_no wSe_X16_X16_no wI_X16 (by decide) rfl (by decide +kernel) rfl rfl dX16_first_17 ⟨by decide, by decide⟩ (Nat.le_of_ble_eq_true rfl) (⟨Nat.le_of_ble_eq_true rfl, Nat.le_of_ble_eq_true rfl⟩) (fun v3 S1 H locs hp w => ?_)
    obtain ⟨rfl, rfl⟩ := hp
    have h : RI ea (sI (sI S 256 0 0) 256 0 1) ns nj nm nt nr nq := h.stI (by decide)
    have hK : Kq hvTm hiTm hrTm S (sI (sI S 256 0 0) 256 0 1) := hK.sI rfl
    exact rI X w rfl dX16_first_20 (by decide) (by decide) (pf_x (k := 1) (by first | (have y : sOut a 0 15 = true := (by simpa using b2i_f hy12); simp [laK, y])) (by decide) (by decide) ⟨_, hea ▸ h, hQ, hZr, (hF.oI rfl).oI rfl, hg⟩)

theorem RF.mqP {s0 : State} {S A : HS} {nq nt : Nat} (h : RF s0 S A nq nt) (a : Int32) (k : Nat) : rMqP S a k = rMqP A a k := by
  unfold rMqP
  rw [h.1 247 rfl k, h.tSq, h.1 226 rfl _]
theorem RF.mqS {s0 : State} {S A : HS} {nq nt : Nat} (h : RF s0 S A nq nt) (a : Int32) : ∀ k, rMqS S a k = rMqS A a k
  | 0 => rfl
  | k + 1 => by
    unfold rMqS
    rw [RF.mqS h a k, h.mqP, h.1 248 rfl k]
theorem RF.mean {s0 : State} {S A : HS} {nq nt n : Nat} (h : RF s0 S A nq nt) (a : Int32) : rMean S n a = rMean A n a := by
  unfold rMean
  rw [h.mqS, show rMqP S a = rMqP A a from funext (h.mqP a)]

theorem dX16_clarity_0 : decode cX16_clarity 0 = .ok (.aload_n 0, 1) := by decide +kernel
theorem dX16_clarity_1 : decode cX16_clarity 1 = .ok (.iconst 0, 1) := by decide +kernel
theorem dX16_clarity_2 : decode cX16_clarity 2 = .ok (.putfield 43, 3) := by decide +kernel
theorem dX16_clarity_5 : decode cX16_clarity 5 = .ok (.iload_n 1, 1) := by decide +kernel
theorem dX16_clarity_6 : decode cX16_clarity 6 = .ok (.iconst 0, 1) := by decide +kernel
theorem dX16_clarity_7 : decode cX16_clarity 7 = .ok (.iconst 5, 1) := by decide +kernel
theorem dX16_clarity_8 : decode cX16_clarity 8 = .ok (.invokestatic 224, 3) := by decide +kernel
theorem dX16_clarity_11 : decode cX16_clarity 11 = .ok (.ifCond .ne 10, 3) := by decide +kernel
theorem dX16_clarity_14 : decode cX16_clarity 14 = .ok (.aload_n 0, 1) := by decide +kernel
theorem dX16_clarity_15 : decode cX16_clarity 15 = .ok (.iconst 1, 1) := by decide +kernel
theorem dX16_clarity_16 : decode cX16_clarity 16 = .ok (.invokevirtual 229, 3) := by decide +kernel
theorem dX16_clarity_19 : decode cX16_clarity 19 = .ok (.i2d, 1) := by decide +kernel
theorem dX16_clarity_20 : decode cX16_clarity 20 = .ok (.dreturn, 1) := by decide +kernel
theorem dX16_clarity_21 : decode cX16_clarity 21 = .ok (.aload_n 0, 1) := by decide +kernel
theorem dX16_clarity_22 : decode cX16_clarity 22 = .ok (.iload_n 1, 1) := by decide +kernel
theorem dX16_clarity_23 : decode cX16_clarity 23 = .ok (.invokevirtual 306, 3) := by decide +kernel
theorem dX16_clarity_26 : decode cX16_clarity 26 = .ok (.dreturn, 1) := by decide +kernel
abbrev rm_m_X16_clarity : Room := { frames := 5, cells := 0, slots := 0, locals := 109 }
set_option maxHeartbeats 4000000 in
set_option maxRecDepth 100000 in
theorem m_X16_clarity {s0 : State} {l : Launch} {D : va_G} {cy : Nat → ClassId} (G : Gl s0 l D cy) (S : HS) (ea ns nj nm nt nr nq : Nat) (h : RI ea S ns nj nm nt nr nq) (hea : ea = eaOf s0) (hQ : QI s0 S nq nt) (hZr : Zr S) (A : HS) (g0 : Nat) (hF : RF s0 S A nq nt) (hg : mI S 257 0 = nI g0) (a : Int32) : Ctr s0 l D cy yX16_clarity cX16_clarity 2 (some .double) rm_m_X16_clarity S [.ref (gG S 16 0), .int a] (PFd s0 S (ns, nj, nm, nr, nt, g0, A) (laK a 5) (rMean A nt a) (ns, nj, nm, nr, nt, g0, A)) := by
  refine pro "CavershamShiftModel" G rfl rfl (Nat.le_of_ble_eq_true rfl) (fun p e s m below meth c ls X w hnm hl => ?_)
  have hx := X.1
  have hb := X.2.1
  have hown := X.2.2.2.1
  have hts := X.2.2.2.2.1
  have hl : lv_has ls 2 [(0, .ref (gG S 16 0)), (1, .int a)] := hl
  have h0 := h
  have hK : Kq hvTm hiTm hrTm S S := Kq.rf
  have hE : RE S A := hF.re
  have hF0 : RF s0 (sI S 256 0 0) A nq nt := hF.oI rfl
  refine lv_aload_n hx hb dX16_clarity_0 rfl (lv_at hl 0 rfl) ?_
  refine lv_iconst (v := 0) hx hb dX16_clarity_1 (by decide) ?_
  refine p_16_0 (S := S) (x := 0) X w h.v wF_X16_43 dX16_clarity_2 (fun H locs w => ?_)
  have h : RI ea (sI S 256 0 0) ns nj nm nt nr nq := h.stI (by decide)
  have hK : Kq hvTm hiTm hrTm S (sI S 256 0 0) := hK.sI rfl
  refine lv_iload_n hx hb dX16_clarity_5 rfl (lv_at hl 1 rfl) ?_
  refine lv_iconst (v := 0) hx hb dX16_clarity_6 (by decide) ?_
  refine lv_iconst (v := 5) hx hb dX16_clarity_7 (by decide) ?_
  refine cS (S := (sI S 256 0 0)) (nA := 3) (As := [.int a, .int 0, .int 5]) (rest := []) X w hl (m_X16_in G (sI S 256 0 0) a 0 5) wY_X16_in wM_X16_224 wSt_X16_in wI_X16 (by decide +kernel) rfl rfl dX16_clarity_8 ⟨by decide, by decide⟩ (Nat.le_of_ble_eq_true rfl) (⟨Nat.le_of_ble_eq_true rfl, Nat.le_of_ble_eq_true rfl⟩) (fun v1 S1 H locs hp w => ?_)
  obtain ⟨rfl, rfl⟩ := hp
  refine lv_if_ne (tgt := 21) hx hb dX16_clarity_11 (by decide) (fun hy11 => ?_) (fun hy11 => ?_)
  · refine lv_aload_n hx hb dX16_clarity_21 rfl (lv_at hl 0 rfl) ?_
    refine lv_iload_n hx hb dX16_clarity_22 rfl (lv_at hl 1 rfl) ?_
    refine cV (S := (sI S 256 0 0)) (nA := 1) (As := [.int a]) (rest := []) X w hl h.v (r_X16_clarityNow G (sI S 256 0 0) ea ns nj nm nt nr nq h a) wY_X16_clarityNow wM_X16_306 wIn_X16_clarityNow wSe_X16_X16_clarityNow wI_X16 (by decide) rfl (by decide +kernel) rfl rfl dX16_clarity_23 ⟨by decide, by decide⟩ (Nat.le_of_ble_eq_true rfl) (⟨Nat.le_of_ble_eq_true rfl, Nat.le_of_ble_eq_true rfl⟩) (fun v2 S1 H locs hp w => ?_)
    obtain ⟨rfl, rfl⟩ := hp
    exact rD X w rfl dX16_clarity_26 (by decide) (by decide) (Or.inr ⟨if_neg (by rw [show sOut a 0 5 = false by simpa using b2i_t hy11]; decide), by rw [← hF0.mean]; first | done | rfl, ⟨_, hea ▸ h, hQ, hZr, hF.keepT hK, (hK.I (f := 257) (i := 0) rfl).trans hg⟩, Kq.rB (kTR hK), rfl⟩)
  · refine lv_aload_n hx hb dX16_clarity_14 rfl (lv_at hl 0 rfl) ?_
    refine lv_iconst (v := 1) hx hb dX16_clarity_15 (by decide) ?_
    refine cV (S := (sI S 256 0 0)) (nA := 1) (As := [.int 1]) (rest := []) X w hl h.v (m_X16_no G (sI S 256 0 0) ea ns nj nm nt nr nq h 1) wY_X16_no wM_X16_229 wIn_X16_no wSe_X16_X16_no wI_X16 (by decide) rfl (by decide +kernel) rfl rfl dX16_clarity_16 ⟨by decide, by decide⟩ (Nat.le_of_ble_eq_true rfl) (⟨Nat.le_of_ble_eq_true rfl, Nat.le_of_ble_eq_true rfl⟩) (fun v3 S1 H locs hp w => ?_)
    obtain ⟨rfl, rfl⟩ := hp
    have h : RI ea (sI (sI S 256 0 0) 256 0 1) ns nj nm nt nr nq := h.stI (by decide)
    have hK : Kq hvTm hiTm hrTm S (sI (sI S 256 0 0) 256 0 1) := hK.sI rfl
    refine lv_i2d hx hb dX16_clarity_19 ?_
    exact rD X w rfl dX16_clarity_20 (by decide) (by decide) (pfd_x (k := 1) (if_pos (by simpa using b2i_f hy11)) (by decide) (by decide) ⟨_, hea ▸ h, hQ, hZr, (hF.oI rfl).oI rfl, hg⟩)

theorem dX16_desk_0 : decode cX16_desk 0 = .ok (.aload_n 0, 1) := by decide +kernel
theorem dX16_desk_1 : decode cX16_desk 1 = .ok (.iconst 0, 1) := by decide +kernel
theorem dX16_desk_2 : decode cX16_desk 2 = .ok (.putfield 43, 3) := by decide +kernel
theorem dX16_desk_5 : decode cX16_desk 5 = .ok (.iload_n 1, 1) := by decide +kernel
theorem dX16_desk_6 : decode cX16_desk 6 = .ok (.iconst 0, 1) := by decide +kernel
theorem dX16_desk_7 : decode cX16_desk 7 = .ok (.bipush 18, 2) := by decide +kernel
theorem dX16_desk_9 : decode cX16_desk 9 = .ok (.invokestatic 224, 3) := by decide +kernel
theorem dX16_desk_12 : decode cX16_desk 12 = .ok (.ifCond .ne 9, 3) := by decide +kernel
theorem dX16_desk_15 : decode cX16_desk 15 = .ok (.aload_n 0, 1) := by decide +kernel
theorem dX16_desk_16 : decode cX16_desk 16 = .ok (.iconst 1, 1) := by decide +kernel
theorem dX16_desk_17 : decode cX16_desk 17 = .ok (.invokevirtual 229, 3) := by decide +kernel
theorem dX16_desk_20 : decode cX16_desk 20 = .ok (.ireturn, 1) := by decide +kernel
theorem dX16_desk_21 : decode cX16_desk 21 = .ok (.aload_n 0, 1) := by decide +kernel
theorem dX16_desk_22 : decode cX16_desk 22 = .ok (.iload_n 1, 1) := by decide +kernel
theorem dX16_desk_23 : decode cX16_desk 23 = .ok (.invokevirtual 310, 3) := by decide +kernel
theorem dX16_desk_26 : decode cX16_desk 26 = .ok (.ireturn, 1) := by decide +kernel
abbrev rm_m_X16_desk : Room := { frames := 4, cells := 2, slots := 24, locals := 89 }
set_option maxHeartbeats 4000000 in
set_option maxRecDepth 100000 in
theorem m_X16_desk {s0 : State} {l : Launch} {D : va_G} {cy : Nat → ClassId} (G : Gl s0 l D cy) (S : HS) (ea ns nj nm nt nr nq : Nat) (h : RI ea S ns nj nm nt nr nq) (hea : ea = eaOf s0) (hQ : QI s0 S nq nt) (hZr : Zr S) (A : HS) (g0 : Nat) (hF : RF s0 S A nq nt) (hg : mI S 257 0 = nI g0) (a : Int32) : Ctr s0 l D cy yX16_desk cX16_desk 2 (some .int) rm_m_X16_desk S [.ref (gG S 16 0), .int a] (PF s0 S (ns, nj, nm, nr, nt, g0, A) (laK a 18) (rDesk A ns nj nm nr nt (mI S 260 0) a.toNatClampNeg) (ns, nj, nm, nr, nt, g0, A)) := by
  refine pro "CavershamShiftModel" G rfl rfl (Nat.le_of_ble_eq_true rfl) (fun p e s m below meth c ls X w hnm hl => ?_)
  have hx := X.1
  have hb := X.2.1
  have hown := X.2.2.2.1
  have hts := X.2.2.2.2.1
  have hl : lv_has ls 2 [(0, .ref (gG S 16 0)), (1, .int a)] := hl
  have h0 := h
  have hK : Kq hvTm hiTm hrTm S S := Kq.rf
  have hE : RE S A := hF.re
  have hF0 : RF s0 (sI S 256 0 0) A nq nt := hF.oI rfl
  refine lv_aload_n hx hb dX16_desk_0 rfl (lv_at hl 0 rfl) ?_
  refine lv_iconst (v := 0) hx hb dX16_desk_1 (by decide) ?_
  refine p_16_0 (S := S) (x := 0) X w h.v wF_X16_43 dX16_desk_2 (fun H locs w => ?_)
  have h : RI ea (sI S 256 0 0) ns nj nm nt nr nq := h.stI (by decide)
  have hK : Kq hvTm hiTm hrTm S (sI S 256 0 0) := hK.sI rfl
  refine lv_iload_n hx hb dX16_desk_5 rfl (lv_at hl 1 rfl) ?_
  refine lv_iconst (v := 0) hx hb dX16_desk_6 (by decide) ?_
  refine lv_bipush (v := 18) hx hb dX16_desk_7 (by decide) ?_
  refine cS (S := (sI S 256 0 0)) (nA := 3) (As := [.int a, .int 0, .int 18]) (rest := []) X w hl (m_X16_in G (sI S 256 0 0) a 0 18) wY_X16_in wM_X16_224 wSt_X16_in wI_X16 (by decide +kernel) rfl rfl dX16_desk_9 ⟨by decide, by decide⟩ (Nat.le_of_ble_eq_true rfl) (⟨Nat.le_of_ble_eq_true rfl, Nat.le_of_ble_eq_true rfl⟩) (fun v1 S1 H locs hp w => ?_)
  obtain ⟨rfl, rfl⟩ := hp
  refine lv_if_ne (tgt := 21) hx hb dX16_desk_12 (by decide) (fun hy12 => ?_) (fun hy12 => ?_)
  · obtain ⟨j2, hlj2, hvj2⟩ := out_in (n := 19) (by decide) (by rw [show (nI 19 - 1 : Int32) = 18 by decide]; exact (by simpa using b2i_t hy12))
    rw [hvj2] at hl
    refine lv_aload_n hx hb dX16_desk_21 rfl (lv_at hl 0 rfl) ?_
    refine lv_iload_n hx hb dX16_desk_22 rfl (lv_at hl 1 rfl) ?_
    refine cV (S := (sI S 256 0 0)) (nA := 1) (As := [.int (nI j2)]) (rest := []) X w hl h.v (r_X16_deskNow G (sI S 256 0 0) ea ns nj nm nt nr nq h j2 hlj2 A hF0 (hZr.tmp _ (by decide))) wY_X16_deskNow wM_X16_310 wIn_X16_deskNow wSe_X16_X16_deskNow wI_X16 (by decide) rfl (by decide +kernel) rfl rfl dX16_desk_23 ⟨by decide, by decide⟩ (Nat.le_of_ble_eq_true rfl) (⟨Nat.le_of_ble_eq_true rfl, Nat.le_of_ble_eq_true rfl⟩) (fun v3 S1 H locs hp w => ?_)
    obtain ⟨rfl, rfl⟩ := hp
    exact rI X w rfl dX16_desk_26 (by decide) (by decide) (Or.inr ⟨by have z12 : sOut a 0 18 = false := (by simpa using b2i_t hy12); simp [laK, z12], by rw [tnI (n := 19) (a := a) (by assumption) (by decide) (by assumption)]; first | done | rfl, ⟨_, hea ▸ h, hQ, hZr, hF.keepT hK, (hK.I (f := 257) (i := 0) rfl).trans hg⟩, Kq.rB (kTR hK), rfl⟩)
  · refine lv_aload_n hx hb dX16_desk_15 rfl (lv_at hl 0 rfl) ?_
    refine lv_iconst (v := 1) hx hb dX16_desk_16 (by decide) ?_
    refine cV (S := (sI S 256 0 0)) (nA := 1) (As := [.int 1]) (rest := []) X w hl h.v (m_X16_no G (sI S 256 0 0) ea ns nj nm nt nr nq h 1) wY_X16_no wM_X16_229 wIn_X16_no wSe_X16_X16_no wI_X16 (by decide) rfl (by decide +kernel) rfl rfl dX16_desk_17 ⟨by decide, by decide⟩ (Nat.le_of_ble_eq_true rfl) (⟨Nat.le_of_ble_eq_true rfl, Nat.le_of_ble_eq_true rfl⟩) (fun v4 S1 H locs hp w => ?_)
    obtain ⟨rfl, rfl⟩ := hp
    have h : RI ea (sI (sI S 256 0 0) 256 0 1) ns nj nm nt nr nq := h.stI (by decide)
    have hK : Kq hvTm hiTm hrTm S (sI (sI S 256 0 0) 256 0 1) := hK.sI rfl
    exact rI X w rfl dX16_desk_20 (by decide) (by decide) (pf_x (k := 1) (by first | (have y : sOut a 0 18 = true := (by simpa using b2i_f hy12); simp [laK, y])) (by decide) (by decide) ⟨_, hea ▸ h, hQ, hZr, (hF.oI rfl).oI rfl, hg⟩)

theorem dX16_wouldSend_0 : decode cX16_wouldSend 0 = .ok (.aload_n 0, 1) := by decide +kernel
theorem dX16_wouldSend_1 : decode cX16_wouldSend 1 = .ok (.iconst 0, 1) := by decide +kernel
theorem dX16_wouldSend_2 : decode cX16_wouldSend 2 = .ok (.putfield 43, 3) := by decide +kernel
theorem dX16_wouldSend_5 : decode cX16_wouldSend 5 = .ok (.aload_n 0, 1) := by decide +kernel
theorem dX16_wouldSend_6 : decode cX16_wouldSend 6 = .ok (.invokevirtual 370, 3) := by decide +kernel
theorem dX16_wouldSend_9 : decode cX16_wouldSend 9 = .ok (.ireturn, 1) := by decide +kernel
abbrev rm_m_X16_wouldSend : Room := { frames := 5, cells := 1, slots := 40, locals := 113 }
set_option maxHeartbeats 4000000 in
set_option maxRecDepth 100000 in
theorem m_X16_wouldSend {s0 : State} {l : Launch} {D : va_G} {cy : Nat → ClassId} (G : Gl s0 l D cy) (S : HS) (ea ns nj nm nt nr nq : Nat) (h : RI ea S ns nj nm nt nr nq) (hea : ea = eaOf s0) (hQ : QI s0 S nq nt) (hZr : Zr S) (A : HS) (g0 : Nat) (hF : RF s0 S A nq nt) (hg : mI S 257 0 = nI g0) : Ctr s0 l D cy yX16_wouldSend cX16_wouldSend 1 (some .int) rm_m_X16_wouldSend S [.ref (gG S 16 0)] (PRi s0 S (ns, nj, nm, nr, nt, g0, A)) := by
  refine pro "CavershamShiftModel" G rfl rfl (Nat.le_of_ble_eq_true rfl) (fun p e s m below meth c ls X w hnm hl => ?_)
  have hx := X.1
  have hb := X.2.1
  have hown := X.2.2.2.1
  have hts := X.2.2.2.2.1
  have hl : lv_has ls 1 [(0, .ref (gG S 16 0))] := hl
  have h0 := h
  have hK : Kq hvTm hiTm hrTm S S := Kq.rf
  have hE : RE S A := hF.re
  refine lv_aload_n hx hb dX16_wouldSend_0 rfl (lv_at hl 0 rfl) ?_
  refine lv_iconst (v := 0) hx hb dX16_wouldSend_1 (by decide) ?_
  refine p_16_0 (S := S) (x := 0) X w h.v wF_X16_43 dX16_wouldSend_2 (fun H locs w => ?_)
  have h : RI ea (sI S 256 0 0) ns nj nm nt nr nq := h.stI (by decide)
  have hK : Kq hvTm hiTm hrTm S (sI S 256 0 0) := hK.sI rfl
  refine lv_aload_n hx hb dX16_wouldSend_5 rfl (lv_at hl 0 rfl) ?_
  refine cV (S := (sI S 256 0 0)) (nA := 0) (As := []) (rest := []) X w hl h.v (m_X16_wouldSendNow G (sI S 256 0 0) ea ns nj nm nt nr nq h (hZr.tmp _ (by decide))) wY_X16_wouldSendNow wM_X16_370 wIn_X16_wouldSendNow wSe_X16_X16_wouldSendNow wI_X16 (by decide) rfl (by decide +kernel) rfl rfl dX16_wouldSend_6 ⟨by decide, by decide⟩ (Nat.le_of_ble_eq_true rfl) (⟨Nat.le_of_ble_eq_true rfl, Nat.le_of_ble_eq_true rfl⟩) (fun v2 S1 H locs hp w => ?_)
  obtain ⟨⟨x1, rfl⟩, rfl⟩ := hp
  exact rI X w rfl dX16_wouldSend_9 (by decide) (by decide) (⟨⟨_, rfl⟩, ⟨_, hea ▸ h, hQ, hZr, hF.keepT hK, (hK.I (f := 257) (i := 0) rfl).trans hg⟩, kTR hK⟩)

theorem dX16_isSound_0 : decode cX16_isSound 0 = .ok (.aload_n 0, 1) := by decide +kernel
theorem dX16_isSound_1 : decode cX16_isSound 1 = .ok (.iconst 0, 1) := by decide +kernel
theorem dX16_isSound_2 : decode cX16_isSound 2 = .ok (.putfield 43, 3) := by decide +kernel
theorem dX16_isSound_5 : decode cX16_isSound 5 = .ok (.aload_n 0, 1) := by decide +kernel
theorem dX16_isSound_6 : decode cX16_isSound 6 = .ok (.invokevirtual 373, 3) := by decide +kernel
theorem dX16_isSound_9 : decode cX16_isSound 9 = .ok (.ireturn, 1) := by decide +kernel
abbrev rm_m_X16_isSound : Room := { frames := 5, cells := 12, slots := 144, locals := 112 }
set_option maxHeartbeats 4000000 in
set_option maxRecDepth 100000 in
theorem m_X16_isSound {s0 : State} {l : Launch} {D : va_G} {cy : Nat → ClassId} (G : Gl s0 l D cy) (S : HS) (ea ns nj nm nt nr nq : Nat) (h : RI ea S ns nj nm nt nr nq) (hea : ea = eaOf s0) (hQ : QI s0 S nq nt) (hZr : Zr S) (A : HS) (g0 : Nat) (hF : RF s0 S A nq nt) (hg : mI S 257 0 = nI g0) : Ctr s0 l D cy yX16_isSound cX16_isSound 1 (some .boolean) rm_m_X16_isSound S [.ref (gG S 16 0)] (PRz s0 S (ns, nj, nm, nr, nt, g0, A)) := by
  refine pro "CavershamShiftModel" G rfl rfl (Nat.le_of_ble_eq_true rfl) (fun p e s m below meth c ls X w hnm hl => ?_)
  have hx := X.1
  have hb := X.2.1
  have hown := X.2.2.2.1
  have hts := X.2.2.2.2.1
  have hl : lv_has ls 1 [(0, .ref (gG S 16 0))] := hl
  have h0 := h
  have hK : Kq hvTm hiTm hrTm S S := Kq.rf
  have hE : RE S A := hF.re
  refine lv_aload_n hx hb dX16_isSound_0 rfl (lv_at hl 0 rfl) ?_
  refine lv_iconst (v := 0) hx hb dX16_isSound_1 (by decide) ?_
  refine p_16_0 (S := S) (x := 0) X w h.v wF_X16_43 dX16_isSound_2 (fun H locs w => ?_)
  have h : RI ea (sI S 256 0 0) ns nj nm nt nr nq := h.stI (by decide)
  have hK : Kq hvTm hiTm hrTm S (sI S 256 0 0) := hK.sI rfl
  refine lv_aload_n hx hb dX16_isSound_5 rfl (lv_at hl 0 rfl) ?_
  refine cV (S := (sI S 256 0 0)) (nA := 0) (As := []) (rest := []) X w hl h.v (m_X16_isSoundNow G (sI S 256 0 0) ea ns nj nm nt nr nq h (hZr.tmp _ (by decide))) wY_X16_isSoundNow wM_X16_373 wIn_X16_isSoundNow wSe_X16_X16_isSoundNow wI_X16 (by decide) rfl (by decide +kernel) rfl rfl dX16_isSound_6 ⟨by decide, by decide⟩ (Nat.le_of_ble_eq_true rfl) (⟨Nat.le_of_ble_eq_true rfl, Nat.le_of_ble_eq_true rfl⟩) (fun v2 S1 H locs hp w => ?_)
  obtain ⟨⟨x1, rfl⟩, rfl⟩ := hp
  exact rZ X w rfl dX16_isSound_9 (b2i_01 _) (by decide) (by decide) (⟨⟨_, rfl⟩, ⟨_, hea ▸ h, hQ, hZr, hF.keepT hK, (hK.I (f := 257) (i := 0) rfl).trans hg⟩, kTR hK⟩)

