theorem ix_0 {j : Nat} (h : j < 3) : (nI (1 + 2 * j) + 0).toNatClampNeg = 1 + 2 * j := by
  rw [show nI (1 + 2 * j) + 0 = nI (1 + 2 * j + 0) from nI_add _ 0]; exact nI_clamp (by omega)
theorem ix_1 {j : Nat} (h : j < 3) : (nI (1 + 2 * j) + 1).toNatClampNeg = 1 + 2 * j + 1 := by
  rw [show nI (1 + 2 * j) + 1 = nI (1 + 2 * j + 1) from nI_1 _]; exact nI_clamp (by omega)

theorem dX16_best_0 : decode cX16_best 0 = .ok (.aload_n 0, 1) := by decide +kernel
theorem dX16_best_1 : decode cX16_best 1 = .ok (.iconst 0, 1) := by decide +kernel
theorem dX16_best_2 : decode cX16_best 2 = .ok (.putfield 43, 3) := by decide +kernel
theorem dX16_best_5 : decode cX16_best 5 = .ok (.iload_n 1, 1) := by decide +kernel
theorem dX16_best_6 : decode cX16_best 6 = .ok (.iconst 0, 1) := by decide +kernel
theorem dX16_best_7 : decode cX16_best 7 = .ok (.bipush 23, 2) := by decide +kernel
theorem dX16_best_9 : decode cX16_best 9 = .ok (.invokestatic 224, 3) := by decide +kernel
theorem dX16_best_12 : decode cX16_best 12 = .ok (.ifCond .ne 9, 3) := by decide +kernel
theorem dX16_best_15 : decode cX16_best 15 = .ok (.aload_n 0, 1) := by decide +kernel
theorem dX16_best_16 : decode cX16_best 16 = .ok (.iconst 1, 1) := by decide +kernel
theorem dX16_best_17 : decode cX16_best 17 = .ok (.invokevirtual 229, 3) := by decide +kernel
theorem dX16_best_20 : decode cX16_best 20 = .ok (.ireturn, 1) := by decide +kernel
theorem dX16_best_21 : decode cX16_best 21 = .ok (.aload_n 0, 1) := by decide +kernel
theorem dX16_best_22 : decode cX16_best 22 = .ok (.iload_n 1, 1) := by decide +kernel
theorem dX16_best_23 : decode cX16_best 23 = .ok (.invokevirtual 363, 3) := by decide +kernel
theorem dX16_best_26 : decode cX16_best 26 = .ok (.iconst 0, 1) := by decide +kernel
theorem dX16_best_27 : decode cX16_best 27 = .ok (.iaload, 1) := by decide +kernel
theorem dX16_best_28 : decode cX16_best 28 = .ok (.ireturn, 1) := by decide +kernel
abbrev rm_m_X16_best : Room := { frames := 7, cells := 2, slots := 48, locals := 166 }
set_option maxHeartbeats 4000000 in
set_option maxRecDepth 100000 in
theorem m_X16_best {s0 : State} {l : Launch} {D : va_G} {cy : Nat → ClassId} (G : Gl s0 l D cy) (S : HS) (ea ns nj nm nt nr nq : Nat) (h : RI ea S ns nj nm nt nr nq) (hea : ea = eaOf s0) (hQ : QI s0 S nq nt) (hZr : Zr S) (A : HS) (g0 : Nat) (hF : RF s0 S A nq nt) (hg : mI S 257 0 = nI g0) (a : Int32) : Ctr s0 l D cy yX16_best cX16_best 2 (some .int) rm_m_X16_best S [.ref (gG S 16 0), .int a] (PF s0 S (ns, nj, nm, nr, nt, g0, A) (laK a 23) (nI (bG (bQ A ns nj nm a) 3 nF nF)) (ns, nj, nm, nr, nt, g0, A)) := by
  refine pro "CavershamShiftModel" G rfl rfl (Nat.le_of_ble_eq_true rfl) (fun p e s m below meth c ls X w hnm hl => ?_)
  have hx := X.1
  have hb := X.2.1
  have hown := X.2.2.2.1
  have hts := X.2.2.2.2.1
  have hl : lv_has ls 2 [(0, .ref (gG S 16 0)), (1, .int a)] := hl
  have h0 := h
  have hK : Kq hvTm hiTm hrTm S S := Kq.rf
  have hE : RE S A := hF.re
  have hF0 : RF s0 (sI S 256 0 0) A nq nt := hF.oI rfl
  refine lv_aload_n hx hb dX16_best_0 rfl (lv_at hl 0 rfl) ?_
  refine lv_iconst (v := 0) hx hb dX16_best_1 (by decide) ?_
  refine p_16_0 (S := S) (x := 0) X w h.v wF_X16_43 dX16_best_2 (fun H locs w => ?_)
  have h : RI ea (sI S 256 0 0) ns nj nm nt nr nq := h.stI (by decide)
  have hK : Kq hvTm hiTm hrTm S (sI S 256 0 0) := hK.sI rfl
  refine lv_iload_n hx hb dX16_best_5 rfl (lv_at hl 1 rfl) ?_
  refine lv_iconst (v := 0) hx hb dX16_best_6 (by decide) ?_
  refine lv_bipush (v := 23) hx hb dX16_best_7 (by decide) ?_
  refine cS (S := (sI S 256 0 0)) (nA := 3) (As := [.int a, .int 0, .int 23]) (rest := []) X w hl (m_X16_in G (sI S 256 0 0) a 0 23) wY_X16_in wM_X16_224 wSt_X16_in wI_X16 (by decide +kernel) rfl rfl dX16_best_9 ⟨by decide, by decide⟩ (Nat.le_of_ble_eq_true rfl) (⟨Nat.le_of_ble_eq_true rfl, Nat.le_of_ble_eq_true rfl⟩) (fun v1 S1 H locs hp w => ?_)
  obtain ⟨rfl, rfl⟩ := hp
  refine lv_if_ne (tgt := 21) hx hb dX16_best_12 (by decide) (fun hy12 => ?_) (fun hy12 => ?_)
  · refine lv_aload_n hx hb dX16_best_21 rfl (lv_at hl 0 rfl) ?_
    refine lv_iload_n hx hb dX16_best_22 rfl (lv_at hl 1 rfl) ?_
    refine cV (S := (sI S 256 0 0)) (nA := 1) (As := [.int a]) (rest := []) X w hl h.v (r_X16_bestNow G (sI S 256 0 0) ea ns nj nm nt nr nq h a (hZr.tmp LB (by decide)) A hF0) wY_X16_bestNow wM_X16_363 wIn_X16_bestNow wSe_X16_X16_bestNow wI_X16 (by decide) rfl (by decide +kernel) rfl rfl dX16_best_23 ⟨by decide, by decide⟩ (Nat.le_of_ble_eq_true rfl) (⟨Nat.le_of_ble_eq_true rfl, Nat.le_of_ble_eq_true rfl⟩) (fun v3 U2 H locs hp w => ?_)
    obtain ⟨rfl, hU9, hkB, v39_1, n39_1, hrB⟩ := hp
    have hS1 := h
    have hK1 := hK
    have h := hU9
    have hK_U2 : Kq hvTm hiTm hrTm S U2 := hK.tr (kBT hkB)
    have hK := hK_U2
    have hT0 : ¬ vV U2 39 0 := by rw [show vV U2 39 0 = vV (sI S 256 0 0) 39 0 from hkB.V rfl]; exact (hZr.2 0).1
    have hT03 : ∀ x ∈ [((39 : Nat), (0 : Nat)), (39, 3)], ¬ vV U2 x.1 x.2 := fun x hx => by rw [show vV U2 x.1 x.2 = vV (sI S 256 0 0) x.1 x.2 from hkB.V (by simp at hx; first | (rcases hx with rfl | rfl <;> rfl) | (subst hx; rfl))]; exact hZr.tmp _ (by decide) x hx
    have hT40 : ∀ x ∈ [((40 : Nat), (0 : Nat))], ¬ vV U2 x.1 x.2 := fun x hx => by rw [show vV U2 x.1 x.2 = vV (sI S 256 0 0) x.1 x.2 from hkB.V (by simp at hx; first | (rcases hx with rfl | rfl <;> rfl) | (subst hx; rfl))]; exact hZr.tmp _ (by decide) x hx
    refine lv_iconst (v := 0) hx hb dX16_best_26 (by decide) ?_
    refine aLdI (S := U2) (t := 39) (v := mA U2 39 1 (0 : Int32).toNatClampNeg) X w v39_1 (by decide) rfl rfl (by rw [n39_1]; unfold vp_in; decide) rfl dX16_best_27 ?_
    refine lv_topi (fun z4 ez4 => ?_)
    have w := w.offT hkB (hZr.tmp LB (by decide))
    have h := hS1
    have hK := hK1
    exact rI X w rfl dX16_best_28 (Nat.le_of_ble_eq_true rfl) (Nat.le_of_ble_eq_true rfl) (Or.inr ⟨by have z12 : sOut a 0 23 = false := (by simpa using b2i_t hy12); simp [laK, z12], by rw [ez4, show (0 : Int32).toNatClampNeg = 0 by decide, hrB 0 (by decide)]; rfl, ⟨_, hea ▸ h, hQ, hZr, hF.keepT hK, (hK.I (f := 257) (i := 0) rfl).trans hg⟩, Kq.rB (kTR hK), rfl⟩)
  · refine lv_aload_n hx hb dX16_best_15 rfl (lv_at hl 0 rfl) ?_
    refine lv_iconst (v := 1) hx hb dX16_best_16 (by decide) ?_
    refine cV (S := (sI S 256 0 0)) (nA := 1) (As := [.int 1]) (rest := []) X w hl h.v (m_X16_no G (sI S 256 0 0) ea ns nj nm nt nr nq h 1) wY_X16_no wM_X16_229 wIn_X16_no wSe_X16_X16_no wI_X16 (by decide) rfl (by decide +kernel) rfl rfl dX16_best_17 ⟨by decide, by decide⟩ (Nat.le_of_ble_eq_true rfl) (⟨Nat.le_of_ble_eq_true rfl, Nat.le_of_ble_eq_true rfl⟩) (fun v5 S1 H locs hp w => ?_)
    obtain ⟨rfl, rfl⟩ := hp
    have h : RI ea (sI (sI S 256 0 0) 256 0 1) ns nj nm nt nr nq := h.stI (by decide)
    have hK : Kq hvTm hiTm hrTm S (sI (sI S 256 0 0) 256 0 1) := hK.sI rfl
    exact rI X w rfl dX16_best_20 (by decide) (by decide) (pf_x (k := 1) (by first | (have y : sOut a 0 23 = true := (by simpa using b2i_f hy12); simp [laK, y])) (by decide) (by decide) ⟨_, hea ▸ h, hQ, hZr, (hF.oI rfl).oI rfl, hg⟩)

theorem dX16_bestAt_0 : decode cX16_bestAt 0 = .ok (.aload_n 0, 1) := by decide +kernel
theorem dX16_bestAt_1 : decode cX16_bestAt 1 = .ok (.iconst 0, 1) := by decide +kernel
theorem dX16_bestAt_2 : decode cX16_bestAt 2 = .ok (.putfield 43, 3) := by decide +kernel
theorem dX16_bestAt_5 : decode cX16_bestAt 5 = .ok (.iload_n 1, 1) := by decide +kernel
theorem dX16_bestAt_6 : decode cX16_bestAt 6 = .ok (.iconst 0, 1) := by decide +kernel
theorem dX16_bestAt_7 : decode cX16_bestAt 7 = .ok (.bipush 23, 2) := by decide +kernel
theorem dX16_bestAt_9 : decode cX16_bestAt 9 = .ok (.invokestatic 224, 3) := by decide +kernel
theorem dX16_bestAt_12 : decode cX16_bestAt 12 = .ok (.ifCond .eq 12, 3) := by decide +kernel
theorem dX16_bestAt_15 : decode cX16_bestAt 15 = .ok (.iload_n 2, 1) := by decide +kernel
theorem dX16_bestAt_16 : decode cX16_bestAt 16 = .ok (.iconst 0, 1) := by decide +kernel
theorem dX16_bestAt_17 : decode cX16_bestAt 17 = .ok (.iconst 2, 1) := by decide +kernel
theorem dX16_bestAt_18 : decode cX16_bestAt 18 = .ok (.invokestatic 224, 3) := by decide +kernel
theorem dX16_bestAt_21 : decode cX16_bestAt 21 = .ok (.ifCond .ne 9, 3) := by decide +kernel
theorem dX16_bestAt_24 : decode cX16_bestAt 24 = .ok (.aload_n 0, 1) := by decide +kernel
theorem dX16_bestAt_25 : decode cX16_bestAt 25 = .ok (.iconst 1, 1) := by decide +kernel
theorem dX16_bestAt_26 : decode cX16_bestAt 26 = .ok (.invokevirtual 229, 3) := by decide +kernel
theorem dX16_bestAt_29 : decode cX16_bestAt 29 = .ok (.ireturn, 1) := by decide +kernel
theorem dX16_bestAt_30 : decode cX16_bestAt 30 = .ok (.aload_n 0, 1) := by decide +kernel
theorem dX16_bestAt_31 : decode cX16_bestAt 31 = .ok (.iload_n 1, 1) := by decide +kernel
theorem dX16_bestAt_32 : decode cX16_bestAt 32 = .ok (.invokevirtual 363, 3) := by decide +kernel
theorem dX16_bestAt_35 : decode cX16_bestAt 35 = .ok (.iconst 1, 1) := by decide +kernel
theorem dX16_bestAt_36 : decode cX16_bestAt 36 = .ok (.iconst 2, 1) := by decide +kernel
theorem dX16_bestAt_37 : decode cX16_bestAt 37 = .ok (.iload_n 2, 1) := by decide +kernel
theorem dX16_bestAt_38 : decode cX16_bestAt 38 = .ok (.imul, 1) := by decide +kernel
theorem dX16_bestAt_39 : decode cX16_bestAt 39 = .ok (.iadd, 1) := by decide +kernel
theorem dX16_bestAt_40 : decode cX16_bestAt 40 = .ok (.iload_n 3, 1) := by decide +kernel
theorem dX16_bestAt_41 : decode cX16_bestAt 41 = .ok (.ifCond .eq 7, 3) := by decide +kernel
theorem dX16_bestAt_44 : decode cX16_bestAt 44 = .ok (.iconst 1, 1) := by decide +kernel
theorem dX16_bestAt_45 : decode cX16_bestAt 45 = .ok (.goto 4, 3) := by decide +kernel
theorem dX16_bestAt_48 : decode cX16_bestAt 48 = .ok (.iconst 0, 1) := by decide +kernel
theorem dX16_bestAt_49 : decode cX16_bestAt 49 = .ok (.iadd, 1) := by decide +kernel
theorem dX16_bestAt_50 : decode cX16_bestAt 50 = .ok (.iaload, 1) := by decide +kernel
theorem dX16_bestAt_51 : decode cX16_bestAt 51 = .ok (.ireturn, 1) := by decide +kernel
abbrev rm_m_X16_bestAt : Room := { frames := 7, cells := 2, slots := 48, locals := 166 }
set_option maxHeartbeats 4000000 in
set_option maxRecDepth 100000 in
theorem m_X16_bestAt {s0 : State} {l : Launch} {D : va_G} {cy : Nat → ClassId} (G : Gl s0 l D cy) (S : HS) (ea ns nj nm nt nr nq : Nat) (h : RI ea S ns nj nm nt nr nq) (hea : ea = eaOf s0) (hQ : QI s0 S nq nt) (hZr : Zr S) (A : HS) (g0 : Nat) (hF : RF s0 S A nq nt) (hg : mI S 257 0 = nI g0) (a b z : Int32) : Ctr s0 l D cy yX16_bestAt cX16_bestAt 4 (some .int) rm_m_X16_bestAt S [.ref (gG S 16 0), .int a, .int b, .int z] (PF s0 S (ns, nj, nm, nr, nt, g0, A) (siK a b) (if z = 0 then rS (bCk (bQ A ns nj nm a) b.toNatClampNeg) else rM (bCk (bQ A ns nj nm a) b.toNatClampNeg)) (ns, nj, nm, nr, nt, g0, A)) := by
  refine pro "CavershamShiftModel" G rfl rfl (Nat.le_of_ble_eq_true rfl) (fun p e s m below meth c ls X w hnm hl => ?_)
  have hx := X.1
  have hb := X.2.1
  have hown := X.2.2.2.1
  have hts := X.2.2.2.2.1
  have hl : lv_has ls 4 [(0, .ref (gG S 16 0)), (1, .int a), (2, .int b), (3, .int z)] := hl
  have h0 := h
  have hK : Kq hvTm hiTm hrTm S S := Kq.rf
  have hE : RE S A := hF.re
  have hF0 : RF s0 (sI S 256 0 0) A nq nt := hF.oI rfl
  refine lv_aload_n hx hb dX16_bestAt_0 rfl (lv_at hl 0 rfl) ?_
  refine lv_iconst (v := 0) hx hb dX16_bestAt_1 (by decide) ?_
  refine p_16_0 (S := S) (x := 0) X w h.v wF_X16_43 dX16_bestAt_2 (fun H locs w => ?_)
  have h : RI ea (sI S 256 0 0) ns nj nm nt nr nq := h.stI (by decide)
  have hK : Kq hvTm hiTm hrTm S (sI S 256 0 0) := hK.sI rfl
  refine lv_iload_n hx hb dX16_bestAt_5 rfl (lv_at hl 1 rfl) ?_
  refine lv_iconst (v := 0) hx hb dX16_bestAt_6 (by decide) ?_
  refine lv_bipush (v := 23) hx hb dX16_bestAt_7 (by decide) ?_
  refine cS (S := (sI S 256 0 0)) (nA := 3) (As := [.int a, .int 0, .int 23]) (rest := []) X w hl (m_X16_in G (sI S 256 0 0) a 0 23) wY_X16_in wM_X16_224 wSt_X16_in wI_X16 (by decide +kernel) rfl rfl dX16_bestAt_9 ⟨by decide, by decide⟩ (Nat.le_of_ble_eq_true rfl) (⟨Nat.le_of_ble_eq_true rfl, Nat.le_of_ble_eq_true rfl⟩) (fun v1 S1 H locs hp w => ?_)
  obtain ⟨rfl, rfl⟩ := hp
  refine lv_if_eq (tgt := 24) hx hb dX16_bestAt_12 (by decide) (fun hy12 => ?_) (fun hy12 => ?_)
  · refine lv_aload_n hx hb dX16_bestAt_24 rfl (lv_at hl 0 rfl) ?_
    refine lv_iconst (v := 1) hx hb dX16_bestAt_25 (by decide) ?_
    refine cV (S := (sI S 256 0 0)) (nA := 1) (As := [.int 1]) (rest := []) X w hl h.v (m_X16_no G (sI S 256 0 0) ea ns nj nm nt nr nq h 1) wY_X16_no wM_X16_229 wIn_X16_no wSe_X16_X16_no wI_X16 (by decide) rfl (by decide +kernel) rfl rfl dX16_bestAt_26 ⟨by decide, by decide⟩ (Nat.le_of_ble_eq_true rfl) (⟨Nat.le_of_ble_eq_true rfl, Nat.le_of_ble_eq_true rfl⟩) (fun v2 S1 H locs hp w => ?_)
    obtain ⟨rfl, rfl⟩ := hp
    have h : RI ea (sI (sI S 256 0 0) 256 0 1) ns nj nm nt nr nq := h.stI (by decide)
    have hK : Kq hvTm hiTm hrTm S (sI (sI S 256 0 0) 256 0 1) := hK.sI rfl
    exact rI X w rfl dX16_bestAt_29 (by decide) (by decide) (pf_x (k := 1) (by first | exact siK_1a (by simpa using b2i_f hy12) | exact siK_1b (by simpa using b2i_f hy21)) (by decide) (by decide) ⟨_, hea ▸ h, hQ, hZr, (hF.oI rfl).oI rfl, hg⟩)
  · refine lv_iload_n hx hb dX16_bestAt_15 rfl (lv_at hl 2 rfl) ?_
    refine lv_iconst (v := 0) hx hb dX16_bestAt_16 (by decide) ?_
    refine lv_iconst (v := 2) hx hb dX16_bestAt_17 (by decide) ?_
    refine cS (S := (sI S 256 0 0)) (nA := 3) (As := [.int b, .int 0, .int 2]) (rest := []) X w hl (m_X16_in G (sI S 256 0 0) b 0 2) wY_X16_in wM_X16_224 wSt_X16_in wI_X16 (by decide +kernel) rfl rfl dX16_bestAt_18 ⟨by decide, by decide⟩ (Nat.le_of_ble_eq_true rfl) (⟨Nat.le_of_ble_eq_true rfl, Nat.le_of_ble_eq_true rfl⟩) (fun v3 S1 H locs hp w => ?_)
    obtain ⟨rfl, rfl⟩ := hp
    refine lv_if_ne (tgt := 30) hx hb dX16_bestAt_21 (by decide) (fun hy21 => ?_) (fun hy21 => ?_)
    · obtain ⟨j4, hlj4, hvj4⟩ := out_in (n := 3) (by decide) (by rw [show (nI 3 - 1 : Int32) = 2 by decide]; exact (by simpa using b2i_t hy21))
      rw [hvj4] at hl
      refine lv_aload_n hx hb dX16_bestAt_30 rfl (lv_at hl 0 rfl) ?_
      refine lv_iload_n hx hb dX16_bestAt_31 rfl (lv_at hl 1 rfl) ?_
      refine cV (S := (sI S 256 0 0)) (nA := 1) (As := [.int a]) (rest := []) X w hl h.v (r_X16_bestNow G (sI S 256 0 0) ea ns nj nm nt nr nq h a (hZr.tmp LB (by decide)) A hF0) wY_X16_bestNow wM_X16_363 wIn_X16_bestNow wSe_X16_X16_bestNow wI_X16 (by decide) rfl (by decide +kernel) rfl rfl dX16_bestAt_32 ⟨by decide, by decide⟩ (Nat.le_of_ble_eq_true rfl) (⟨Nat.le_of_ble_eq_true rfl, Nat.le_of_ble_eq_true rfl⟩) (fun v6 U5 H locs hp w => ?_)
      obtain ⟨rfl, hU9, hkB, v39_1, n39_1, hrB⟩ := hp
      have hS1 := h
      have hK1 := hK
      have h := hU9
      have hK_U5 : Kq hvTm hiTm hrTm S U5 := hK.tr (kBT hkB)
      have hK := hK_U5
      have hT0 : ¬ vV U5 39 0 := by rw [show vV U5 39 0 = vV (sI S 256 0 0) 39 0 from hkB.V rfl]; exact (hZr.2 0).1
      have hT03 : ∀ x ∈ [((39 : Nat), (0 : Nat)), (39, 3)], ¬ vV U5 x.1 x.2 := fun x hx => by rw [show vV U5 x.1 x.2 = vV (sI S 256 0 0) x.1 x.2 from hkB.V (by simp at hx; first | (rcases hx with rfl | rfl <;> rfl) | (subst hx; rfl))]; exact hZr.tmp _ (by decide) x hx
      have hT40 : ∀ x ∈ [((40 : Nat), (0 : Nat))], ¬ vV U5 x.1 x.2 := fun x hx => by rw [show vV U5 x.1 x.2 = vV (sI S 256 0 0) x.1 x.2 from hkB.V (by simp at hx; first | (rcases hx with rfl | rfl <;> rfl) | (subst hx; rfl))]; exact hZr.tmp _ (by decide) x hx
      refine lv_iconst (v := 1) hx hb dX16_bestAt_35 (by decide) ?_
      refine lv_iconst (v := 2) hx hb dX16_bestAt_36 (by decide) ?_
      refine lv_iload_n hx hb dX16_bestAt_37 rfl (lv_at hl 2 rfl) ?_
      refine lv_imul hx hb dX16_bestAt_38 ?_
      refine lv_topi (fun z7 ez7 => ?_)
      obtain rfl : z7 = nI (2 * j4) := ez7.trans (by rw [show (2 : Int32) = nI 2 from rfl, pk_mul])
      refine lv_iadd hx hb dX16_bestAt_39 ?_
      refine lv_topi (fun z8 ez8 => ?_)
      obtain rfl : z8 = nI (1 + 2 * j4) := ez8.trans (nI_add 1 _)
      refine lv_iload_n hx hb dX16_bestAt_40 rfl (lv_at hl 3 rfl) ?_
      refine lv_if_eq (tgt := 48) hx hb dX16_bestAt_41 (by decide) (fun hz9 => ?_) (fun hz9 => ?_)
      · refine lv_iconst (v := 0) hx hb dX16_bestAt_48 (by decide) ?_
        refine lv_iadd hx hb dX16_bestAt_49 ?_
        refine aLdI (S := U5) (t := 39) (v := mA U5 39 1 ((nI (1 + 2 * j4)) + 0).toNatClampNeg) X w v39_1 (by decide) rfl rfl (by rw [n39_1]; first | (rw [show nI (1 + 2 * j4) + 1 = nI (1 + 2 * j4 + 1) from nI_1 _]; exact nI_vp (by omega) (by decide)) | (rw [show nI (1 + 2 * j4) + 0 = nI (1 + 2 * j4 + 0) from nI_add _ 0]; exact nI_vp (by omega) (by decide))) rfl dX16_bestAt_50 ?_
        refine lv_topi (fun z9 ez9 => ?_)
        have w := w.offT hkB (hZr.tmp LB (by decide))
        have h := hS1
        have hK := hK1
        exact rI X w rfl dX16_bestAt_51 (Nat.le_of_ble_eq_true rfl) (Nat.le_of_ble_eq_true rfl) (Or.inr ⟨siK_0 (by simpa using b2i_t hy12) (by simpa using b2i_t hy21), by rw [tnI (n := 3) (a := b) (by assumption) (by decide) (by assumption)]; (first | rw [if_pos hz9, ez9, ix_0 (by assumption), hrB _ (by omega), (rB_S j4 (by assumption)).1] | rw [if_neg hz9, ez9, ix_1 (by assumption), hrB _ (by omega), (rB_S j4 (by assumption)).2]), ⟨_, hea ▸ h, hQ, hZr, hF.keepT hK, (hK.I (f := 257) (i := 0) rfl).trans hg⟩, Kq.rB (kTR hK), rfl⟩)
      · refine lv_iconst (v := 1) hx hb dX16_bestAt_44 (by decide) ?_
        refine lv_goto (tgt := 49) hx hb dX16_bestAt_45 (by decide) ?_
        refine lv_iadd hx hb dX16_bestAt_49 ?_
        refine aLdI (S := U5) (t := 39) (v := mA U5 39 1 ((nI (1 + 2 * j4)) + 1).toNatClampNeg) X w v39_1 (by decide) rfl rfl (by rw [n39_1]; first | (rw [show nI (1 + 2 * j4) + 1 = nI (1 + 2 * j4 + 1) from nI_1 _]; exact nI_vp (by omega) (by decide)) | (rw [show nI (1 + 2 * j4) + 0 = nI (1 + 2 * j4 + 0) from nI_add _ 0]; exact nI_vp (by omega) (by decide))) rfl dX16_bestAt_50 ?_
        refine lv_topi (fun z10 ez10 => ?_)
        have w := w.offT hkB (hZr.tmp LB (by decide))
        have h := hS1
        have hK := hK1
        exact rI X w rfl dX16_bestAt_51 (Nat.le_of_ble_eq_true rfl) (Nat.le_of_ble_eq_true rfl) (Or.inr ⟨siK_0 (by simpa using b2i_t hy12) (by simpa using b2i_t hy21), by rw [tnI (n := 3) (a := b) (by assumption) (by decide) (by assumption)]; (first | rw [if_pos hz9, ez10, ix_0 (by assumption), hrB _ (by omega), (rB_S j4 (by assumption)).1] | rw [if_neg hz9, ez10, ix_1 (by assumption), hrB _ (by omega), (rB_S j4 (by assumption)).2]), ⟨_, hea ▸ h, hQ, hZr, hF.keepT hK, (hK.I (f := 257) (i := 0) rfl).trans hg⟩, Kq.rB (kTR hK), rfl⟩)
    · refine lv_aload_n hx hb dX16_bestAt_24 rfl (lv_at hl 0 rfl) ?_
      refine lv_iconst (v := 1) hx hb dX16_bestAt_25 (by decide) ?_
      refine cV (S := (sI S 256 0 0)) (nA := 1) (As := [.int 1]) (rest := []) X w hl h.v (m_X16_no G (sI S 256 0 0) ea ns nj nm nt nr nq h 1) wY_X16_no wM_X16_229 wIn_X16_no wSe_X16_X16_no wI_X16 (by decide) rfl (by decide +kernel) rfl rfl dX16_bestAt_26 ⟨by decide, by decide⟩ (Nat.le_of_ble_eq_true rfl) (⟨Nat.le_of_ble_eq_true rfl, Nat.le_of_ble_eq_true rfl⟩) (fun v11 S1 H locs hp w => ?_)
      obtain ⟨rfl, rfl⟩ := hp
      have h : RI ea (sI (sI S 256 0 0) 256 0 1) ns nj nm nt nr nq := h.stI (by decide)
      have hK : Kq hvTm hiTm hrTm S (sI (sI S 256 0 0) 256 0 1) := hK.sI rfl
      exact rI X w rfl dX16_bestAt_29 (by decide) (by decide) (pf_x (k := 1) (by first | exact siK_1a (by simpa using b2i_f hy12) | exact siK_1b (by simpa using b2i_f hy21)) (by decide) (by decide) ⟨_, hea ▸ h, hQ, hZr, (hF.oI rfl).oI rfl, hg⟩)

theorem dX16_digest_0 : decode cX16_digest 0 = .ok (.aload_n 0, 1) := by decide +kernel
theorem dX16_digest_1 : decode cX16_digest 1 = .ok (.iconst 0, 1) := by decide +kernel
theorem dX16_digest_2 : decode cX16_digest 2 = .ok (.putfield 43, 3) := by decide +kernel
theorem dX16_digest_5 : decode cX16_digest 5 = .ok (.ldc2_w 376, 3) := by decide +kernel
theorem dX16_digest_8 : decode cX16_digest 8 = .ok (.lstore_n 1, 1) := by decide +kernel
theorem dX16_digest_9 : decode cX16_digest 9 = .ok (.iconst 0, 1) := by decide +kernel
theorem dX16_digest_10 : decode cX16_digest 10 = .ok (.istore_n 3, 1) := by decide +kernel
theorem dX16_digest_11 : decode cX16_digest 11 = .ok (.iload_n 3, 1) := by decide +kernel
theorem dX16_digest_12 : decode cX16_digest 12 = .ok (.bipush 18, 2) := by decide +kernel
theorem dX16_digest_14 : decode cX16_digest 14 = .ok (.if_icmp .gt 22, 3) := by decide +kernel
theorem dX16_digest_17 : decode cX16_digest 17 = .ok (.lload_n 1, 1) := by decide +kernel
theorem dX16_digest_18 : decode cX16_digest 18 = .ok (.ldc2_w 378, 3) := by decide +kernel
theorem dX16_digest_21 : decode cX16_digest 21 = .ok (.lmul, 1) := by decide +kernel
theorem dX16_digest_22 : decode cX16_digest 22 = .ok (.aload_n 0, 1) := by decide +kernel
theorem dX16_digest_23 : decode cX16_digest 23 = .ok (.iload_n 3, 1) := by decide +kernel
theorem dX16_digest_24 : decode cX16_digest 24 = .ok (.invokevirtual 310, 3) := by decide +kernel
theorem dX16_digest_27 : decode cX16_digest 27 = .ok (.i2l, 1) := by decide +kernel
theorem dX16_digest_28 : decode cX16_digest 28 = .ok (.ladd, 1) := by decide +kernel
theorem dX16_digest_29 : decode cX16_digest 29 = .ok (.lstore_n 1, 1) := by decide +kernel
theorem dX16_digest_30 : decode cX16_digest 30 = .ok (.iinc 3 1, 3) := by decide +kernel
theorem dX16_digest_33 : decode cX16_digest 33 = .ok (.goto (-22), 3) := by decide +kernel
theorem dX16_digest_36 : decode cX16_digest 36 = .ok (.iconst 0, 1) := by decide +kernel
theorem dX16_digest_37 : decode cX16_digest 37 = .ok (.istore_n 3, 1) := by decide +kernel
theorem dX16_digest_38 : decode cX16_digest 38 = .ok (.iload_n 3, 1) := by decide +kernel
theorem dX16_digest_39 : decode cX16_digest 39 = .ok (.aload_n 0, 1) := by decide +kernel
theorem dX16_digest_40 : decode cX16_digest 40 = .ok (.getfield 16, 3) := by decide +kernel
theorem dX16_digest_43 : decode cX16_digest 43 = .ok (.invokeinterface 73 1, 5) := by decide +kernel
theorem dX16_digest_48 : decode cX16_digest 48 = .ok (.if_icmp .ge 40, 3) := by decide +kernel
theorem dX16_digest_51 : decode cX16_digest 51 = .ok (.iconst 0, 1) := by decide +kernel
theorem dX16_digest_52 : decode cX16_digest 52 = .ok (.istore 4, 2) := by decide +kernel
theorem dX16_digest_54 : decode cX16_digest 54 = .ok (.iload 4, 2) := by decide +kernel
theorem dX16_digest_56 : decode cX16_digest 56 = .ok (.bipush 8, 2) := by decide +kernel
theorem dX16_digest_58 : decode cX16_digest 58 = .ok (.if_icmp .gt 24, 3) := by decide +kernel
theorem dX16_digest_61 : decode cX16_digest 61 = .ok (.lload_n 1, 1) := by decide +kernel
theorem dX16_digest_62 : decode cX16_digest 62 = .ok (.ldc2_w 378, 3) := by decide +kernel
theorem dX16_digest_65 : decode cX16_digest 65 = .ok (.lmul, 1) := by decide +kernel
theorem dX16_digest_66 : decode cX16_digest 66 = .ok (.aload_n 0, 1) := by decide +kernel
theorem dX16_digest_67 : decode cX16_digest 67 = .ok (.iload_n 3, 1) := by decide +kernel
theorem dX16_digest_68 : decode cX16_digest 68 = .ok (.iload 4, 2) := by decide +kernel
theorem dX16_digest_70 : decode cX16_digest 70 = .ok (.invokevirtual 267, 3) := by decide +kernel
theorem dX16_digest_73 : decode cX16_digest 73 = .ok (.i2l, 1) := by decide +kernel
theorem dX16_digest_74 : decode cX16_digest 74 = .ok (.ladd, 1) := by decide +kernel
theorem dX16_digest_75 : decode cX16_digest 75 = .ok (.lstore_n 1, 1) := by decide +kernel
theorem dX16_digest_76 : decode cX16_digest 76 = .ok (.iinc 4 1, 3) := by decide +kernel
theorem dX16_digest_79 : decode cX16_digest 79 = .ok (.goto (-25), 3) := by decide +kernel
theorem dX16_digest_82 : decode cX16_digest 82 = .ok (.iinc 3 1, 3) := by decide +kernel
theorem dX16_digest_85 : decode cX16_digest 85 = .ok (.goto (-47), 3) := by decide +kernel
theorem dX16_digest_88 : decode cX16_digest 88 = .ok (.iconst 0, 1) := by decide +kernel
theorem dX16_digest_89 : decode cX16_digest 89 = .ok (.istore_n 3, 1) := by decide +kernel
theorem dX16_digest_90 : decode cX16_digest 90 = .ok (.iload_n 3, 1) := by decide +kernel
theorem dX16_digest_91 : decode cX16_digest 91 = .ok (.aload_n 0, 1) := by decide +kernel
theorem dX16_digest_92 : decode cX16_digest 92 = .ok (.getfield 23, 3) := by decide +kernel
theorem dX16_digest_95 : decode cX16_digest 95 = .ok (.invokeinterface 73 1, 5) := by decide +kernel
theorem dX16_digest_100 : decode cX16_digest 100 = .ok (.if_icmp .ge 40, 3) := by decide +kernel
theorem dX16_digest_103 : decode cX16_digest 103 = .ok (.iconst 0, 1) := by decide +kernel
theorem dX16_digest_104 : decode cX16_digest 104 = .ok (.istore 4, 2) := by decide +kernel
theorem dX16_digest_106 : decode cX16_digest 106 = .ok (.iload 4, 2) := by decide +kernel
theorem dX16_digest_108 : decode cX16_digest 108 = .ok (.bipush 8, 2) := by decide +kernel
theorem dX16_digest_110 : decode cX16_digest 110 = .ok (.if_icmp .gt 24, 3) := by decide +kernel
theorem dX16_digest_113 : decode cX16_digest 113 = .ok (.lload_n 1, 1) := by decide +kernel
theorem dX16_digest_114 : decode cX16_digest 114 = .ok (.ldc2_w 378, 3) := by decide +kernel
theorem dX16_digest_117 : decode cX16_digest 117 = .ok (.lmul, 1) := by decide +kernel
theorem dX16_digest_118 : decode cX16_digest 118 = .ok (.aload_n 0, 1) := by decide +kernel
theorem dX16_digest_119 : decode cX16_digest 119 = .ok (.iload_n 3, 1) := by decide +kernel
theorem dX16_digest_120 : decode cX16_digest 120 = .ok (.iload 4, 2) := by decide +kernel
theorem dX16_digest_122 : decode cX16_digest 122 = .ok (.invokevirtual 270, 3) := by decide +kernel
theorem dX16_digest_125 : decode cX16_digest 125 = .ok (.i2l, 1) := by decide +kernel
theorem dX16_digest_126 : decode cX16_digest 126 = .ok (.ladd, 1) := by decide +kernel
theorem dX16_digest_127 : decode cX16_digest 127 = .ok (.lstore_n 1, 1) := by decide +kernel
theorem dX16_digest_128 : decode cX16_digest 128 = .ok (.iinc 4 1, 3) := by decide +kernel
theorem dX16_digest_131 : decode cX16_digest 131 = .ok (.goto (-25), 3) := by decide +kernel
theorem dX16_digest_134 : decode cX16_digest 134 = .ok (.iinc 3 1, 3) := by decide +kernel
theorem dX16_digest_137 : decode cX16_digest 137 = .ok (.goto (-47), 3) := by decide +kernel
theorem dX16_digest_140 : decode cX16_digest 140 = .ok (.aload_n 0, 1) := by decide +kernel
theorem dX16_digest_141 : decode cX16_digest 141 = .ok (.aload_n 0, 1) := by decide +kernel
theorem dX16_digest_142 : decode cX16_digest 142 = .ok (.getfield 125, 3) := by decide +kernel
theorem dX16_digest_145 : decode cX16_digest 145 = .ok (.bipush 24, 2) := by decide +kernel
theorem dX16_digest_147 : decode cX16_digest 147 = .ok (.irem, 1) := by decide +kernel
theorem dX16_digest_148 : decode cX16_digest 148 = .ok (.invokevirtual 363, 3) := by decide +kernel
theorem dX16_digest_151 : decode cX16_digest 151 = .ok (.astore_n 3, 1) := by decide +kernel
theorem dX16_digest_152 : decode cX16_digest 152 = .ok (.iconst 1, 1) := by decide +kernel
theorem dX16_digest_153 : decode cX16_digest 153 = .ok (.istore 4, 2) := by decide +kernel
theorem dX16_digest_155 : decode cX16_digest 155 = .ok (.iload 4, 2) := by decide +kernel
theorem dX16_digest_157 : decode cX16_digest 157 = .ok (.bipush 6, 2) := by decide +kernel
theorem dX16_digest_159 : decode cX16_digest 159 = .ok (.if_icmp .gt 21, 3) := by decide +kernel
theorem dX16_digest_162 : decode cX16_digest 162 = .ok (.lload_n 1, 1) := by decide +kernel
theorem dX16_digest_163 : decode cX16_digest 163 = .ok (.ldc2_w 378, 3) := by decide +kernel
theorem dX16_digest_166 : decode cX16_digest 166 = .ok (.lmul, 1) := by decide +kernel
theorem dX16_digest_167 : decode cX16_digest 167 = .ok (.aload_n 3, 1) := by decide +kernel
theorem dX16_digest_168 : decode cX16_digest 168 = .ok (.iload 4, 2) := by decide +kernel
theorem dX16_digest_170 : decode cX16_digest 170 = .ok (.iaload, 1) := by decide +kernel
theorem dX16_digest_171 : decode cX16_digest 171 = .ok (.i2l, 1) := by decide +kernel
theorem dX16_digest_172 : decode cX16_digest 172 = .ok (.ladd, 1) := by decide +kernel
theorem dX16_digest_173 : decode cX16_digest 173 = .ok (.lstore_n 1, 1) := by decide +kernel
theorem dX16_digest_174 : decode cX16_digest 174 = .ok (.iinc 4 1, 3) := by decide +kernel
theorem dX16_digest_177 : decode cX16_digest 177 = .ok (.goto (-22), 3) := by decide +kernel
theorem dX16_digest_180 : decode cX16_digest 180 = .ok (.iconst 0, 1) := by decide +kernel
theorem dX16_digest_181 : decode cX16_digest 181 = .ok (.istore 4, 2) := by decide +kernel
theorem dX16_digest_183 : decode cX16_digest 183 = .ok (.iload 4, 2) := by decide +kernel
theorem dX16_digest_185 : decode cX16_digest 185 = .ok (.aload_n 0, 1) := by decide +kernel
theorem dX16_digest_186 : decode cX16_digest 186 = .ok (.getfield 26, 3) := by decide +kernel
theorem dX16_digest_189 : decode cX16_digest 189 = .ok (.invokeinterface 73 1, 5) := by decide +kernel
theorem dX16_digest_194 : decode cX16_digest 194 = .ok (.if_icmp .ge 124, 3) := by decide +kernel
theorem dX16_digest_197 : decode cX16_digest 197 = .ok (.iconst 0, 1) := by decide +kernel
theorem dX16_digest_198 : decode cX16_digest 198 = .ok (.istore 5, 2) := by decide +kernel
theorem dX16_digest_200 : decode cX16_digest 200 = .ok (.iload 5, 2) := by decide +kernel
theorem dX16_digest_202 : decode cX16_digest 202 = .ok (.bipush 7, 2) := by decide +kernel
theorem dX16_digest_204 : decode cX16_digest 204 = .ok (.if_icmp .gt 25, 3) := by decide +kernel
theorem dX16_digest_207 : decode cX16_digest 207 = .ok (.lload_n 1, 1) := by decide +kernel
theorem dX16_digest_208 : decode cX16_digest 208 = .ok (.ldc2_w 378, 3) := by decide +kernel
theorem dX16_digest_211 : decode cX16_digest 211 = .ok (.lmul, 1) := by decide +kernel
theorem dX16_digest_212 : decode cX16_digest 212 = .ok (.aload_n 0, 1) := by decide +kernel
theorem dX16_digest_213 : decode cX16_digest 213 = .ok (.iload 4, 2) := by decide +kernel
theorem dX16_digest_215 : decode cX16_digest 215 = .ok (.iload 5, 2) := by decide +kernel
theorem dX16_digest_217 : decode cX16_digest 217 = .ok (.invokevirtual 279, 3) := by decide +kernel
theorem dX16_digest_220 : decode cX16_digest 220 = .ok (.i2l, 1) := by decide +kernel
theorem dX16_digest_221 : decode cX16_digest 221 = .ok (.ladd, 1) := by decide +kernel
theorem dX16_digest_222 : decode cX16_digest 222 = .ok (.lstore_n 1, 1) := by decide +kernel
theorem dX16_digest_223 : decode cX16_digest 223 = .ok (.iinc 5 1, 3) := by decide +kernel
theorem dX16_digest_226 : decode cX16_digest 226 = .ok (.goto (-26), 3) := by decide +kernel
theorem dX16_digest_229 : decode cX16_digest 229 = .ok (.iconst 0, 1) := by decide +kernel
theorem dX16_digest_230 : decode cX16_digest 230 = .ok (.istore 5, 2) := by decide +kernel
theorem dX16_digest_232 : decode cX16_digest 232 = .ok (.iload 5, 2) := by decide +kernel
theorem dX16_digest_234 : decode cX16_digest 234 = .ok (.bipush 11, 2) := by decide +kernel
theorem dX16_digest_236 : decode cX16_digest 236 = .ok (.if_icmp .gt 25, 3) := by decide +kernel
theorem dX16_digest_239 : decode cX16_digest 239 = .ok (.lload_n 1, 1) := by decide +kernel
theorem dX16_digest_240 : decode cX16_digest 240 = .ok (.ldc2_w 378, 3) := by decide +kernel
theorem dX16_digest_243 : decode cX16_digest 243 = .ok (.lmul, 1) := by decide +kernel
theorem dX16_digest_244 : decode cX16_digest 244 = .ok (.aload_n 0, 1) := by decide +kernel
theorem dX16_digest_245 : decode cX16_digest 245 = .ok (.iload 4, 2) := by decide +kernel
theorem dX16_digest_247 : decode cX16_digest 247 = .ok (.iload 5, 2) := by decide +kernel
theorem dX16_digest_249 : decode cX16_digest 249 = .ok (.invokevirtual 290, 3) := by decide +kernel
theorem dX16_digest_252 : decode cX16_digest 252 = .ok (.i2l, 1) := by decide +kernel
theorem dX16_digest_253 : decode cX16_digest 253 = .ok (.ladd, 1) := by decide +kernel
theorem dX16_digest_254 : decode cX16_digest 254 = .ok (.lstore_n 1, 1) := by decide +kernel
theorem dX16_digest_255 : decode cX16_digest 255 = .ok (.iinc 5 1, 3) := by decide +kernel
theorem dX16_digest_258 : decode cX16_digest 258 = .ok (.goto (-26), 3) := by decide +kernel
theorem dX16_digest_261 : decode cX16_digest 261 = .ok (.iconst 0, 1) := by decide +kernel
theorem dX16_digest_262 : decode cX16_digest 262 = .ok (.istore 5, 2) := by decide +kernel
theorem dX16_digest_264 : decode cX16_digest 264 = .ok (.iload 5, 2) := by decide +kernel
theorem dX16_digest_266 : decode cX16_digest 266 = .ok (.aload_n 0, 1) := by decide +kernel
theorem dX16_digest_267 : decode cX16_digest 267 = .ok (.getfield 29, 3) := by decide +kernel
theorem dX16_digest_270 : decode cX16_digest 270 = .ok (.invokeinterface 73 1, 5) := by decide +kernel
theorem dX16_digest_275 : decode cX16_digest 275 = .ok (.if_icmp .ge 37, 3) := by decide +kernel
theorem dX16_digest_278 : decode cX16_digest 278 = .ok (.lload_n 1, 1) := by decide +kernel
theorem dX16_digest_279 : decode cX16_digest 279 = .ok (.ldc2_w 378, 3) := by decide +kernel
theorem dX16_digest_282 : decode cX16_digest 282 = .ok (.lmul, 1) := by decide +kernel
theorem dX16_digest_283 : decode cX16_digest 283 = .ok (.aload_n 0, 1) := by decide +kernel
theorem dX16_digest_284 : decode cX16_digest 284 = .ok (.getfield 29, 3) := by decide +kernel
theorem dX16_digest_287 : decode cX16_digest 287 = .ok (.iload 5, 2) := by decide +kernel
theorem dX16_digest_289 : decode cX16_digest 289 = .ok (.invokeinterface 46 2, 5) := by decide +kernel
theorem dX16_digest_294 : decode cX16_digest 294 = .ok (.checkcast 177, 3) := by decide +kernel
theorem dX16_digest_297 : decode cX16_digest 297 = .ok (.getfield 179, 3) := by decide +kernel
theorem dX16_digest_300 : decode cX16_digest 300 = .ok (.iload 4, 2) := by decide +kernel
theorem dX16_digest_302 : decode cX16_digest 302 = .ok (.iaload, 1) := by decide +kernel
theorem dX16_digest_303 : decode cX16_digest 303 = .ok (.i2l, 1) := by decide +kernel
theorem dX16_digest_304 : decode cX16_digest 304 = .ok (.ladd, 1) := by decide +kernel
theorem dX16_digest_305 : decode cX16_digest 305 = .ok (.lstore_n 1, 1) := by decide +kernel
theorem dX16_digest_306 : decode cX16_digest 306 = .ok (.iinc 5 1, 3) := by decide +kernel
theorem dX16_digest_309 : decode cX16_digest 309 = .ok (.goto (-45), 3) := by decide +kernel
theorem dX16_digest_312 : decode cX16_digest 312 = .ok (.iinc 4 1, 3) := by decide +kernel
theorem dX16_digest_315 : decode cX16_digest 315 = .ok (.goto (-132), 3) := by decide +kernel
theorem dX16_digest_318 : decode cX16_digest 318 = .ok (.iconst 0, 1) := by decide +kernel
theorem dX16_digest_319 : decode cX16_digest 319 = .ok (.istore 4, 2) := by decide +kernel
theorem dX16_digest_321 : decode cX16_digest 321 = .ok (.iload 4, 2) := by decide +kernel
theorem dX16_digest_323 : decode cX16_digest 323 = .ok (.aload_n 0, 1) := by decide +kernel
theorem dX16_digest_324 : decode cX16_digest 324 = .ok (.getfield 29, 3) := by decide +kernel
theorem dX16_digest_327 : decode cX16_digest 327 = .ok (.invokeinterface 73 1, 5) := by decide +kernel
theorem dX16_digest_332 : decode cX16_digest 332 = .ok (.if_icmp .ge 40, 3) := by decide +kernel
theorem dX16_digest_335 : decode cX16_digest 335 = .ok (.iconst 0, 1) := by decide +kernel
theorem dX16_digest_336 : decode cX16_digest 336 = .ok (.istore 5, 2) := by decide +kernel
theorem dX16_digest_338 : decode cX16_digest 338 = .ok (.iload 5, 2) := by decide +kernel
theorem dX16_digest_340 : decode cX16_digest 340 = .ok (.iconst 4, 1) := by decide +kernel
theorem dX16_digest_341 : decode cX16_digest 341 = .ok (.if_icmp .gt 25, 3) := by decide +kernel
theorem dX16_digest_344 : decode cX16_digest 344 = .ok (.lload_n 1, 1) := by decide +kernel
theorem dX16_digest_345 : decode cX16_digest 345 = .ok (.ldc2_w 378, 3) := by decide +kernel
theorem dX16_digest_348 : decode cX16_digest 348 = .ok (.lmul, 1) := by decide +kernel
theorem dX16_digest_349 : decode cX16_digest 349 = .ok (.aload_n 0, 1) := by decide +kernel
theorem dX16_digest_350 : decode cX16_digest 350 = .ok (.iload 4, 2) := by decide +kernel
theorem dX16_digest_352 : decode cX16_digest 352 = .ok (.iload 5, 2) := by decide +kernel
theorem dX16_digest_354 : decode cX16_digest 354 = .ok (.invokevirtual 293, 3) := by decide +kernel
theorem dX16_digest_357 : decode cX16_digest 357 = .ok (.i2l, 1) := by decide +kernel
theorem dX16_digest_358 : decode cX16_digest 358 = .ok (.ladd, 1) := by decide +kernel
theorem dX16_digest_359 : decode cX16_digest 359 = .ok (.lstore_n 1, 1) := by decide +kernel
theorem dX16_digest_360 : decode cX16_digest 360 = .ok (.iinc 5 1, 3) := by decide +kernel
theorem dX16_digest_363 : decode cX16_digest 363 = .ok (.goto (-25), 3) := by decide +kernel
theorem dX16_digest_366 : decode cX16_digest 366 = .ok (.iinc 4 1, 3) := by decide +kernel
theorem dX16_digest_369 : decode cX16_digest 369 = .ok (.goto (-48), 3) := by decide +kernel
theorem dX16_digest_372 : decode cX16_digest 372 = .ok (.iconst 0, 1) := by decide +kernel
theorem dX16_digest_373 : decode cX16_digest 373 = .ok (.istore 4, 2) := by decide +kernel
theorem dX16_digest_375 : decode cX16_digest 375 = .ok (.iload 4, 2) := by decide +kernel
theorem dX16_digest_377 : decode cX16_digest 377 = .ok (.bipush 6, 2) := by decide +kernel
theorem dX16_digest_379 : decode cX16_digest 379 = .ok (.if_icmp .ge 41, 3) := by decide +kernel
theorem dX16_digest_382 : decode cX16_digest 382 = .ok (.lload_n 1, 1) := by decide +kernel
theorem dX16_digest_383 : decode cX16_digest 383 = .ok (.ldc2_w 378, 3) := by decide +kernel
theorem dX16_digest_386 : decode cX16_digest 386 = .ok (.lmul, 1) := by decide +kernel
theorem dX16_digest_387 : decode cX16_digest 387 = .ok (.aload_n 0, 1) := by decide +kernel
theorem dX16_digest_388 : decode cX16_digest 388 = .ok (.iload 4, 2) := by decide +kernel
theorem dX16_digest_390 : decode cX16_digest 390 = .ok (.invokevirtual 300, 3) := by decide +kernel
theorem dX16_digest_393 : decode cX16_digest 393 = .ok (.i2l, 1) := by decide +kernel
theorem dX16_digest_394 : decode cX16_digest 394 = .ok (.ladd, 1) := by decide +kernel
theorem dX16_digest_395 : decode cX16_digest 395 = .ok (.lstore_n 1, 1) := by decide +kernel
theorem dX16_digest_396 : decode cX16_digest 396 = .ok (.lload_n 1, 1) := by decide +kernel
theorem dX16_digest_397 : decode cX16_digest 397 = .ok (.ldc2_w 378, 3) := by decide +kernel
theorem dX16_digest_400 : decode cX16_digest 400 = .ok (.lmul, 1) := by decide +kernel
theorem dX16_digest_401 : decode cX16_digest 401 = .ok (.ldc2_w 380, 3) := by decide +kernel
theorem dX16_digest_404 : decode cX16_digest 404 = .ok (.aload_n 0, 1) := by decide +kernel
theorem dX16_digest_405 : decode cX16_digest 405 = .ok (.iload 4, 2) := by decide +kernel
theorem dX16_digest_407 : decode cX16_digest 407 = .ok (.invokevirtual 306, 3) := by decide +kernel
theorem dX16_digest_410 : decode cX16_digest 410 = .ok (.dmul, 1) := by decide +kernel
theorem dX16_digest_411 : decode cX16_digest 411 = .ok (.d2l, 1) := by decide +kernel
theorem dX16_digest_412 : decode cX16_digest 412 = .ok (.ladd, 1) := by decide +kernel
theorem dX16_digest_413 : decode cX16_digest 413 = .ok (.lstore_n 1, 1) := by decide +kernel
theorem dX16_digest_414 : decode cX16_digest 414 = .ok (.iinc 4 1, 3) := by decide +kernel
theorem dX16_digest_417 : decode cX16_digest 417 = .ok (.goto (-42), 3) := by decide +kernel
theorem dX16_digest_420 : decode cX16_digest 420 = .ok (.iconst 0, 1) := by decide +kernel
theorem dX16_digest_421 : decode cX16_digest 421 = .ok (.istore 4, 2) := by decide +kernel
theorem dX16_digest_423 : decode cX16_digest 423 = .ok (.iload 4, 2) := by decide +kernel
theorem dX16_digest_425 : decode cX16_digest 425 = .ok (.bipush 16, 2) := by decide +kernel
theorem dX16_digest_427 : decode cX16_digest 427 = .ok (.if_icmp .ge 23, 3) := by decide +kernel
theorem dX16_digest_430 : decode cX16_digest 430 = .ok (.lload_n 1, 1) := by decide +kernel
theorem dX16_digest_431 : decode cX16_digest 431 = .ok (.ldc2_w 378, 3) := by decide +kernel
theorem dX16_digest_434 : decode cX16_digest 434 = .ok (.lmul, 1) := by decide +kernel
theorem dX16_digest_435 : decode cX16_digest 435 = .ok (.aload_n 0, 1) := by decide +kernel
theorem dX16_digest_436 : decode cX16_digest 436 = .ok (.iload 4, 2) := by decide +kernel
theorem dX16_digest_438 : decode cX16_digest 438 = .ok (.invokevirtual 303, 3) := by decide +kernel
theorem dX16_digest_441 : decode cX16_digest 441 = .ok (.i2l, 1) := by decide +kernel
theorem dX16_digest_442 : decode cX16_digest 442 = .ok (.ladd, 1) := by decide +kernel
theorem dX16_digest_443 : decode cX16_digest 443 = .ok (.lstore_n 1, 1) := by decide +kernel
theorem dX16_digest_444 : decode cX16_digest 444 = .ok (.iinc 4 1, 3) := by decide +kernel
theorem dX16_digest_447 : decode cX16_digest 447 = .ok (.goto (-24), 3) := by decide +kernel
theorem dX16_digest_450 : decode cX16_digest 450 = .ok (.lload_n 1, 1) := by decide +kernel
theorem dX16_digest_451 : decode cX16_digest 451 = .ok (.ldc2_w 378, 3) := by decide +kernel
theorem dX16_digest_454 : decode cX16_digest 454 = .ok (.lmul, 1) := by decide +kernel
theorem dX16_digest_455 : decode cX16_digest 455 = .ok (.aload_n 3, 1) := by decide +kernel
theorem dX16_digest_456 : decode cX16_digest 456 = .ok (.iconst 0, 1) := by decide +kernel
theorem dX16_digest_457 : decode cX16_digest 457 = .ok (.iaload, 1) := by decide +kernel
theorem dX16_digest_458 : decode cX16_digest 458 = .ok (.i2l, 1) := by decide +kernel
theorem dX16_digest_459 : decode cX16_digest 459 = .ok (.ladd, 1) := by decide +kernel
theorem dX16_digest_460 : decode cX16_digest 460 = .ok (.lstore_n 1, 1) := by decide +kernel
theorem dX16_digest_461 : decode cX16_digest 461 = .ok (.lload_n 1, 1) := by decide +kernel
theorem dX16_digest_462 : decode cX16_digest 462 = .ok (.ldc2_w 378, 3) := by decide +kernel
theorem dX16_digest_465 : decode cX16_digest 465 = .ok (.lmul, 1) := by decide +kernel
theorem dX16_digest_466 : decode cX16_digest 466 = .ok (.aload_n 0, 1) := by decide +kernel
theorem dX16_digest_467 : decode cX16_digest 467 = .ok (.invokevirtual 370, 3) := by decide +kernel
theorem dX16_digest_470 : decode cX16_digest 470 = .ok (.i2l, 1) := by decide +kernel
theorem dX16_digest_471 : decode cX16_digest 471 = .ok (.ladd, 1) := by decide +kernel
theorem dX16_digest_472 : decode cX16_digest 472 = .ok (.lstore_n 1, 1) := by decide +kernel
theorem dX16_digest_473 : decode cX16_digest 473 = .ok (.lload_n 1, 1) := by decide +kernel
theorem dX16_digest_474 : decode cX16_digest 474 = .ok (.ldc2_w 378, 3) := by decide +kernel
theorem dX16_digest_477 : decode cX16_digest 477 = .ok (.lmul, 1) := by decide +kernel
theorem dX16_digest_478 : decode cX16_digest 478 = .ok (.aload_n 0, 1) := by decide +kernel
theorem dX16_digest_479 : decode cX16_digest 479 = .ok (.invokevirtual 373, 3) := by decide +kernel
theorem dX16_digest_482 : decode cX16_digest 482 = .ok (.ifCond .eq 7, 3) := by decide +kernel
theorem dX16_digest_485 : decode cX16_digest 485 = .ok (.iconst 1, 1) := by decide +kernel
theorem dX16_digest_486 : decode cX16_digest 486 = .ok (.goto 4, 3) := by decide +kernel
theorem dX16_digest_489 : decode cX16_digest 489 = .ok (.iconst 0, 1) := by decide +kernel
theorem dX16_digest_490 : decode cX16_digest 490 = .ok (.i2l, 1) := by decide +kernel
theorem dX16_digest_491 : decode cX16_digest 491 = .ok (.ladd, 1) := by decide +kernel
theorem dX16_digest_492 : decode cX16_digest 492 = .ok (.lreturn, 1) := by decide +kernel
abbrev rm_m_X16_digest : Room := { frames := 7, cells := 945, slots := 9756, locals := 166 }
set_option maxHeartbeats 4000000 in
set_option maxRecDepth 100000 in
theorem m_X16_digest {s0 : State} {l : Launch} {D : va_G} {cy : Nat → ClassId} (G : Gl s0 l D cy) (S : HS) (ea ns nj nm nt nr nq : Nat) (h : RI ea S ns nj nm nt nr nq) (hea : ea = eaOf s0) (hQ : QI s0 S nq nt) (hZr : Zr S) (A : HS) (g0 : Nat) (hF : RF s0 S A nq nt) (hg : mI S 257 0 = nI g0) : Ctr s0 l D cy yX16_digest cX16_digest 6 (some .long) rm_m_X16_digest S [.ref (gG S 16 0)] (PRl s0 S (ns, nj, nm, nr, nt, g0, A)) := by
  refine pro "CavershamShiftModel" G rfl rfl (Nat.le_of_ble_eq_true rfl) (fun p e s m below meth c ls X w hnm hl => ?_)
  have hx := X.1
  have hb := X.2.1
  have hown := X.2.2.2.1
  have hts := X.2.2.2.2.1
  have hl : lv_has ls 6 [(0, .ref (gG S 16 0))] := hl
  have h0 := h
  have hK : Kq hvTm hiTm hrTm S S := Kq.rf
  have hE : RE S A := hF.re
  have hbs := h.b_st
  have hbm := h.b_mo
  have hbt := h.b_ta
  have hbr := h.b_re
  refine lv_aload_n hx hb dX16_digest_0 rfl (lv_at hl 0 rfl) ?_
  refine lv_iconst (v := 0) hx hb dX16_digest_1 (by decide) ?_
  refine p_16_0 (S := S) (x := 0) X w h.v wF_X16_43 dX16_digest_2 (fun H locs w => ?_)
  have h : RI ea (sI S 256 0 0) ns nj nm nt nr nq := h.stI (by decide)
  have hK : Kq hvTm hiTm hrTm S (sI S 256 0 0) := hK.sI rfl
  refine lv_ldc2 hx hb hown (hts _ wK_X16_376) dX16_digest_5 ?_
  refine lv_lstore_n (lv' := [(1, .long 58269), (0, .ref (gG S 16 0))]) hx hb dX16_digest_8 rfl hl (by decide) rfl (fun ls hl => ?_)
  refine lv_iconst (v := 0) hx hb dX16_digest_9 (by decide) ?_
  refine lv_istore_n (lv' := [(3, .int 0), (1, .long 58269), (0, .ref (gG S 16 0))]) hx hb dX16_digest_10 rfl hl (by decide) rfl (fun ls hl => ?_)
  have L11 : ∀ (N : Nat) (kA : Nat) (v11_1 : Int64) (H : Heap) (locs : List Loc) (ls : Array Slot), 19 - kA < N → (kA ≤ 19) → Wd s0 D cy (sI S 256 0 0) s.heap H locs → lv_has ls 6 [(3, .int (nI kA)), (1, .long v11_1), (0, .ref (gG S 16 0))] → W p l e rm_m_X16_digest s m ([.ref (gG S 16 0)] : List Value).toArray below meth c H locs (2 * kA) (24 * kA) (MQ below (GQ s0 D cy (PRl s0 S (ns, nj, nm, nr, nt, g0, A))) ([.ref (gG S 16 0)] : List Value).toArray s rm_m_X16_digest.cells rm_m_X16_digest.slots (A0 s0)) (F0 m 11 ls []) := by
    intro N
    induction N with
    | zero => intros; omega
    | succ N ih11 =>
      intro kA v11_1 H locs ls hmu hk_kA w hl
      refine lv_iload_n hx hb dX16_digest_11 rfl (lv_at hl 0 rfl) ?_
      refine lv_bipush (v := 18) hx hb dX16_digest_12 (by decide) ?_
      refine lv_icmp_gt (tgt := 36) hx hb dX16_digest_14 (by decide) (fun hc_kA => ?_) (fun hc_kA => ?_)
      · have hge_kA : 19 ≤ kA := (nI_ltI (a := 18) (b := kA) (by decide) (by omega)).mp hc_kA
        refine W.widen (k := 38) (n := 456) (show 2 * kA ≤ 38 by omega) (show 24 * kA ≤ 456 by omega) ?_
        refine lv_iconst (v := 0) hx hb dX16_digest_36 (by decide) ?_
        refine lv_istore_n (lv' := [(3, .int 0), (1, .long v11_1), (0, .ref (gG S 16 0))]) hx hb dX16_digest_37 rfl hl (by decide) rfl (fun ls hl => ?_)
        have L38 : ∀ (N : Nat) (kB : Nat) (v38_1 : Int64) (H : Heap) (locs : List Loc) (ls : Array Slot), ns - kB < N → (kB ≤ ns) → Wd s0 D cy (sI S 256 0 0) s.heap H locs → lv_has ls 6 [(3, .int (nI kB)), (1, .long v38_1), (0, .ref (gG S 16 0))] → W p l e rm_m_X16_digest s m ([.ref (gG S 16 0)] : List Value).toArray below meth c H locs (38 + 9 * kB) (456 + 81 * kB) (MQ below (GQ s0 D cy (PRl s0 S (ns, nj, nm, nr, nt, g0, A))) ([.ref (gG S 16 0)] : List Value).toArray s rm_m_X16_digest.cells rm_m_X16_digest.slots (A0 s0)) (F0 m 38 ls []) := by
          intro N
          induction N with
          | zero => intros; omega
          | succ N ih38 =>
            intro kB v38_1 H locs ls hmu hk_kB w hl
            refine lv_iload_n hx hb dX16_digest_38 rfl (lv_at hl 0 rfl) ?_
            refine lv_aload_n hx hb dX16_digest_39 rfl (lv_at hl 2 rfl) ?_
            refine g_16_6 (S := (sI S 256 0 0)) (x := (some (gG (sI S 256 0 0) 17 6))) X w h.v wF_X16_16 (h.f_st) dX16_digest_40 ?_
            refine cF (S := (sI S 256 0 0)) (t := 17) (nA := 0) (As := []) (rest := [.int (nI kB)]) X w hl h.l_st.1 (m_size G (sI S 256 0 0) ea 6 ns h.l_st) wY_Jx4a65c_size_8abf5 wM_X16_73 wIn_Jx4a65c_size_8abf5 wSe_Jx4a65c_Jx4a65c_size_8abf5_of_java_util_List_size___I wI_Jx4a65c fw_size (by decide) rfl (by decide +kernel) rfl rfl dX16_digest_43 ⟨by decide, by decide⟩ (Nat.le_of_ble_eq_true rfl) (⟨(show 38 + 9 * kB + 0 ≤ 945 by omega), (show 456 + 81 * kB + 0 ≤ 9756 by omega)⟩) (fun v1 S1 H locs hp w => ?_)
            obtain ⟨rfl, rfl⟩ := hp
            refine lv_icmp_ge (tgt := 88) hx hb dX16_digest_48 (by decide) (fun hc_kB => ?_) (fun hc_kB => ?_)
            · have hge_kB : ns ≤ kB := by
                skip
                exact (nI_leI (a := ns) (b := kB) (by omega) (by omega)).mp hc_kB
              refine W.widen (k := 110) (n := 1104) (show 38 + 9 * kB ≤ 110 by omega) (show 456 + 81 * kB ≤ 1104 by omega) ?_
              refine lv_iconst (v := 0) hx hb dX16_digest_88 (by decide) ?_
              refine lv_istore_n (lv' := [(3, .int 0), (1, .long v38_1), (0, .ref (gG S 16 0))]) hx hb dX16_digest_89 rfl hl (by decide) rfl (fun ls hl => ?_)
              have L90 : ∀ (N : Nat) (kD : Nat) (v90_1 : Int64) (H : Heap) (locs : List Loc) (ls : Array Slot), nm - kD < N → (kD ≤ nm) → Wd s0 D cy (sI S 256 0 0) s.heap H locs → lv_has ls 6 [(3, .int (nI kD)), (1, .long v90_1), (0, .ref (gG S 16 0))] → W p l e rm_m_X16_digest s m ([.ref (gG S 16 0)] : List Value).toArray below meth c H locs (110) (1104) (MQ below (GQ s0 D cy (PRl s0 S (ns, nj, nm, nr, nt, g0, A))) ([.ref (gG S 16 0)] : List Value).toArray s rm_m_X16_digest.cells rm_m_X16_digest.slots (A0 s0)) (F0 m 90 ls []) := by
                intro N
                induction N with
                | zero => intros; omega
                | succ N ih90 =>
                  intro kD v90_1 H locs ls hmu hk_kD w hl
                  refine lv_iload_n hx hb dX16_digest_90 rfl (lv_at hl 0 rfl) ?_
                  refine lv_aload_n hx hb dX16_digest_91 rfl (lv_at hl 2 rfl) ?_
                  refine g_16_8 (S := (sI S 256 0 0)) (x := (some (gG (sI S 256 0 0) 17 8))) X w h.v wF_X16_23 (h.f_mo) dX16_digest_92 ?_
                  refine cF (S := (sI S 256 0 0)) (t := 17) (nA := 0) (As := []) (rest := [.int (nI kD)]) X w hl h.l_mo.1 (m_size G (sI S 256 0 0) ea 8 nm h.l_mo) wY_Jx4a65c_size_8abf5 wM_X16_73 wIn_Jx4a65c_size_8abf5 wSe_Jx4a65c_Jx4a65c_size_8abf5_of_java_util_List_size___I wI_Jx4a65c fw_size (by decide) rfl (by decide +kernel) rfl rfl dX16_digest_95 ⟨by decide, by decide⟩ (Nat.le_of_ble_eq_true rfl) (⟨(show 110 + 0 ≤ 945 by omega), (show 1104 + 0 ≤ 9756 by omega)⟩) (fun v2 S1 H locs hp w => ?_)
                  obtain ⟨rfl, rfl⟩ := hp
                  refine lv_icmp_ge (tgt := 140) hx hb dX16_digest_100 (by decide) (fun hc_kD => ?_) (fun hc_kD => ?_)
                  · have hge_kD : nm ≤ kD := by
                      skip
                      exact (nI_leI (a := nm) (b := kD) (by omega) (by omega)).mp hc_kD
                    refine lv_aload_n hx hb dX16_digest_140 rfl (lv_at hl 2 rfl) ?_
                    refine lv_aload_n hx hb dX16_digest_141 rfl (lv_at hl 2 rfl) ?_
                    refine g_16_1 (S := (sI S 256 0 0)) (x := (mI (sI S 256 0 0) 257 0)) X w h.v wF_X16_125 (rfl) dX16_digest_142 ?_
                    refine lv_bipush (v := 24) hx hb dX16_digest_145 (by decide) ?_
                    refine lv_irem hx hb dX16_digest_147 (by decide) ?_
                    refine cV (S := (sI S 256 0 0)) (nA := 1) (As := [.int ((mI (sI S 256 0 0) 257 0) - (mI (sI S 256 0 0) 257 0) / 24 * 24)]) (rest := []) X w hl h.v (m_X16_bestNow G (sI S 256 0 0) ea ns nj nm nt nr nq h ((mI (sI S 256 0 0) 257 0) - (mI (sI S 256 0 0) 257 0) / 24 * 24) (hZr.tmp LB (by decide))) wY_X16_bestNow wM_X16_363 wIn_X16_bestNow wSe_X16_X16_bestNow wI_X16 (by decide) rfl (by decide +kernel) rfl rfl dX16_digest_148 ⟨by decide, by decide⟩ (Nat.le_of_ble_eq_true rfl) (⟨(show 110 + 2 ≤ 945 by omega), (show 1104 + 48 ≤ 9756 by omega)⟩) (fun v4 U3 H locs hp w => ?_)
                    obtain ⟨rfl, hU9, hkB, v39_1, n39_1, -⟩ := hp
                    have hS1 := h
                    have hK1 := hK
                    have h := hU9
                    have hK_U3 : Kq hvTm hiTm hrTm S U3 := hK.tr (kBT hkB)
                    have hK := hK_U3
                    have hT0 : ¬ vV U3 39 0 := by rw [show vV U3 39 0 = vV (sI S 256 0 0) 39 0 from hkB.V rfl]; exact (hZr.2 0).1
                    have hT03 : ∀ x ∈ [((39 : Nat), (0 : Nat)), (39, 3)], ¬ vV U3 x.1 x.2 := fun x hx => by rw [show vV U3 x.1 x.2 = vV (sI S 256 0 0) x.1 x.2 from hkB.V (by simp at hx; first | (rcases hx with rfl | rfl <;> rfl) | (subst hx; rfl))]; exact hZr.tmp _ (by decide) x hx
                    have hT40 : ∀ x ∈ [((40 : Nat), (0 : Nat))], ¬ vV U3 x.1 x.2 := fun x hx => by rw [show vV U3 x.1 x.2 = vV (sI S 256 0 0) x.1 x.2 from hkB.V (by simp at hx; first | (rcases hx with rfl | rfl <;> rfl) | (subst hx; rfl))]; exact hZr.tmp _ (by decide) x hx
                    refine lv_astore_n (lv' := [(3, .ref (gG U3 39 1)), (1, .long v90_1), (0, .ref (gG S 16 0))]) hx hb dX16_digest_151 rfl hl (by decide) rfl (fun ls hl => ?_)
                    refine lv_iconst (v := 1) hx hb dX16_digest_152 (by decide) ?_
                    refine lv_istore (lv' := [(4, .int 1), (3, .ref (gG U3 39 1)), (1, .long v90_1), (0, .ref (gG S 16 0))]) hx hb dX16_digest_153 hl (by decide) rfl (fun ls hl => ?_)
                    have L155 : ∀ (N : Nat) (kF : Nat) (v155_1 : Int64) (H : Heap) (locs : List Loc) (ls : Array Slot), 7 - kF < N → (kF ≤ 7) → Wd s0 D cy U3 s.heap H locs → lv_has ls 6 [(4, .int (nI kF)), (3, .ref (gG U3 39 1)), (1, .long v155_1), (0, .ref (gG S 16 0))] → W p l e rm_m_X16_digest s m ([.ref (gG S 16 0)] : List Value).toArray below meth c H locs (110 + 2) (1104 + 48) (MQ below (GQ s0 D cy (PRl s0 S (ns, nj, nm, nr, nt, g0, A))) ([.ref (gG S 16 0)] : List Value).toArray s rm_m_X16_digest.cells rm_m_X16_digest.slots (A0 s0)) (F0 m 155 ls []) := by
                      intro N
                      induction N with
                      | zero => intros; omega
                      | succ N ih155 =>
                        intro kF v155_1 H locs ls hmu hk_kF w hl
                        refine lv_iload hx hb dX16_digest_155 (lv_at hl 0 rfl) ?_
                        refine lv_bipush (v := 6) hx hb dX16_digest_157 (by decide) ?_
                        refine lv_icmp_gt (tgt := 180) hx hb dX16_digest_159 (by decide) (fun hc_kF => ?_) (fun hc_kF => ?_)
                        · have hge_kF : 7 ≤ kF := (nI_ltI (a := 6) (b := kF) (by decide) (by omega)).mp hc_kF
                          refine W.widen (k := 112) (n := 1152) (show 110 + 2 ≤ 112 by omega) (show 1104 + 48 ≤ 1152 by omega) ?_
                          refine lv_iconst (v := 0) hx hb dX16_digest_180 (by decide) ?_
                          refine lv_istore (lv' := [(4, .int 0), (3, .ref (gG U3 39 1)), (1, .long v155_1), (0, .ref (gG S 16 0))]) hx hb dX16_digest_181 hl (by decide) rfl (fun ls hl => ?_)
                          have L183 : ∀ (N : Nat) (kT : Nat) (v183_1 : Int64) (H : Heap) (locs : List Loc) (ls : Array Slot), nt - kT < N → (kT ≤ nt) → Wd s0 D cy U3 s.heap H locs → lv_has ls 6 [(4, .int (nI kT)), (3, .ref (gG U3 39 1)), (1, .long v183_1), (0, .ref (gG S 16 0))] → W p l e rm_m_X16_digest s m ([.ref (gG S 16 0)] : List Value).toArray below meth c H locs (112 + 20 * kT) (1152 + 208 * kT) (MQ below (GQ s0 D cy (PRl s0 S (ns, nj, nm, nr, nt, g0, A))) ([.ref (gG S 16 0)] : List Value).toArray s rm_m_X16_digest.cells rm_m_X16_digest.slots (A0 s0)) (F0 m 183 ls []) := by
                            intro N
                            induction N with
                            | zero => intros; omega
                            | succ N ih183 =>
                              intro kT v183_1 H locs ls hmu hk_kT w hl
                              refine lv_iload hx hb dX16_digest_183 (lv_at hl 0 rfl) ?_
                              refine lv_aload_n hx hb dX16_digest_185 rfl (lv_at hl 3 rfl) ?_
                              refine rE0 ((rfl).trans ((hK_U3.G (t := 16) (i := 0) rfl)).symm) ?_
                              refine g_16_9 (S := U3) (x := (some (gG U3 17 9))) X w h.v wF_X16_26 (h.f_ta) dX16_digest_186 ?_
                              refine cF (S := U3) (t := 17) (nA := 0) (As := []) (rest := [.int (nI kT)]) X w hl h.l_ta.1 (m_size G U3 ea 9 nt h.l_ta) wY_Jx4a65c_size_8abf5 wM_X16_73 wIn_Jx4a65c_size_8abf5 wSe_Jx4a65c_Jx4a65c_size_8abf5_of_java_util_List_size___I wI_Jx4a65c fw_size (by decide) rfl (by decide +kernel) rfl rfl dX16_digest_189 ⟨by decide, by decide⟩ (Nat.le_of_ble_eq_true rfl) (⟨(show 112 + 20 * kT + 0 ≤ 945 by omega), (show 1152 + 208 * kT + 0 ≤ 9756 by omega)⟩) (fun v5 S1 H locs hp w => ?_)
                              obtain ⟨rfl, rfl⟩ := hp
                              refine lv_icmp_ge (tgt := 318) hx hb dX16_digest_194 (by decide) (fun hc_kT => ?_) (fun hc_kT => ?_)
                              · have hge_kT : nt ≤ kT := by
                                  skip
                                  exact (nI_leI (a := nt) (b := kT) (by omega) (by omega)).mp hc_kT
                                refine W.widen (k := 912) (n := 9472) (show 112 + 20 * kT ≤ 912 by omega) (show 1152 + 208 * kT ≤ 9472 by omega) ?_
                                refine lv_iconst (v := 0) hx hb dX16_digest_318 (by decide) ?_
                                refine lv_istore (lv' := [(4, .int 0), (3, .ref (gG U3 39 1)), (1, .long v183_1), (0, .ref (gG S 16 0))]) hx hb dX16_digest_319 hl (by decide) rfl (fun ls hl => ?_)
                                have L321 : ∀ (N : Nat) (kR : Nat) (v321_1 : Int64) (H : Heap) (locs : List Loc) (ls : Array Slot), nr - kR < N → (kR ≤ nr) → Wd s0 D cy U3 s.heap H locs → lv_has ls 6 [(4, .int (nI kR)), (3, .ref (gG U3 39 1)), (1, .long v321_1), (0, .ref (gG S 16 0))] → W p l e rm_m_X16_digest s m ([.ref (gG S 16 0)] : List Value).toArray below meth c H locs (912 + 5 * kR) (9472 + 25 * kR) (MQ below (GQ s0 D cy (PRl s0 S (ns, nj, nm, nr, nt, g0, A))) ([.ref (gG S 16 0)] : List Value).toArray s rm_m_X16_digest.cells rm_m_X16_digest.slots (A0 s0)) (F0 m 321 ls []) := by
                                  intro N
                                  induction N with
                                  | zero => intros; omega
                                  | succ N ih321 =>
                                    intro kR v321_1 H locs ls hmu hk_kR w hl
                                    refine lv_iload hx hb dX16_digest_321 (lv_at hl 0 rfl) ?_
                                    refine lv_aload_n hx hb dX16_digest_323 rfl (lv_at hl 3 rfl) ?_
                                    refine rE0 ((rfl).trans ((hK_U3.G (t := 16) (i := 0) rfl)).symm) ?_
                                    refine g_16_10 (S := U3) (x := (some (gG U3 17 10))) X w h.v wF_X16_29 (h.f_re) dX16_digest_324 ?_
                                    refine cF (S := U3) (t := 17) (nA := 0) (As := []) (rest := [.int (nI kR)]) X w hl h.l_re.1 (m_size G U3 ea 10 nr h.l_re) wY_Jx4a65c_size_8abf5 wM_X16_73 wIn_Jx4a65c_size_8abf5 wSe_Jx4a65c_Jx4a65c_size_8abf5_of_java_util_List_size___I wI_Jx4a65c fw_size (by decide) rfl (by decide +kernel) rfl rfl dX16_digest_327 ⟨by decide, by decide⟩ (Nat.le_of_ble_eq_true rfl) (⟨(show 912 + 5 * kR + 0 ≤ 945 by omega), (show 9472 + 25 * kR + 0 ≤ 9756 by omega)⟩) (fun v6 S1 H locs hp w => ?_)
                                    obtain ⟨rfl, rfl⟩ := hp
                                    refine lv_icmp_ge (tgt := 372) hx hb dX16_digest_332 (by decide) (fun hc_kR => ?_) (fun hc_kR => ?_)
                                    · have hge_kR : nr ≤ kR := by
                                        skip
                                        exact (nI_leI (a := nr) (b := kR) (by omega) (by omega)).mp hc_kR
                                      refine W.widen (k := 932) (n := 9572) (show 912 + 5 * kR ≤ 932 by omega) (show 9472 + 25 * kR ≤ 9572 by omega) ?_
                                      refine lv_iconst (v := 0) hx hb dX16_digest_372 (by decide) ?_
                                      refine lv_istore (lv' := [(4, .int 0), (3, .ref (gG U3 39 1)), (1, .long v321_1), (0, .ref (gG S 16 0))]) hx hb dX16_digest_373 hl (by decide) rfl (fun ls hl => ?_)
                                      have L375 : ∀ (N : Nat) (kX : Nat) (v375_1 : Int64) (H : Heap) (locs : List Loc) (ls : Array Slot), 6 - kX < N → (kX ≤ 6) → Wd s0 D cy U3 s.heap H locs → lv_has ls 6 [(4, .int (nI kX)), (3, .ref (gG U3 39 1)), (1, .long v375_1), (0, .ref (gG S 16 0))] → W p l e rm_m_X16_digest s m ([.ref (gG S 16 0)] : List Value).toArray below meth c H locs (932) (9572) (MQ below (GQ s0 D cy (PRl s0 S (ns, nj, nm, nr, nt, g0, A))) ([.ref (gG S 16 0)] : List Value).toArray s rm_m_X16_digest.cells rm_m_X16_digest.slots (A0 s0)) (F0 m 375 ls []) := by
                                        intro N
                                        induction N with
                                        | zero => intros; omega
                                        | succ N ih375 =>
                                          intro kX v375_1 H locs ls hmu hk_kX w hl
                                          refine lv_iload hx hb dX16_digest_375 (lv_at hl 0 rfl) ?_
                                          refine lv_bipush (v := 6) hx hb dX16_digest_377 (by decide) ?_
                                          refine lv_icmp_ge (tgt := 420) hx hb dX16_digest_379 (by decide) (fun hc_kX => ?_) (fun hc_kX => ?_)
                                          · have hge_kX : 6 ≤ kX := by
                                              skip
                                              exact (nI_leI (a := 6) (b := kX) (by omega) (by omega)).mp hc_kX
                                            refine lv_iconst (v := 0) hx hb dX16_digest_420 (by decide) ?_
                                            refine lv_istore (lv' := [(4, .int 0), (3, .ref (gG U3 39 1)), (1, .long v375_1), (0, .ref (gG S 16 0))]) hx hb dX16_digest_421 hl (by decide) rfl (fun ls hl => ?_)
                                            have L423 : ∀ (N : Nat) (kY : Nat) (v423_1 : Int64) (H : Heap) (locs : List Loc) (ls : Array Slot), 16 - kY < N → (kY ≤ 16) → Wd s0 D cy U3 s.heap H locs → lv_has ls 6 [(4, .int (nI kY)), (3, .ref (gG U3 39 1)), (1, .long v423_1), (0, .ref (gG S 16 0))] → W p l e rm_m_X16_digest s m ([.ref (gG S 16 0)] : List Value).toArray below meth c H locs (932) (9572) (MQ below (GQ s0 D cy (PRl s0 S (ns, nj, nm, nr, nt, g0, A))) ([.ref (gG S 16 0)] : List Value).toArray s rm_m_X16_digest.cells rm_m_X16_digest.slots (A0 s0)) (F0 m 423 ls []) := by
                                              intro N
                                              induction N with
                                              | zero => intros; omega
                                              | succ N ih423 =>
                                                intro kY v423_1 H locs ls hmu hk_kY w hl
                                                refine lv_iload hx hb dX16_digest_423 (lv_at hl 0 rfl) ?_
                                                refine lv_bipush (v := 16) hx hb dX16_digest_425 (by decide) ?_
                                                refine lv_icmp_ge (tgt := 450) hx hb dX16_digest_427 (by decide) (fun hc_kY => ?_) (fun hc_kY => ?_)
                                                · have hge_kY : 16 ≤ kY := by
                                                    skip
                                                    exact (nI_leI (a := 16) (b := kY) (by omega) (by omega)).mp hc_kY
                                                  refine lv_lload_n hx hb dX16_digest_450 rfl (lv_at hl 2 rfl) ?_
                                                  refine lv_ldc2 hx hb hown (hts _ wK_X16_378) dX16_digest_451 ?_
                                                  refine lv_lmul hx hb dX16_digest_454 ?_
                                                  refine lv_aload_n hx hb dX16_digest_455 rfl (lv_at hl 1 rfl) ?_
                                                  refine lv_iconst (v := 0) hx hb dX16_digest_456 (by decide) ?_
                                                  refine aLdI (S := U3) (t := 39) (v := mA U3 39 1 (0 : Int32).toNatClampNeg) X w v39_1 (by decide) rfl rfl (by rw [n39_1]; unfold vp_in; decide) rfl dX16_digest_457 ?_
                                                  refine lv_topi (fun z7 ez7 => ?_)
                                                  refine lv_i2l hx hb dX16_digest_458 rfl ?_
                                                  refine lv_ladd hx hb dX16_digest_459 ?_
                                                  refine lv_lstore_n (lv' := [(1, .long ((v423_1 * 31) + z7.toInt64)), (4, .int (nI kY)), (3, .ref (gG U3 39 1)), (0, .ref (gG S 16 0))]) hx hb dX16_digest_460 rfl hl (by decide) rfl (fun ls hl => ?_)
                                                  refine lv_lload_n hx hb dX16_digest_461 rfl (lv_at hl 0 rfl) ?_
                                                  refine lv_ldc2 hx hb hown (hts _ wK_X16_378) dX16_digest_462 ?_
                                                  refine lv_lmul hx hb dX16_digest_465 ?_
                                                  refine lv_aload_n hx hb dX16_digest_466 rfl (lv_at hl 3 rfl) ?_
                                                  refine rE0 ((rfl).trans ((hK_U3.G (t := 16) (i := 0) rfl)).symm) ?_
                                                  refine cV (S := U3) (nA := 0) (As := []) (rest := [.long (((v423_1 * 31) + z7.toInt64) * 31)]) X w hl h.v (m_X16_wouldSendNow G U3 ea ns nj nm nt nr nq h (hT40)) wY_X16_wouldSendNow wM_X16_370 wIn_X16_wouldSendNow wSe_X16_X16_wouldSendNow wI_X16 (by decide) rfl (by decide +kernel) rfl rfl dX16_digest_467 ⟨by decide, by decide⟩ (Nat.le_of_ble_eq_true rfl) (⟨(show 932 + 1 ≤ 945 by omega), (show 9572 + 40 ≤ 9756 by omega)⟩) (fun v9 S1 H locs hp w => ?_)
                                                  obtain ⟨⟨x8, rfl⟩, rfl⟩ := hp
                                                  refine lv_i2l hx hb dX16_digest_470 rfl ?_
                                                  refine lv_ladd hx hb dX16_digest_471 ?_
                                                  refine lv_lstore_n (lv' := [(1, .long ((((v423_1 * 31) + z7.toInt64) * 31) + x8.toInt64)), (4, .int (nI kY)), (3, .ref (gG U3 39 1)), (0, .ref (gG S 16 0))]) hx hb dX16_digest_472 rfl hl (by decide) rfl (fun ls hl => ?_)
                                                  refine lv_lload_n hx hb dX16_digest_473 rfl (lv_at hl 0 rfl) ?_
                                                  refine lv_ldc2 hx hb hown (hts _ wK_X16_378) dX16_digest_474 ?_
                                                  refine lv_lmul hx hb dX16_digest_477 ?_
                                                  refine lv_aload_n hx hb dX16_digest_478 rfl (lv_at hl 3 rfl) ?_
                                                  refine rE0 ((rfl).trans ((hK_U3.G (t := 16) (i := 0) rfl)).symm) ?_
                                                  refine cV (S := U3) (nA := 0) (As := []) (rest := [.long (((((v423_1 * 31) + z7.toInt64) * 31) + x8.toInt64) * 31)]) X w hl h.v (m_X16_isSoundNow G U3 ea ns nj nm nt nr nq h (hT03)) wY_X16_isSoundNow wM_X16_373 wIn_X16_isSoundNow wSe_X16_X16_isSoundNow wI_X16 (by decide) rfl (by decide +kernel) rfl rfl dX16_digest_479 ⟨by decide, by decide⟩ (Nat.le_of_ble_eq_true rfl) (⟨(show 932 + 1 + 12 ≤ 945 by omega), (show 9572 + 40 + 144 ≤ 9756 by omega)⟩) (fun v11 S1 H locs hp w => ?_)
                                                  obtain ⟨⟨x10, rfl⟩, rfl⟩ := hp
                                                  refine lv_if_eq (tgt := 489) hx hb dX16_digest_482 (by decide) (fun hc12 => ?_) (fun hc12 => ?_)
                                                  · refine lv_iconst (v := 0) hx hb dX16_digest_489 (by decide) ?_
                                                    refine lv_i2l hx hb dX16_digest_490 rfl ?_
                                                    refine lv_ladd hx hb dX16_digest_491 ?_
                                                    have w := w.offT hkB (hZr.tmp LB (by decide))
                                                    have h := hS1
                                                    have hK := hK1
                                                    exact rL X w rfl dX16_digest_492 (Nat.le_of_ble_eq_true rfl) (Nat.le_of_ble_eq_true rfl) (⟨⟨_, rfl⟩, ⟨_, hea ▸ h, hQ, hZr, hF.keepT hK, (hK.I (f := 257) (i := 0) rfl).trans hg⟩, kTR hK⟩)
                                                  · refine lv_iconst (v := 1) hx hb dX16_digest_485 (by decide) ?_
                                                    refine lv_goto (tgt := 490) hx hb dX16_digest_486 (by decide) ?_
                                                    refine lv_i2l hx hb dX16_digest_490 rfl ?_
                                                    refine lv_ladd hx hb dX16_digest_491 ?_
                                                    have w := w.offT hkB (hZr.tmp LB (by decide))
                                                    have h := hS1
                                                    have hK := hK1
                                                    exact rL X w rfl dX16_digest_492 (Nat.le_of_ble_eq_true rfl) (Nat.le_of_ble_eq_true rfl) (⟨⟨_, rfl⟩, ⟨_, hea ▸ h, hQ, hZr, hF.keepT hK, (hK.I (f := 257) (i := 0) rfl).trans hg⟩, kTR hK⟩)
                                                · have hlt_kY : kY < 16 := by
                                                    skip
                                                    exact Nat.lt_of_not_le (fun z => hc_kY ((nI_leI (a := 16) (b := kY) (by omega) (by omega)).mpr z))
                                                  refine lv_lload_n hx hb dX16_digest_430 rfl (lv_at hl 2 rfl) ?_
                                                  refine lv_ldc2 hx hb hown (hts _ wK_X16_378) dX16_digest_431 ?_
                                                  refine lv_lmul hx hb dX16_digest_434 ?_
                                                  refine lv_aload_n hx hb dX16_digest_435 rfl (lv_at hl 3 rfl) ?_
                                                  refine lv_iload hx hb dX16_digest_436 (lv_at hl 0 rfl) ?_
                                                  refine rE1 ((rfl).trans ((hK_U3.G (t := 16) (i := 0) rfl)).symm) ?_
                                                  refine cV (S := U3) (nA := 1) (As := [.int (nI kY)]) (rest := [.long (v423_1 * 31)]) X w hl h.v (m_X16_firstNow G U3 ea ns nj nm nt nr nq h (nI kY)) wY_X16_firstNow wM_X16_303 wIn_X16_firstNow wSe_X16_X16_firstNow wI_X16 (by decide) rfl (by decide +kernel) rfl rfl dX16_digest_438 ⟨by decide, by decide⟩ (Nat.le_of_ble_eq_true rfl) (⟨(show 932 + 0 ≤ 945 by omega), (show 9572 + 0 ≤ 9756 by omega)⟩) (fun v13 S1 H locs hp w => ?_)
                                                  obtain ⟨rfl, rfl⟩ := hp
                                                  refine lv_i2l hx hb dX16_digest_441 rfl ?_
                                                  refine lv_ladd hx hb dX16_digest_442 ?_
                                                  refine lv_lstore_n (lv' := [(1, .long ((v423_1 * 31) + ((rFirst U3 (nI kY) nt).toInt64))), (4, .int (nI kY)), (3, .ref (gG U3 39 1)), (0, .ref (gG S 16 0))]) hx hb dX16_digest_443 rfl hl (by decide) rfl (fun ls hl => ?_)
                                                  refine lv_iinc (v := nI (kY + 1)) (lv' := [(4, .int (nI (kY + 1))), (1, .long ((v423_1 * 31) + ((rFirst U3 (nI kY) nt).toInt64))), (3, .ref (gG U3 39 1)), (0, .ref (gG S 16 0))]) hx hb dX16_digest_444 hl (k := 1) rfl (nI_1 _) (by decide) rfl (fun ls hl => ?_)
                                                  refine lv_goto (tgt := 423) hx hb dX16_digest_447 (by decide) ?_
                                                  exact ih423 (kY + 1) ((v423_1 * 31) + ((rFirst U3 (nI kY) nt).toInt64)) _ _ _ (by omega) (hlt_kY) w (lv_sub hl [0, 2, 1, 3] rfl)
                                            exact L423 _ 0 v375_1 _ _ _ (Nat.lt_succ_self _) (Nat.zero_le _) w (lv_sub hl [0, 1, 2, 3] rfl)
                                          · have hlt_kX : kX < 6 := by
                                              skip
                                              exact Nat.lt_of_not_le (fun z => hc_kX ((nI_leI (a := 6) (b := kX) (by omega) (by omega)).mpr z))
                                            refine lv_lload_n hx hb dX16_digest_382 rfl (lv_at hl 2 rfl) ?_
                                            refine lv_ldc2 hx hb hown (hts _ wK_X16_378) dX16_digest_383 ?_
                                            refine lv_lmul hx hb dX16_digest_386 ?_
                                            refine lv_aload_n hx hb dX16_digest_387 rfl (lv_at hl 3 rfl) ?_
                                            refine lv_iload hx hb dX16_digest_388 (lv_at hl 0 rfl) ?_
                                            refine rE1 ((rfl).trans ((hK_U3.G (t := 16) (i := 0) rfl)).symm) ?_
                                            refine cV (S := U3) (nA := 1) (As := [.int (nI kX)]) (rest := [.long (v375_1 * 31)]) X w hl h.v (m_X16_goneNow G U3 ea ns nj nm nt nr nq h (nI kX)) wY_X16_goneNow wM_X16_300 wIn_X16_goneNow wSe_X16_X16_goneNow wI_X16 (by decide) rfl (by decide +kernel) rfl rfl dX16_digest_390 ⟨by decide, by decide⟩ (Nat.le_of_ble_eq_true rfl) (⟨(show 932 + 0 ≤ 945 by omega), (show 9572 + 0 ≤ 9756 by omega)⟩) (fun v14 S1 H locs hp w => ?_)
                                            obtain ⟨rfl, rfl⟩ := hp
                                            refine lv_i2l hx hb dX16_digest_393 rfl ?_
                                            refine lv_ladd hx hb dX16_digest_394 ?_
                                            refine lv_lstore_n (lv' := [(1, .long ((v375_1 * 31) + ((rGone U3 nt (nI kX) 16).toInt64))), (4, .int (nI kX)), (3, .ref (gG U3 39 1)), (0, .ref (gG S 16 0))]) hx hb dX16_digest_395 rfl hl (by decide) rfl (fun ls hl => ?_)
                                            refine lv_lload_n hx hb dX16_digest_396 rfl (lv_at hl 0 rfl) ?_
                                            refine lv_ldc2 hx hb hown (hts _ wK_X16_378) dX16_digest_397 ?_
                                            refine lv_lmul hx hb dX16_digest_400 ?_
                                            refine lv_ldc2d hx hb hown (hts _ wK_X16_380) dX16_digest_401 ?_
                                            refine lv_aload_n hx hb dX16_digest_404 rfl (lv_at hl 3 rfl) ?_
                                            refine lv_iload hx hb dX16_digest_405 (lv_at hl 1 rfl) ?_
                                            refine rE1 ((rfl).trans ((hK_U3.G (t := 16) (i := 0) rfl)).symm) ?_
                                            refine cV (S := U3) (nA := 1) (As := [.int (nI kX)]) (rest := [.double 4634204016564240384, .long (((v375_1 * 31) + ((rGone U3 nt (nI kX) 16).toInt64)) * 31)]) X w hl h.v (m_X16_clarityNow G U3 ea ns nj nm nt nr nq h (nI kX)) wY_X16_clarityNow wM_X16_306 wIn_X16_clarityNow wSe_X16_X16_clarityNow wI_X16 (by decide) rfl (by decide +kernel) rfl rfl dX16_digest_407 ⟨by decide, by decide⟩ (Nat.le_of_ble_eq_true rfl) (⟨(show 932 + 0 ≤ 945 by omega), (show 9572 + 0 ≤ 9756 by omega)⟩) (fun v16 S1 H locs hp w => ?_)
                                            obtain ⟨⟨x15, rfl, hnx15⟩, rfl⟩ := hp
                                            refine lv_dmul hx hb dX16_digest_410 (n64_of (nan_mul hnx15)) ?_
                                            refine lv_d2l hx hb dX16_digest_411 ?_
                                            refine lv_ladd hx hb dX16_digest_412 ?_
                                            refine lv_lstore_n (lv' := [(1, .long ((((v375_1 * 31) + ((rGone U3 nt (nI kX) 16).toInt64)) * 31) + (FP.d2l (FP.dmul 4634204016564240384 x15)))), (4, .int (nI kX)), (3, .ref (gG U3 39 1)), (0, .ref (gG S 16 0))]) hx hb dX16_digest_413 rfl hl (by decide) rfl (fun ls hl => ?_)
                                            refine lv_iinc (v := nI (kX + 1)) (lv' := [(4, .int (nI (kX + 1))), (1, .long ((((v375_1 * 31) + ((rGone U3 nt (nI kX) 16).toInt64)) * 31) + (FP.d2l (FP.dmul 4634204016564240384 x15)))), (3, .ref (gG U3 39 1)), (0, .ref (gG S 16 0))]) hx hb dX16_digest_414 hl (k := 1) rfl (nI_1 _) (by decide) rfl (fun ls hl => ?_)
                                            refine lv_goto (tgt := 375) hx hb dX16_digest_417 (by decide) ?_
                                            exact ih375 (kX + 1) ((((v375_1 * 31) + ((rGone U3 nt (nI kX) 16).toInt64)) * 31) + (FP.d2l (FP.dmul 4634204016564240384 x15))) _ _ _ (by omega) (hlt_kX) w (lv_sub hl [0, 2, 1, 3] rfl)
                                      exact L375 _ 0 v321_1 _ _ _ (Nat.lt_succ_self _) (Nat.zero_le _) w (lv_sub hl [0, 1, 2, 3] rfl)
                                    · have hlt_kR : kR < nr := by
                                        skip
                                        exact Nat.lt_of_not_le (fun z => hc_kR ((nI_leI (a := nr) (b := kR) (by omega) (by omega)).mpr z))
                                      refine lv_iconst (v := 0) hx hb dX16_digest_335 (by decide) ?_
                                      refine lv_istore (lv' := [(5, .int 0), (4, .int (nI kR)), (3, .ref (gG U3 39 1)), (1, .long v321_1), (0, .ref (gG S 16 0))]) hx hb dX16_digest_336 hl (by decide) rfl (fun ls hl => ?_)
                                      have L338 : ∀ (N : Nat) (kS : Nat) (v338_1 : Int64) (H : Heap) (locs : List Loc) (ls : Array Slot), 5 - kS < N → (kS ≤ 5) → Wd s0 D cy U3 s.heap H locs → lv_has ls 6 [(5, .int (nI kS)), (4, .int (nI kR)), (3, .ref (gG U3 39 1)), (1, .long v338_1), (0, .ref (gG S 16 0))] → W p l e rm_m_X16_digest s m ([.ref (gG S 16 0)] : List Value).toArray below meth c H locs (912 + 5 * kR + kS) (9472 + 25 * kR + 5 * kS) (MQ below (GQ s0 D cy (PRl s0 S (ns, nj, nm, nr, nt, g0, A))) ([.ref (gG S 16 0)] : List Value).toArray s rm_m_X16_digest.cells rm_m_X16_digest.slots (A0 s0)) (F0 m 338 ls []) := by
                                        intro N
                                        induction N with
                                        | zero => intros; omega
                                        | succ N ih338 =>
                                          intro kS v338_1 H locs ls hmu hk_kS w hl
                                          refine lv_iload hx hb dX16_digest_338 (lv_at hl 0 rfl) ?_
                                          refine lv_iconst (v := 4) hx hb dX16_digest_340 (by decide) ?_
                                          refine lv_icmp_gt (tgt := 366) hx hb dX16_digest_341 (by decide) (fun hc_kS => ?_) (fun hc_kS => ?_)
                                          · have hge_kS : 5 ≤ kS := (nI_ltI (a := 4) (b := kS) (by decide) (by omega)).mp hc_kS
                                            have hge_kS : 5 ≤ kS := (nI_ltI (a := 4) (b := kS) (by decide) (by omega)).mp hc_kS
                                            refine W.widen (k := 912 + 5 * (kR + 1)) (n := 9472 + 25 * (kR + 1)) (show 912 + 5 * kR + kS ≤ 912 + 5 * (kR + 1) by omega) (show 9472 + 25 * kR + 5 * kS ≤ 9472 + 25 * (kR + 1) by omega) ?_
                                            refine lv_iinc (v := nI (kR + 1)) (lv' := [(4, .int (nI (kR + 1))), (5, .int (nI kS)), (3, .ref (gG U3 39 1)), (1, .long v338_1), (0, .ref (gG S 16 0))]) hx hb dX16_digest_366 hl (k := 1) rfl (nI_1 _) (by decide) rfl (fun ls hl => ?_)
                                            refine lv_goto (tgt := 321) hx hb dX16_digest_369 (by decide) ?_
                                            refine W.widen (k := 912 + 5 * (kR + 1)) (n := 9472 + 25 * (kR + 1)) (show 912 + 5 * (kR + 1) ≤ 912 + 5 * (kR + 1) by omega) (show 9472 + 25 * (kR + 1) ≤ 9472 + 25 * (kR + 1) by omega) ?_
                                            exact ih321 (kR + 1) v338_1 _ _ _ (by omega) (hlt_kR) w (lv_sub hl [0, 2, 3, 4] rfl)
                                          · have hlt_kS : kS < 5 := Nat.lt_of_not_le (fun z => hc_kS ((nI_ltI (a := 4) (b := kS) (by decide) (by omega)).mpr z))
                                            have hlt_kS : kS < 5 := Nat.lt_of_not_le (fun z => hc_kS ((nI_ltI (a := 4) (b := kS) (by decide) (by omega)).mpr z))
                                            refine lv_lload_n hx hb dX16_digest_344 rfl (lv_at hl 3 rfl) ?_
                                            refine lv_ldc2 hx hb hown (hts _ wK_X16_378) dX16_digest_345 ?_
                                            refine lv_lmul hx hb dX16_digest_348 ?_
                                            refine lv_aload_n hx hb dX16_digest_349 rfl (lv_at hl 4 rfl) ?_
                                            refine lv_iload hx hb dX16_digest_350 (lv_at hl 1 rfl) ?_
                                            refine lv_iload hx hb dX16_digest_352 (lv_at hl 0 rfl) ?_
                                            refine rE2 ((rfl).trans ((hK_U3.G (t := 16) (i := 0) rfl)).symm) ?_
                                            refine cV (S := U3) (nA := 2) (As := [.int (nI kR), .int (nI kS)]) (rest := [.long (v338_1 * 31)]) X w hl h.v (m_X16_readerNow G U3 ea ns nj nm nt nr nq h kR kS hlt_kR hlt_kS (hT0)) wY_X16_readerNow wM_X16_293 wIn_X16_readerNow wSe_X16_X16_readerNow wI_X16 (by decide) rfl (by decide +kernel) rfl rfl dX16_digest_354 ⟨by decide, by decide⟩ (Nat.le_of_ble_eq_true rfl) (⟨(show 912 + 5 * kR + kS + 1 ≤ 945 by omega), (show 9472 + 25 * kR + 5 * kS + 5 ≤ 9756 by omega)⟩) (fun v17 S1 H locs hp w => ?_)
                                            obtain ⟨rfl, rfl⟩ := hp
                                            refine lv_i2l hx hb dX16_digest_357 rfl ?_
                                            refine lv_ladd hx hb dX16_digest_358 ?_
                                            refine lv_lstore_n (lv' := [(1, .long ((v338_1 * 31) + ((rReaNow U3 nt kR kS).toInt64))), (5, .int (nI kS)), (4, .int (nI kR)), (3, .ref (gG U3 39 1)), (0, .ref (gG S 16 0))]) hx hb dX16_digest_359 rfl hl (by decide) rfl (fun ls hl => ?_)
                                            refine lv_iinc (v := nI (kS + 1)) (lv' := [(5, .int (nI (kS + 1))), (1, .long ((v338_1 * 31) + ((rReaNow U3 nt kR kS).toInt64))), (4, .int (nI kR)), (3, .ref (gG U3 39 1)), (0, .ref (gG S 16 0))]) hx hb dX16_digest_360 hl (k := 1) rfl (nI_1 _) (by decide) rfl (fun ls hl => ?_)
                                            refine lv_goto (tgt := 338) hx hb dX16_digest_363 (by decide) ?_
                                            refine W.widen (k := 912 + 5 * kR + (kS + 1)) (n := 9472 + 25 * kR + 5 * (kS + 1)) (show 912 + 5 * kR + kS + 1 ≤ 912 + 5 * kR + (kS + 1) by omega) (show 9472 + 25 * kR + 5 * kS + 5 ≤ 9472 + 25 * kR + 5 * (kS + 1) by omega) ?_
                                            exact ih338 (kS + 1) ((v338_1 * 31) + ((rReaNow U3 nt kR kS).toInt64)) _ _ _ (by omega) (hlt_kS) w (lv_sub hl [0, 2, 3, 1, 4] rfl)
                                      refine W.widen (k := 912 + 5 * kR + 0) (n := 9472 + 25 * kR + 5 * 0) (show 912 + 5 * kR ≤ 912 + 5 * kR + 0 by omega) (show 9472 + 25 * kR ≤ 9472 + 25 * kR + 5 * 0 by omega) ?_
                                      exact L338 _ 0 v321_1 _ _ _ (Nat.lt_succ_self _) (Nat.zero_le _) w (lv_sub hl [0, 1, 2, 3, 4] rfl)
                                refine W.widen (k := 912 + 5 * 0) (n := 9472 + 25 * 0) (show 912 ≤ 912 + 5 * 0 by omega) (show 9472 ≤ 9472 + 25 * 0 by omega) ?_
                                exact L321 _ 0 v183_1 _ _ _ (Nat.lt_succ_self _) (Nat.zero_le _) w (lv_sub hl [0, 1, 2, 3] rfl)
                              · have hlt_kT : kT < nt := by
                                  skip
                                  exact Nat.lt_of_not_le (fun z => hc_kT ((nI_leI (a := nt) (b := kT) (by omega) (by omega)).mpr z))
                                refine lv_iconst (v := 0) hx hb dX16_digest_197 (by decide) ?_
                                refine lv_istore (lv' := [(5, .int 0), (4, .int (nI kT)), (3, .ref (gG U3 39 1)), (1, .long v183_1), (0, .ref (gG S 16 0))]) hx hb dX16_digest_198 hl (by decide) rfl (fun ls hl => ?_)
                                have L200 : ∀ (N : Nat) (kU : Nat) (v200_1 : Int64) (H : Heap) (locs : List Loc) (ls : Array Slot), 8 - kU < N → (kU ≤ 8) → Wd s0 D cy U3 s.heap H locs → lv_has ls 6 [(5, .int (nI kU)), (4, .int (nI kT)), (3, .ref (gG U3 39 1)), (1, .long v200_1), (0, .ref (gG S 16 0))] → W p l e rm_m_X16_digest s m ([.ref (gG S 16 0)] : List Value).toArray below meth c H locs (112 + 20 * kT + kU) (1152 + 208 * kT + 8 * kU) (MQ below (GQ s0 D cy (PRl s0 S (ns, nj, nm, nr, nt, g0, A))) ([.ref (gG S 16 0)] : List Value).toArray s rm_m_X16_digest.cells rm_m_X16_digest.slots (A0 s0)) (F0 m 200 ls []) := by
                                  intro N
                                  induction N with
                                  | zero => intros; omega
                                  | succ N ih200 =>
                                    intro kU v200_1 H locs ls hmu hk_kU w hl
                                    refine lv_iload hx hb dX16_digest_200 (lv_at hl 0 rfl) ?_
                                    refine lv_bipush (v := 7) hx hb dX16_digest_202 (by decide) ?_
                                    refine lv_icmp_gt (tgt := 229) hx hb dX16_digest_204 (by decide) (fun hc_kU => ?_) (fun hc_kU => ?_)
                                    · have hge_kU : 8 ≤ kU := (nI_ltI (a := 7) (b := kU) (by decide) (by omega)).mp hc_kU
                                      have hge_kU : 8 ≤ kU := (nI_ltI (a := 7) (b := kU) (by decide) (by omega)).mp hc_kU
                                      refine W.widen (k := 120 + 20 * kT) (n := 1216 + 208 * kT) (show 112 + 20 * kT + kU ≤ 120 + 20 * kT by omega) (show 1152 + 208 * kT + 8 * kU ≤ 1216 + 208 * kT by omega) ?_
                                      refine lv_iconst (v := 0) hx hb dX16_digest_229 (by decide) ?_
                                      refine lv_istore (lv' := [(5, .int 0), (4, .int (nI kT)), (3, .ref (gG U3 39 1)), (1, .long v200_1), (0, .ref (gG S 16 0))]) hx hb dX16_digest_230 hl (by decide) rfl (fun ls hl => ?_)
                                      have L232 : ∀ (N : Nat) (kV : Nat) (v232_1 : Int64) (H : Heap) (locs : List Loc) (ls : Array Slot), 12 - kV < N → (kV ≤ 12) → Wd s0 D cy U3 s.heap H locs → lv_has ls 6 [(5, .int (nI kV)), (4, .int (nI kT)), (3, .ref (gG U3 39 1)), (1, .long v232_1), (0, .ref (gG S 16 0))] → W p l e rm_m_X16_digest s m ([.ref (gG S 16 0)] : List Value).toArray below meth c H locs (120 + 20 * kT + kV) (1216 + 208 * kT + 12 * kV) (MQ below (GQ s0 D cy (PRl s0 S (ns, nj, nm, nr, nt, g0, A))) ([.ref (gG S 16 0)] : List Value).toArray s rm_m_X16_digest.cells rm_m_X16_digest.slots (A0 s0)) (F0 m 232 ls []) := by
                                        intro N
                                        induction N with
                                        | zero => intros; omega
                                        | succ N ih232 =>
                                          intro kV v232_1 H locs ls hmu hk_kV w hl
                                          refine lv_iload hx hb dX16_digest_232 (lv_at hl 0 rfl) ?_
                                          refine lv_bipush (v := 11) hx hb dX16_digest_234 (by decide) ?_
                                          refine lv_icmp_gt (tgt := 261) hx hb dX16_digest_236 (by decide) (fun hc_kV => ?_) (fun hc_kV => ?_)
                                          · have hge_kV : 12 ≤ kV := (nI_ltI (a := 11) (b := kV) (by decide) (by omega)).mp hc_kV
                                            have hge_kV : 12 ≤ kV := (nI_ltI (a := 11) (b := kV) (by decide) (by omega)).mp hc_kV
                                            refine W.widen (k := 112 + 20 * (kT + 1)) (n := 1152 + 208 * (kT + 1)) (show 120 + 20 * kT + kV ≤ 112 + 20 * (kT + 1) by omega) (show 1216 + 208 * kT + 12 * kV ≤ 1152 + 208 * (kT + 1) by omega) ?_
                                            refine lv_iconst (v := 0) hx hb dX16_digest_261 (by decide) ?_
                                            refine lv_istore (lv' := [(5, .int 0), (4, .int (nI kT)), (3, .ref (gG U3 39 1)), (1, .long v232_1), (0, .ref (gG S 16 0))]) hx hb dX16_digest_262 hl (by decide) rfl (fun ls hl => ?_)
                                            have L264 : ∀ (N : Nat) (kW : Nat) (v264_1 : Int64) (H : Heap) (locs : List Loc) (ls : Array Slot), nr - kW < N → (kW ≤ nr) → Wd s0 D cy U3 s.heap H locs → lv_has ls 6 [(5, .int (nI kW)), (4, .int (nI kT)), (3, .ref (gG U3 39 1)), (1, .long v264_1), (0, .ref (gG S 16 0))] → W p l e rm_m_X16_digest s m ([.ref (gG S 16 0)] : List Value).toArray below meth c H locs (112 + 20 * (kT + 1)) (1152 + 208 * (kT + 1)) (MQ below (GQ s0 D cy (PRl s0 S (ns, nj, nm, nr, nt, g0, A))) ([.ref (gG S 16 0)] : List Value).toArray s rm_m_X16_digest.cells rm_m_X16_digest.slots (A0 s0)) (F0 m 264 ls []) := by
                                              intro N
                                              induction N with
                                              | zero => intros; omega
                                              | succ N ih264 =>
                                                intro kW v264_1 H locs ls hmu hk_kW w hl
                                                refine lv_iload hx hb dX16_digest_264 (lv_at hl 0 rfl) ?_
                                                refine lv_aload_n hx hb dX16_digest_266 rfl (lv_at hl 4 rfl) ?_
                                                refine rE0 ((rfl).trans ((hK_U3.G (t := 16) (i := 0) rfl)).symm) ?_
                                                refine g_16_10 (S := U3) (x := (some (gG U3 17 10))) X w h.v wF_X16_29 (h.f_re) dX16_digest_267 ?_
                                                refine cF (S := U3) (t := 17) (nA := 0) (As := []) (rest := [.int (nI kW)]) X w hl h.l_re.1 (m_size G U3 ea 10 nr h.l_re) wY_Jx4a65c_size_8abf5 wM_X16_73 wIn_Jx4a65c_size_8abf5 wSe_Jx4a65c_Jx4a65c_size_8abf5_of_java_util_List_size___I wI_Jx4a65c fw_size (by decide) rfl (by decide +kernel) rfl rfl dX16_digest_270 ⟨by decide, by decide⟩ (Nat.le_of_ble_eq_true rfl) (⟨(show 112 + 20 * (kT + 1) + 0 ≤ 945 by omega), (show 1152 + 208 * (kT + 1) + 0 ≤ 9756 by omega)⟩) (fun v18 S1 H locs hp w => ?_)
                                                obtain ⟨rfl, rfl⟩ := hp
                                                refine lv_icmp_ge (tgt := 312) hx hb dX16_digest_275 (by decide) (fun hc_kW => ?_) (fun hc_kW => ?_)
                                                · have hge_kW : nr ≤ kW := by
                                                    skip
                                                    exact (nI_leI (a := nr) (b := kW) (by omega) (by omega)).mp hc_kW
                                                  have hge_kW : nr ≤ kW := by
                                                    skip
                                                    exact (nI_leI (a := nr) (b := kW) (by omega) (by omega)).mp hc_kW
                                                  refine lv_iinc (v := nI (kT + 1)) (lv' := [(4, .int (nI (kT + 1))), (5, .int (nI kW)), (3, .ref (gG U3 39 1)), (1, .long v264_1), (0, .ref (gG S 16 0))]) hx hb dX16_digest_312 hl (k := 1) rfl (nI_1 _) (by decide) rfl (fun ls hl => ?_)
                                                  refine lv_goto (tgt := 183) hx hb dX16_digest_315 (by decide) ?_
                                                  refine W.widen (k := 112 + 20 * (kT + 1)) (n := 1152 + 208 * (kT + 1)) (show 112 + 20 * (kT + 1) ≤ 112 + 20 * (kT + 1) by omega) (show 1152 + 208 * (kT + 1) ≤ 1152 + 208 * (kT + 1) by omega) ?_
                                                  exact ih183 (kT + 1) v264_1 _ _ _ (by omega) (hlt_kT) w (lv_sub hl [0, 2, 3, 4] rfl)
                                                · have hlt_kW : kW < nr := by
                                                    skip
                                                    exact Nat.lt_of_not_le (fun z => hc_kW ((nI_leI (a := nr) (b := kW) (by omega) (by omega)).mpr z))
                                                  have hlt_kW : kW < nr := by
                                                    skip
                                                    exact Nat.lt_of_not_le (fun z => hc_kW ((nI_leI (a := nr) (b := kW) (by omega) (by omega)).mpr z))
                                                  refine lv_lload_n hx hb dX16_digest_278 rfl (lv_at hl 3 rfl) ?_
                                                  refine lv_ldc2 hx hb hown (hts _ wK_X16_378) dX16_digest_279 ?_
                                                  refine lv_lmul hx hb dX16_digest_282 ?_
                                                  refine lv_aload_n hx hb dX16_digest_283 rfl (lv_at hl 4 rfl) ?_
                                                  refine rE0 ((rfl).trans ((hK_U3.G (t := 16) (i := 0) rfl)).symm) ?_
                                                  refine g_16_10 (S := U3) (x := (some (gG U3 17 10))) X w h.v wF_X16_29 (h.f_re) dX16_digest_284 ?_
                                                  refine lv_iload hx hb dX16_digest_287 (lv_at hl 0 rfl) ?_
                                                  refine cF (S := U3) (t := 17) (nA := 1) (As := [.int (nI kW)]) (rest := [.long (v264_1 * 31)]) X w hl h.l_re.1 (m_get G U3 ea 10 kW nr (some (gG U3 13 kW)) h.l_re hlt_kW (h.e_re kW hlt_kW).1) wY_Jx4a65c_get_915e3 wM_X16_46 wIn_Jx4a65c_get_915e3 wSe_Jx4a65c_Jx4a65c_get_915e3_of_java_util_List_get__I_Ljava_lang_Object_ wI_Jx4a65c fw_get (by decide) rfl (by decide +kernel) rfl rfl dX16_digest_289 ⟨by decide, by decide⟩ (Nat.le_of_ble_eq_true rfl) (⟨(show 112 + 20 * (kT + 1) + 0 ≤ 945 by omega), (show 1152 + 208 * (kT + 1) + 0 ≤ 9756 by omega)⟩) (fun v19 S1 H locs hp w => ?_)
                                                  obtain ⟨rfl, rfl⟩ := hp
                                                  refine ckC (S := U3) (t := 13) X w (h.e_re kW hlt_kW).2.1 (by decide) rfl wC_X16_177 dX16_digest_294 ?_
                                                  refine g_13_2 (S := U3) (x := (some (gG U3 35 kW))) X w (h.e_re kW hlt_kW).2.1 wF_X16_179 ((h.e_re kW hlt_kW).2.2.1) dX16_digest_297 ?_
                                                  refine lv_iload hx hb dX16_digest_300 (lv_at hl 1 rfl) ?_
                                                  refine aLdI (S := U3) (t := 35) (v := mA U3 35 kW kT) X w (h.e_re kW hlt_kW).2.2.2.1 (by decide) rfl rfl (by rw [(h.e_re kW hlt_kW).2.2.2.2]; exact nI_vp (Nat.lt_of_lt_of_le hlt_kT h.b_ta) (by decide)) (by rw [cl_nI (n := 40) (Nat.lt_of_lt_of_le hlt_kT h.b_ta) (by decide)]) dX16_digest_302 ?_
                                                  refine lv_i2l hx hb dX16_digest_303 rfl ?_
                                                  refine lv_ladd hx hb dX16_digest_304 ?_
                                                  refine lv_lstore_n (lv' := [(1, .long ((v264_1 * 31) + ((mA U3 35 kW kT).toInt64))), (5, .int (nI kW)), (4, .int (nI kT)), (3, .ref (gG U3 39 1)), (0, .ref (gG S 16 0))]) hx hb dX16_digest_305 rfl hl (by decide) rfl (fun ls hl => ?_)
                                                  refine lv_iinc (v := nI (kW + 1)) (lv' := [(5, .int (nI (kW + 1))), (1, .long ((v264_1 * 31) + ((mA U3 35 kW kT).toInt64))), (4, .int (nI kT)), (3, .ref (gG U3 39 1)), (0, .ref (gG S 16 0))]) hx hb dX16_digest_306 hl (k := 1) rfl (nI_1 _) (by decide) rfl (fun ls hl => ?_)
                                                  refine lv_goto (tgt := 264) hx hb dX16_digest_309 (by decide) ?_
                                                  exact ih264 (kW + 1) ((v264_1 * 31) + ((mA U3 35 kW kT).toInt64)) _ _ _ (by omega) (hlt_kW) w (lv_sub hl [0, 2, 3, 1, 4] rfl)
                                            exact L264 _ 0 v232_1 _ _ _ (Nat.lt_succ_self _) (Nat.zero_le _) w (lv_sub hl [0, 1, 2, 3, 4] rfl)
                                          · have hlt_kV : kV < 12 := Nat.lt_of_not_le (fun z => hc_kV ((nI_ltI (a := 11) (b := kV) (by decide) (by omega)).mpr z))
                                            have hlt_kV : kV < 12 := Nat.lt_of_not_le (fun z => hc_kV ((nI_ltI (a := 11) (b := kV) (by decide) (by omega)).mpr z))
                                            refine lv_lload_n hx hb dX16_digest_239 rfl (lv_at hl 3 rfl) ?_
                                            refine lv_ldc2 hx hb hown (hts _ wK_X16_378) dX16_digest_240 ?_
                                            refine lv_lmul hx hb dX16_digest_243 ?_
                                            refine lv_aload_n hx hb dX16_digest_244 rfl (lv_at hl 4 rfl) ?_
                                            refine lv_iload hx hb dX16_digest_245 (lv_at hl 1 rfl) ?_
                                            refine lv_iload hx hb dX16_digest_247 (lv_at hl 0 rfl) ?_
                                            refine rE2 ((rfl).trans ((hK_U3.G (t := 16) (i := 0) rfl)).symm) ?_
                                            refine cV (S := U3) (nA := 2) (As := [.int (nI kT), .int (nI kV)]) (rest := [.long (v232_1 * 31)]) X w hl h.v (m_X16_reportNow G U3 ea ns nj nm nt nr nq h kT kV hlt_kT hlt_kV (hT0)) wY_X16_reportNow wM_X16_290 wIn_X16_reportNow wSe_X16_X16_reportNow wI_X16 (by decide) rfl (by decide +kernel) rfl rfl dX16_digest_249 ⟨by decide, by decide⟩ (Nat.le_of_ble_eq_true rfl) (⟨(show 120 + 20 * kT + kV + 1 ≤ 945 by omega), (show 1216 + 208 * kT + 12 * kV + 12 ≤ 9756 by omega)⟩) (fun v20 S1 H locs hp w => ?_)
                                            obtain ⟨rfl, rfl⟩ := hp
                                            refine lv_i2l hx hb dX16_digest_252 rfl ?_
                                            refine lv_ladd hx hb dX16_digest_253 ?_
                                            refine lv_lstore_n (lv' := [(1, .long ((v232_1 * 31) + ((if mI U3 247 kT = -1 then -2 else rRepNow U3 kT kV).toInt64))), (5, .int (nI kV)), (4, .int (nI kT)), (3, .ref (gG U3 39 1)), (0, .ref (gG S 16 0))]) hx hb dX16_digest_254 rfl hl (by decide) rfl (fun ls hl => ?_)
                                            refine lv_iinc (v := nI (kV + 1)) (lv' := [(5, .int (nI (kV + 1))), (1, .long ((v232_1 * 31) + ((if mI U3 247 kT = -1 then -2 else rRepNow U3 kT kV).toInt64))), (4, .int (nI kT)), (3, .ref (gG U3 39 1)), (0, .ref (gG S 16 0))]) hx hb dX16_digest_255 hl (k := 1) rfl (nI_1 _) (by decide) rfl (fun ls hl => ?_)
                                            refine lv_goto (tgt := 232) hx hb dX16_digest_258 (by decide) ?_
                                            refine W.widen (k := 120 + 20 * kT + (kV + 1)) (n := 1216 + 208 * kT + 12 * (kV + 1)) (show 120 + 20 * kT + kV + 1 ≤ 120 + 20 * kT + (kV + 1) by omega) (show 1216 + 208 * kT + 12 * kV + 12 ≤ 1216 + 208 * kT + 12 * (kV + 1) by omega) ?_
                                            exact ih232 (kV + 1) ((v232_1 * 31) + ((if mI U3 247 kT = -1 then -2 else rRepNow U3 kT kV).toInt64)) _ _ _ (by omega) (hlt_kV) w (lv_sub hl [0, 2, 3, 1, 4] rfl)
                                      refine W.widen (k := 120 + 20 * kT + 0) (n := 1216 + 208 * kT + 12 * 0) (show 120 + 20 * kT ≤ 120 + 20 * kT + 0 by omega) (show 1216 + 208 * kT ≤ 1216 + 208 * kT + 12 * 0 by omega) ?_
                                      exact L232 _ 0 v200_1 _ _ _ (Nat.lt_succ_self _) (Nat.zero_le _) w (lv_sub hl [0, 1, 2, 3, 4] rfl)
                                    · have hlt_kU : kU < 8 := Nat.lt_of_not_le (fun z => hc_kU ((nI_ltI (a := 7) (b := kU) (by decide) (by omega)).mpr z))
                                      have hlt_kU : kU < 8 := Nat.lt_of_not_le (fun z => hc_kU ((nI_ltI (a := 7) (b := kU) (by decide) (by omega)).mpr z))
                                      refine lv_lload_n hx hb dX16_digest_207 rfl (lv_at hl 3 rfl) ?_
                                      refine lv_ldc2 hx hb hown (hts _ wK_X16_378) dX16_digest_208 ?_
                                      refine lv_lmul hx hb dX16_digest_211 ?_
                                      refine lv_aload_n hx hb dX16_digest_212 rfl (lv_at hl 4 rfl) ?_
                                      refine lv_iload hx hb dX16_digest_213 (lv_at hl 1 rfl) ?_
                                      refine lv_iload hx hb dX16_digest_215 (lv_at hl 0 rfl) ?_
                                      refine rE2 ((rfl).trans ((hK_U3.G (t := 16) (i := 0) rfl)).symm) ?_
                                      refine cV (S := U3) (nA := 2) (As := [.int (nI kT), .int (nI kU)]) (rest := [.long (v200_1 * 31)]) X w hl h.v (m_X16_talkNow G U3 ea ns nj nm nt nr nq h kT kU hlt_kT hlt_kU (hT0)) wY_X16_talkNow wM_X16_279 wIn_X16_talkNow wSe_X16_X16_talkNow wI_X16 (by decide) rfl (by decide +kernel) rfl rfl dX16_digest_217 ⟨by decide, by decide⟩ (Nat.le_of_ble_eq_true rfl) (⟨(show 112 + 20 * kT + kU + 1 ≤ 945 by omega), (show 1152 + 208 * kT + 8 * kU + 8 ≤ 9756 by omega)⟩) (fun v21 S1 H locs hp w => ?_)
                                      obtain ⟨rfl, rfl⟩ := hp
                                      refine lv_i2l hx hb dX16_digest_220 rfl ?_
                                      refine lv_ladd hx hb dX16_digest_221 ?_
                                      refine lv_lstore_n (lv' := [(1, .long ((v200_1 * 31) + ((rTalkNow U3 kT kU).toInt64))), (5, .int (nI kU)), (4, .int (nI kT)), (3, .ref (gG U3 39 1)), (0, .ref (gG S 16 0))]) hx hb dX16_digest_222 rfl hl (by decide) rfl (fun ls hl => ?_)
                                      refine lv_iinc (v := nI (kU + 1)) (lv' := [(5, .int (nI (kU + 1))), (1, .long ((v200_1 * 31) + ((rTalkNow U3 kT kU).toInt64))), (4, .int (nI kT)), (3, .ref (gG U3 39 1)), (0, .ref (gG S 16 0))]) hx hb dX16_digest_223 hl (k := 1) rfl (nI_1 _) (by decide) rfl (fun ls hl => ?_)
                                      refine lv_goto (tgt := 200) hx hb dX16_digest_226 (by decide) ?_
                                      refine W.widen (k := 112 + 20 * kT + (kU + 1)) (n := 1152 + 208 * kT + 8 * (kU + 1)) (show 112 + 20 * kT + kU + 1 ≤ 112 + 20 * kT + (kU + 1) by omega) (show 1152 + 208 * kT + 8 * kU + 8 ≤ 1152 + 208 * kT + 8 * (kU + 1) by omega) ?_
                                      exact ih200 (kU + 1) ((v200_1 * 31) + ((rTalkNow U3 kT kU).toInt64)) _ _ _ (by omega) (hlt_kU) w (lv_sub hl [0, 2, 3, 1, 4] rfl)
                                refine W.widen (k := 112 + 20 * kT + 0) (n := 1152 + 208 * kT + 8 * 0) (show 112 + 20 * kT ≤ 112 + 20 * kT + 0 by omega) (show 1152 + 208 * kT ≤ 1152 + 208 * kT + 8 * 0 by omega) ?_
                                exact L200 _ 0 v183_1 _ _ _ (Nat.lt_succ_self _) (Nat.zero_le _) w (lv_sub hl [0, 1, 2, 3, 4] rfl)
                          refine W.widen (k := 112 + 20 * 0) (n := 1152 + 208 * 0) (show 112 ≤ 112 + 20 * 0 by omega) (show 1152 ≤ 1152 + 208 * 0 by omega) ?_
                          exact L183 _ 0 v155_1 _ _ _ (Nat.lt_succ_self _) (Nat.zero_le _) w (lv_sub hl [0, 1, 2, 3] rfl)
                        · have hlt_kF : kF < 7 := Nat.lt_of_not_le (fun z => hc_kF ((nI_ltI (a := 6) (b := kF) (by decide) (by omega)).mpr z))
                          refine lv_lload_n hx hb dX16_digest_162 rfl (lv_at hl 2 rfl) ?_
                          refine lv_ldc2 hx hb hown (hts _ wK_X16_378) dX16_digest_163 ?_
                          refine lv_lmul hx hb dX16_digest_166 ?_
                          refine lv_aload_n hx hb dX16_digest_167 rfl (lv_at hl 1 rfl) ?_
                          refine lv_iload hx hb dX16_digest_168 (lv_at hl 0 rfl) ?_
                          refine aLdI (S := U3) (t := 39) (v := mA U3 39 1 (nI kF).toNatClampNeg) X w v39_1 (by decide) rfl rfl (by rw [n39_1]; exact nI_vp hlt_kF (by decide)) rfl dX16_digest_170 ?_
                          refine lv_topi (fun z22 ez22 => ?_)
                          refine lv_i2l hx hb dX16_digest_171 rfl ?_
                          refine lv_ladd hx hb dX16_digest_172 ?_
                          refine lv_lstore_n (lv' := [(1, .long ((v155_1 * 31) + z22.toInt64)), (4, .int (nI kF)), (3, .ref (gG U3 39 1)), (0, .ref (gG S 16 0))]) hx hb dX16_digest_173 rfl hl (by decide) rfl (fun ls hl => ?_)
                          refine lv_iinc (v := nI (kF + 1)) (lv' := [(4, .int (nI (kF + 1))), (1, .long ((v155_1 * 31) + z22.toInt64)), (3, .ref (gG U3 39 1)), (0, .ref (gG S 16 0))]) hx hb dX16_digest_174 hl (k := 1) rfl (nI_1 _) (by decide) rfl (fun ls hl => ?_)
                          refine lv_goto (tgt := 155) hx hb dX16_digest_177 (by decide) ?_
                          exact ih155 (kF + 1) ((v155_1 * 31) + z22.toInt64) _ _ _ (by omega) (hlt_kF) w (lv_sub hl [0, 2, 1, 3] rfl)
                    exact L155 _ 1 v90_1 _ _ _ (Nat.lt_succ_self _) (by decide) w (lv_sub hl [0, 1, 2, 3] rfl)
                  · have hlt_kD : kD < nm := by
                      skip
                      exact Nat.lt_of_not_le (fun z => hc_kD ((nI_leI (a := nm) (b := kD) (by omega) (by omega)).mpr z))
                    refine lv_iconst (v := 0) hx hb dX16_digest_103 (by decide) ?_
                    refine lv_istore (lv' := [(4, .int 0), (3, .int (nI kD)), (1, .long v90_1), (0, .ref (gG S 16 0))]) hx hb dX16_digest_104 hl (by decide) rfl (fun ls hl => ?_)
                    have L106 : ∀ (N : Nat) (kE : Nat) (v106_1 : Int64) (H : Heap) (locs : List Loc) (ls : Array Slot), 9 - kE < N → (kE ≤ 9) → Wd s0 D cy (sI S 256 0 0) s.heap H locs → lv_has ls 6 [(4, .int (nI kE)), (3, .int (nI kD)), (1, .long v106_1), (0, .ref (gG S 16 0))] → W p l e rm_m_X16_digest s m ([.ref (gG S 16 0)] : List Value).toArray below meth c H locs (110) (1104) (MQ below (GQ s0 D cy (PRl s0 S (ns, nj, nm, nr, nt, g0, A))) ([.ref (gG S 16 0)] : List Value).toArray s rm_m_X16_digest.cells rm_m_X16_digest.slots (A0 s0)) (F0 m 106 ls []) := by
                      intro N
                      induction N with
                      | zero => intros; omega
                      | succ N ih106 =>
                        intro kE v106_1 H locs ls hmu hk_kE w hl
                        refine lv_iload hx hb dX16_digest_106 (lv_at hl 0 rfl) ?_
                        refine lv_bipush (v := 8) hx hb dX16_digest_108 (by decide) ?_
                        refine lv_icmp_gt (tgt := 134) hx hb dX16_digest_110 (by decide) (fun hc_kE => ?_) (fun hc_kE => ?_)
                        · have hge_kE : 9 ≤ kE := (nI_ltI (a := 8) (b := kE) (by decide) (by omega)).mp hc_kE
                          have hge_kE : 9 ≤ kE := (nI_ltI (a := 8) (b := kE) (by decide) (by omega)).mp hc_kE
                          refine lv_iinc (v := nI (kD + 1)) (lv' := [(3, .int (nI (kD + 1))), (4, .int (nI kE)), (1, .long v106_1), (0, .ref (gG S 16 0))]) hx hb dX16_digest_134 hl (k := 1) rfl (nI_1 _) (by decide) rfl (fun ls hl => ?_)
                          refine lv_goto (tgt := 90) hx hb dX16_digest_137 (by decide) ?_
                          exact ih90 (kD + 1) v106_1 _ _ _ (by omega) (hlt_kD) w (lv_sub hl [0, 2, 3] rfl)
                        · have hlt_kE : kE < 9 := Nat.lt_of_not_le (fun z => hc_kE ((nI_ltI (a := 8) (b := kE) (by decide) (by omega)).mpr z))
                          have hlt_kE : kE < 9 := Nat.lt_of_not_le (fun z => hc_kE ((nI_ltI (a := 8) (b := kE) (by decide) (by omega)).mpr z))
                          refine lv_lload_n hx hb dX16_digest_113 rfl (lv_at hl 2 rfl) ?_
                          refine lv_ldc2 hx hb hown (hts _ wK_X16_378) dX16_digest_114 ?_
                          refine lv_lmul hx hb dX16_digest_117 ?_
                          refine lv_aload_n hx hb dX16_digest_118 rfl (lv_at hl 3 rfl) ?_
                          refine lv_iload_n hx hb dX16_digest_119 rfl (lv_at hl 1 rfl) ?_
                          refine lv_iload hx hb dX16_digest_120 (lv_at hl 0 rfl) ?_
                          refine cV (S := (sI S 256 0 0)) (nA := 2) (As := [.int (nI kD), .int (nI kE)]) (rest := [.long (v106_1 * 31)]) X w hl h.v (m_X16_monitorNow G (sI S 256 0 0) ea ns nj nm nt nr nq h kD kE hlt_kD hlt_kE) wY_X16_monitorNow wM_X16_270 wIn_X16_monitorNow wSe_X16_X16_monitorNow wI_X16 (by decide) rfl (by decide +kernel) rfl rfl dX16_digest_122 ⟨by decide, by decide⟩ (Nat.le_of_ble_eq_true rfl) (⟨(show 110 + 0 ≤ 945 by omega), (show 1104 + 0 ≤ 9756 by omega)⟩) (fun v23 S1 H locs hp w => ?_)
                          obtain ⟨rfl, rfl⟩ := hp
                          refine lv_i2l hx hb dX16_digest_125 rfl ?_
                          refine lv_ladd hx hb dX16_digest_126 ?_
                          refine lv_lstore_n (lv' := [(1, .long ((v106_1 * 31) + ((rMonNow (sI S 256 0 0) kD kE).toInt64))), (4, .int (nI kE)), (3, .int (nI kD)), (0, .ref (gG S 16 0))]) hx hb dX16_digest_127 rfl hl (by decide) rfl (fun ls hl => ?_)
                          refine lv_iinc (v := nI (kE + 1)) (lv' := [(4, .int (nI (kE + 1))), (1, .long ((v106_1 * 31) + ((rMonNow (sI S 256 0 0) kD kE).toInt64))), (3, .int (nI kD)), (0, .ref (gG S 16 0))]) hx hb dX16_digest_128 hl (k := 1) rfl (nI_1 _) (by decide) rfl (fun ls hl => ?_)
                          refine lv_goto (tgt := 106) hx hb dX16_digest_131 (by decide) ?_
                          exact ih106 (kE + 1) ((v106_1 * 31) + ((rMonNow (sI S 256 0 0) kD kE).toInt64)) _ _ _ (by omega) (hlt_kE) w (lv_sub hl [0, 2, 1, 3] rfl)
                    exact L106 _ 0 v90_1 _ _ _ (Nat.lt_succ_self _) (Nat.zero_le _) w (lv_sub hl [0, 1, 2, 3] rfl)
              exact L90 _ 0 v38_1 _ _ _ (Nat.lt_succ_self _) (Nat.zero_le _) w (lv_sub hl [0, 1, 2] rfl)
            · have hlt_kB : kB < ns := by
                skip
                exact Nat.lt_of_not_le (fun z => hc_kB ((nI_leI (a := ns) (b := kB) (by omega) (by omega)).mpr z))
              refine lv_iconst (v := 0) hx hb dX16_digest_51 (by decide) ?_
              refine lv_istore (lv' := [(4, .int 0), (3, .int (nI kB)), (1, .long v38_1), (0, .ref (gG S 16 0))]) hx hb dX16_digest_52 hl (by decide) rfl (fun ls hl => ?_)
              have L54 : ∀ (N : Nat) (kC : Nat) (v54_1 : Int64) (H : Heap) (locs : List Loc) (ls : Array Slot), 9 - kC < N → (kC ≤ 9) → Wd s0 D cy (sI S 256 0 0) s.heap H locs → lv_has ls 6 [(4, .int (nI kC)), (3, .int (nI kB)), (1, .long v54_1), (0, .ref (gG S 16 0))] → W p l e rm_m_X16_digest s m ([.ref (gG S 16 0)] : List Value).toArray below meth c H locs (38 + 9 * kB + kC) (456 + 81 * kB + 9 * kC) (MQ below (GQ s0 D cy (PRl s0 S (ns, nj, nm, nr, nt, g0, A))) ([.ref (gG S 16 0)] : List Value).toArray s rm_m_X16_digest.cells rm_m_X16_digest.slots (A0 s0)) (F0 m 54 ls []) := by
                intro N
                induction N with
                | zero => intros; omega
                | succ N ih54 =>
                  intro kC v54_1 H locs ls hmu hk_kC w hl
                  refine lv_iload hx hb dX16_digest_54 (lv_at hl 0 rfl) ?_
                  refine lv_bipush (v := 8) hx hb dX16_digest_56 (by decide) ?_
                  refine lv_icmp_gt (tgt := 82) hx hb dX16_digest_58 (by decide) (fun hc_kC => ?_) (fun hc_kC => ?_)
                  · have hge_kC : 9 ≤ kC := (nI_ltI (a := 8) (b := kC) (by decide) (by omega)).mp hc_kC
                    have hge_kC : 9 ≤ kC := (nI_ltI (a := 8) (b := kC) (by decide) (by omega)).mp hc_kC
                    refine W.widen (k := 38 + 9 * (kB + 1)) (n := 456 + 81 * (kB + 1)) (show 38 + 9 * kB + kC ≤ 38 + 9 * (kB + 1) by omega) (show 456 + 81 * kB + 9 * kC ≤ 456 + 81 * (kB + 1) by omega) ?_
                    refine lv_iinc (v := nI (kB + 1)) (lv' := [(3, .int (nI (kB + 1))), (4, .int (nI kC)), (1, .long v54_1), (0, .ref (gG S 16 0))]) hx hb dX16_digest_82 hl (k := 1) rfl (nI_1 _) (by decide) rfl (fun ls hl => ?_)
                    refine lv_goto (tgt := 38) hx hb dX16_digest_85 (by decide) ?_
                    refine W.widen (k := 38 + 9 * (kB + 1)) (n := 456 + 81 * (kB + 1)) (show 38 + 9 * (kB + 1) ≤ 38 + 9 * (kB + 1) by omega) (show 456 + 81 * (kB + 1) ≤ 456 + 81 * (kB + 1) by omega) ?_
                    exact ih38 (kB + 1) v54_1 _ _ _ (by omega) (hlt_kB) w (lv_sub hl [0, 2, 3] rfl)
                  · have hlt_kC : kC < 9 := Nat.lt_of_not_le (fun z => hc_kC ((nI_ltI (a := 8) (b := kC) (by decide) (by omega)).mpr z))
                    have hlt_kC : kC < 9 := Nat.lt_of_not_le (fun z => hc_kC ((nI_ltI (a := 8) (b := kC) (by decide) (by omega)).mpr z))
                    refine lv_lload_n hx hb dX16_digest_61 rfl (lv_at hl 2 rfl) ?_
                    refine lv_ldc2 hx hb hown (hts _ wK_X16_378) dX16_digest_62 ?_
                    refine lv_lmul hx hb dX16_digest_65 ?_
                    refine lv_aload_n hx hb dX16_digest_66 rfl (lv_at hl 3 rfl) ?_
                    refine lv_iload_n hx hb dX16_digest_67 rfl (lv_at hl 1 rfl) ?_
                    refine lv_iload hx hb dX16_digest_68 (lv_at hl 0 rfl) ?_
                    refine cV (S := (sI S 256 0 0)) (nA := 2) (As := [.int (nI kB), .int (nI kC)]) (rest := [.long (v54_1 * 31)]) X w hl h.v (m_X16_stationNow G (sI S 256 0 0) ea ns nj nm nt nr nq h kB kC hlt_kB hlt_kC ((hZr.2 0).1)) wY_X16_stationNow wM_X16_267 wIn_X16_stationNow wSe_X16_X16_stationNow wI_X16 (by decide) rfl (by decide +kernel) rfl rfl dX16_digest_70 ⟨by decide, by decide⟩ (Nat.le_of_ble_eq_true rfl) (⟨(show 38 + 9 * kB + kC + 1 ≤ 945 by omega), (show 456 + 81 * kB + 9 * kC + 9 ≤ 9756 by omega)⟩) (fun v24 S1 H locs hp w => ?_)
                    obtain ⟨rfl, rfl⟩ := hp
                    refine lv_i2l hx hb dX16_digest_73 rfl ?_
                    refine lv_ladd hx hb dX16_digest_74 ?_
                    refine lv_lstore_n (lv' := [(1, .long ((v54_1 * 31) + ((rStaNow (sI S 256 0 0) ns nj nt kB kC).toInt64))), (4, .int (nI kC)), (3, .int (nI kB)), (0, .ref (gG S 16 0))]) hx hb dX16_digest_75 rfl hl (by decide) rfl (fun ls hl => ?_)
                    refine lv_iinc (v := nI (kC + 1)) (lv' := [(4, .int (nI (kC + 1))), (1, .long ((v54_1 * 31) + ((rStaNow (sI S 256 0 0) ns nj nt kB kC).toInt64))), (3, .int (nI kB)), (0, .ref (gG S 16 0))]) hx hb dX16_digest_76 hl (k := 1) rfl (nI_1 _) (by decide) rfl (fun ls hl => ?_)
                    refine lv_goto (tgt := 54) hx hb dX16_digest_79 (by decide) ?_
                    refine W.widen (k := 38 + 9 * kB + (kC + 1)) (n := 456 + 81 * kB + 9 * (kC + 1)) (show 38 + 9 * kB + kC + 1 ≤ 38 + 9 * kB + (kC + 1) by omega) (show 456 + 81 * kB + 9 * kC + 9 ≤ 456 + 81 * kB + 9 * (kC + 1) by omega) ?_
                    exact ih54 (kC + 1) ((v54_1 * 31) + ((rStaNow (sI S 256 0 0) ns nj nt kB kC).toInt64)) _ _ _ (by omega) (hlt_kC) w (lv_sub hl [0, 2, 1, 3] rfl)
              refine W.widen (k := 38 + 9 * kB + 0) (n := 456 + 81 * kB + 9 * 0) (show 38 + 9 * kB ≤ 38 + 9 * kB + 0 by omega) (show 456 + 81 * kB ≤ 456 + 81 * kB + 9 * 0 by omega) ?_
              exact L54 _ 0 v38_1 _ _ _ (Nat.lt_succ_self _) (Nat.zero_le _) w (lv_sub hl [0, 1, 2, 3] rfl)
        refine W.widen (k := 38 + 9 * 0) (n := 456 + 81 * 0) (show 38 ≤ 38 + 9 * 0 by omega) (show 456 ≤ 456 + 81 * 0 by omega) ?_
        exact L38 _ 0 v11_1 _ _ _ (Nat.lt_succ_self _) (Nat.zero_le _) w (lv_sub hl [0, 1, 2] rfl)
      · have hlt_kA : kA < 19 := Nat.lt_of_not_le (fun z => hc_kA ((nI_ltI (a := 18) (b := kA) (by decide) (by omega)).mpr z))
        refine lv_lload_n hx hb dX16_digest_17 rfl (lv_at hl 1 rfl) ?_
        refine lv_ldc2 hx hb hown (hts _ wK_X16_378) dX16_digest_18 ?_
        refine lv_lmul hx hb dX16_digest_21 ?_
        refine lv_aload_n hx hb dX16_digest_22 rfl (lv_at hl 2 rfl) ?_
        refine lv_iload_n hx hb dX16_digest_23 rfl (lv_at hl 0 rfl) ?_
        refine cV (S := (sI S 256 0 0)) (nA := 1) (As := [.int (nI kA)]) (rest := [.long (v11_1 * 31)]) X w hl h.v (m_X16_deskNow G (sI S 256 0 0) ea ns nj nm nt nr nq h kA hlt_kA (hZr.tmp _ (by decide))) wY_X16_deskNow wM_X16_310 wIn_X16_deskNow wSe_X16_X16_deskNow wI_X16 (by decide) rfl (by decide +kernel) rfl rfl dX16_digest_24 ⟨by decide, by decide⟩ (Nat.le_of_ble_eq_true rfl) (⟨(show 2 * kA + 2 ≤ 945 by omega), (show 24 * kA + 24 ≤ 9756 by omega)⟩) (fun v26 S1 H locs hp w => ?_)
        obtain ⟨⟨x25, rfl⟩, rfl⟩ := hp
        refine lv_i2l hx hb dX16_digest_27 rfl ?_
        refine lv_ladd hx hb dX16_digest_28 ?_
        refine lv_lstore_n (lv' := [(1, .long ((v11_1 * 31) + x25.toInt64)), (3, .int (nI kA)), (0, .ref (gG S 16 0))]) hx hb dX16_digest_29 rfl hl (by decide) rfl (fun ls hl => ?_)
        refine lv_iinc (v := nI (kA + 1)) (lv' := [(3, .int (nI (kA + 1))), (1, .long ((v11_1 * 31) + x25.toInt64)), (0, .ref (gG S 16 0))]) hx hb dX16_digest_30 hl (k := 1) rfl (nI_1 _) (by decide) rfl (fun ls hl => ?_)
        refine lv_goto (tgt := 11) hx hb dX16_digest_33 (by decide) ?_
        refine W.widen (k := 2 * (kA + 1)) (n := 24 * (kA + 1)) (show 2 * kA + 2 ≤ 2 * (kA + 1) by omega) (show 24 * kA + 24 ≤ 24 * (kA + 1) by omega) ?_
        exact ih11 (kA + 1) ((v11_1 * 31) + x25.toInt64) _ _ _ (by omega) (hlt_kA) w (lv_sub hl [0, 1, 2] rfl)
  refine W.widen (k := 2 * 0) (n := 24 * 0) (show 0 ≤ 2 * 0 by omega) (show 0 ≤ 24 * 0 by omega) ?_
  exact L11 _ 0 58269 _ _ _ (Nat.lt_succ_self _) (Nat.zero_le _) w (lv_sub hl [0, 1, 2] rfl)

