theorem seT_261 {A : HS} {nr g j : Nat} : mI (seT A nr g j) 261 0 = mI A 261 0 + 1 := by
  unfold seT
  rw [enA_I (by decide), goS_I]
  exact (sI_s (S := sI (sI (sI A 247 j 1) 251 j (nI g)) 252 j (mI A 261 0)) (f := 261) (i := 0) (x := mI A 261 0 + 1))
theorem seT_o {A : HS} {nr g j f : Nat} (h1 : ¬ f = 253) (h2 : ¬ f = 247) (h3 : ¬ f = 251) (h4 : ¬ f = 252) (h5 : ¬ f = 261) (h6 : ¬ f = 258) (i : Nat) : mI (seT A nr g j) f i = mI A f i := by
  unfold seT
  rw [enA_I h1, goS_I]
  unfold seT0
  exact (up2_n (fun y => h6 y.1)).trans ((up2_n (fun y => h5 y.1)).trans ((up2_n (fun y => h4 y.1)).trans ((up2_n (fun y => h3 y.1)).trans (up2_n (fun y => h2 y.1)))))
/-- Q is A, but for what is sent in Q -/
def GH (A Q : HS) (ns nm nt : Nat) : Prop := (∀ j, mI Q 241 j = mI A 241 j) ∧ (∀ j, mI Q 243 j = mI A 243 j) ∧ (∀ j, mI Q 244 j = mI A 244 j) ∧ (∀ j, mI Q 248 j = mI A 248 j) ∧ AOK Q ns nm nt ∧ AQ2 Q nt
theorem GH.rf {A : HS} {ns nm nt : Nat} {w9 : Int32} (h : AOK A ns nm nt) (q : AQ2 A nt) : GH A (sI A 258 0 w9) ns nm nt := ⟨fun _ => rfl, fun _ => rfl, fun _ => rfl, fun _ => rfl, h, q⟩
theorem GH.send {A Q : HS} {ns nm nt nr g k : Nat} (h : GH A Q ns nm nt) (hk : k < nt) (hz : mI Q 247 k = 0) : GH A (seT Q nr g k) ns nm nt := by
  have e8 := seT_o (A := Q) (nr := nr) (g := g) (j := k) (f := 248) (by decide) (by decide) (by decide) (by decide) (by decide) (by decide)
  have e0 := seT_o (A := Q) (nr := nr) (g := g) (j := k) (f := 250) (by decide) (by decide) (by decide) (by decide) (by decide) (by decide)
  have e1 := seT_o (A := Q) (nr := nr) (g := g) (j := k) (f := 241) (by decide) (by decide) (by decide) (by decide) (by decide) (by decide)
  have e3 := seT_o (A := Q) (nr := nr) (g := g) (j := k) (f := 243) (by decide) (by decide) (by decide) (by decide) (by decide) (by decide)
  have e4 := seT_o (A := Q) (nr := nr) (g := g) (j := k) (f := 244) (by decide) (by decide) (by decide) (by decide) (by decide) (by decide)
  obtain ⟨h1, h2, h3, h4, h5, h6⟩ := h
  refine ⟨fun j => (e1 j).trans (h1 j), fun j => (e3 j).trans (h2 j), fun j => (e4 j).trans (h3 j), fun j => (e8 j).trans (h4 j), AOK.pic h5 km_seT (fun j hj => ?_), fun j hj z => ?_⟩
  · rw [seT_247, e8, e0]
    by_cases c : j = k
    · rw [if_pos c]
      exact Or.inr ((h5.2.2.2 j hj).resolve_left (fun z => by rw [c, hz] at z; exact absurd z (by decide)))
    · rw [if_neg c]; exact h5.2.2.2 j hj
  · rw [seT_247] at z
    by_cases c : j = k
    · rw [if_pos c] at z; exact absurd z (by decide)
    · rw [if_neg c] at z; rw [e4]; exact h6 j hj z
/-- what the class has not come to is in Q as in A -/
def UN (A Q : HS) (nt kw k : Nat) : Prop := ∀ j, j < nt → ∀ w, w ≤ 9 → mI A 244 j = nI w → ¬ (kw < w ∨ (w = kw ∧ j < k)) → mI Q 247 j = mI A 247 j
theorem UN.step {A Q : HS} {nt kw k : Nat} (h : UN A Q nt kw k) : UN A Q nt kw (k + 1) := fun j hj w hw ew c => h j hj w hw ew (fun z => c (z.imp id (fun y => ⟨y.1, by omega⟩)))
theorem UN.send {A Q : HS} {nt nr g kw k : Nat} (h : UN A Q nt kw k) (hkw : kw ≤ 9) (e : mI A 244 k = nI kw) : UN A (seT Q nr g k) nt kw (k + 1) := fun j hj w hw ew c => by
  rw [seT_247]
  by_cases d : j = k
  · exfalso
    rw [d, e] at ew
    have := (nI_eq (by omega) (by omega)).mp ew
    exact c (Or.inr ⟨this.symm, by omega⟩)
  · rw [if_neg d]; exact h j hj w hw ew (fun z => c (z.imp id (fun y => ⟨y.1, by omega⟩)))
theorem UN.out {A Q : HS} {nt kw k : Nat} (h : UN A Q nt kw k) (hk : nt ≤ k) (h1 : 1 ≤ kw) : UN A Q nt (kw - 1) 0 := fun j hj w hw ew c => h j hj w hw ew (fun z => c (by omega))
theorem acl9 (a b : Int32) : a + b - a = b := by rw [Int32.add_comm]; exact Int32.add_sub_cancel _ _
/-- how many would be sent, with so many words -/
def wsW (A : HS) (nt nr g : Nat) (w : Int32) : Int32 := mI (seL (sI A 258 0 w) nt nr g (nt + 1)) 261 0 - mI A 261 0
def wsN (A : HS) (nt nr g : Nat) : Int32 := wsW A nt nr g (mI A 258 0 - 10 * nI (coN A))

abbrev rm_a_X4_sendReports_v : Room := { frames := 3, cells := 0, slots := 0, locals := 64 }
set_option maxHeartbeats 4000000 in
set_option maxRecDepth 100000 in
theorem a_X4_sendReports_v {s0 : State} {l : Launch} {D : va_G} {cy : Nat → ClassId} (G : Gl s0 l D cy) (S : HS) (ea ns nj nm nt nr nc : Nat) (h : CI ea S ns nj nm nt nr nc) (A : HS) (hA : RK S A ns nj nm nt nr nc) (g : Nat) (hg : g ≤ 720) (w0 : Int32) : Ctr s0 l D cy yX4_sendReports cX4_sendReports 11 (some .int) rm_a_X4_sendReports_v S [.ref (gG S 4 0), .int (nI g), .int w0, .int 0] (PU S (some (.int (wsW A nt nr g w0)))) := by
  refine pro "CavershamShift$Newsroom" G rfl rfl (Nat.le_of_ble_eq_true rfl) (fun p e s m below meth c ls X w hnm hl => ?_)
  have hx := X.1
  have hb := X.2.1
  have hown := X.2.2.2.1
  have hts := X.2.2.2.2.1
  have hl : lv_has ls 11 [(0, .ref (gG S 4 0)), (1, .int (nI g)), (2, .int w0), (3, .int 0)] := hl
  refine lv_iload_n hx hb dX4_sendReports_0 rfl (lv_at hl 2 rfl) ?_
  refine lv_istore (lv' := [(4, .int w0), (0, .ref (gG S 4 0)), (1, .int (nI g)), (2, .int w0), (3, .int 0)]) hx hb dX4_sendReports_1 hl (by decide) rfl (fun ls hl => ?_)
  refine lv_iconst (v := 0) hx hb dX4_sendReports_3 (by decide) ?_
  refine lv_istore (lv' := [(5, .int 0), (4, .int w0), (0, .ref (gG S 4 0)), (1, .int (nI g)), (2, .int w0), (3, .int 0)]) hx hb dX4_sendReports_4 hl (by decide) rfl (fun ls hl => ?_)
  refine lv_bipush (v := 9) hx hb dX4_sendReports_6 (by decide) ?_
  refine lv_istore (lv' := [(6, .int 9), (5, .int 0), (4, .int w0), (0, .ref (gG S 4 0)), (1, .int (nI g)), (2, .int w0), (3, .int 0)]) hx hb dX4_sendReports_8 hl (by decide) rfl (fun ls hl => ?_)
  have L10 : ∀ (N : Nat) (kw : Nat) (P : HS) (u4 : Int32) (u5 : Int32) (H : Heap) (locs : List Loc) (ls : Array Slot), kw < N → (kw ≤ 9) → (u4 = mI P 258 0) → (mI A 261 0 + u5 = mI P 261 0) → (GH A P ns nm nt) → (UN A P nt kw 0) → (SeQ (sI A 258 0 w0) P nt nr g) → (∀ j, j < nt → ∀ w, w ≤ 9 → kw < w → mI P 244 j = nI w → nxP P g (mI P 258 0) j = false) → Wd s0 D cy S s.heap H locs → lv_has ls 11 [(0, .ref (gG S 4 0)), (1, .int (nI g)), (2, .int w0), (3, .int 0), (4, .int u4), (5, .int u5), (6, .int (nI kw))] → W p l e rm_a_X4_sendReports_v s m ([.ref (gG S 4 0), .int (nI g), .int w0, .int 0] : List Value).toArray below meth c H locs 0 0 (MQ below (GQ s0 D cy (PU S (some (.int (wsW A nt nr g w0))))) ([.ref (gG S 4 0), .int (nI g), .int w0, .int 0] : List Value).toArray s rm_a_X4_sendReports_v.cells rm_a_X4_sendReports_v.slots (A0 s0)) (F0 m 10 ls []) := by
    intro N
    induction N with
    | zero => intros; omega
    | succ N ih10 =>
      intro kw P u4 u5 H locs ls hmu hkw hw4 hv5 hgh hun hQ hdo w hl
      refine lv_iload hx hb dX4_sendReports_10 (lv_at hl 6 rfl) ?_
      refine lv_iconst (v := 3) hx hb dX4_sendReports_12 (by decide) ?_
      refine lv_icmp_lt (tgt := 149) hx hb dX4_sendReports_13 (by decide) (fun hcw => ?_) (fun hcw => ?_)
      · have hw3 : kw < 3 := (nI_ltI (a := kw) (b := 3) (by omega) (by decide)).mp hcw
        refine lv_iload hx hb dX4_sendReports_149 (lv_at hl 5 rfl) ?_
        exact rI X w rfl dX4_sendReports_151 (by decide) (by decide) (pu_i (by unfold wsW; rw [hQ.fin hgh.2.2.2.2.1 hgh.2.2.2.2.2 hw3 hdo, ← hv5]; exact acl9 _ _))
      · have hw3 : 3 ≤ kw := Nat.le_of_not_lt (fun z => hcw ((nI_ltI (a := kw) (b := 3) (by omega) (by decide)).mpr z))
        refine lv_iconst (v := 0) hx hb dX4_sendReports_16 (by decide) ?_
        refine lv_istore (lv' := [(7, .int 0), (0, .ref (gG S 4 0)), (1, .int (nI g)), (2, .int w0), (3, .int 0), (4, .int u4), (5, .int u5), (6, .int (nI kw))]) hx hb dX4_sendReports_17 hl (by decide) rfl (fun ls hl => ?_)
        have L19 : ∀ (N : Nat) (k19 : Nat) (Q : HS) (v4 : Int32) (v5 : Int32) (H : Heap) (locs : List Loc) (ls : Array Slot), nt - k19 < N → (k19 ≤ nt) → (v4 = mI Q 258 0) → (mI A 261 0 + v5 = mI Q 261 0) → (GH A Q ns nm nt) → (UN A Q nt kw k19) → (SeQ (sI A 258 0 w0) Q nt nr g) → (∀ j, j < nt → ∀ w, w ≤ 9 → mI Q 244 j = nI w → (kw < w ∨ (w = kw ∧ j < k19)) → nxP Q g (mI Q 258 0) j = false) → Wd s0 D cy S s.heap H locs → lv_has ls 11 [(0, .ref (gG S 4 0)), (1, .int (nI g)), (2, .int w0), (3, .int 0), (4, .int v4), (5, .int v5), (6, .int (nI kw)), (7, .int (nI k19))] → W p l e rm_a_X4_sendReports_v s m ([.ref (gG S 4 0), .int (nI g), .int w0, .int 0] : List Value).toArray below meth c H locs 0 0 (MQ below (GQ s0 D cy (PU S (some (.int (wsW A nt nr g w0))))) ([.ref (gG S 4 0), .int (nI g), .int w0, .int 0] : List Value).toArray s rm_a_X4_sendReports_v.cells rm_a_X4_sendReports_v.slots (A0 s0)) (F0 m 19 ls []) := by
          intro N
          induction N with
          | zero => intros; omega
          | succ N ih19 =>
            intro k19 Q v4 v5 H locs ls hmu hk hw4 hv5 hgh hun hQ hdq w hl
            refine lv_iload hx hb dX4_sendReports_19 (lv_at hl 7 rfl) ?_
            refine lv_aload_n hx hb dX4_sendReports_21 rfl (lv_at hl 0 rfl) ?_
            refine g_4_0 (S := S) (x := (some (gG S 17 3))) X w h.v4 wF_X4_12 (h.f64) dX4_sendReports_22 ?_
            refine cV (S := S) (nA := 0) (As := []) (rest := [.int (nI k19)]) X w hl h.l_ta.1 (m_size G S ea 3 nt h.l_ta) wY_Jx4a65c_size_8abf5 wM_X4_28 wIn_Jx4a65c_size_8abf5 wSe_Jx4a65c_Jx4a65c_size_8abf5 wI_Jx4a65c (by decide) rfl (by decide +kernel) rfl rfl dX4_sendReports_25 ⟨by decide, by decide⟩ (Nat.le_of_ble_eq_true rfl) (⟨Nat.le_of_ble_eq_true rfl, Nat.le_of_ble_eq_true rfl⟩) (fun v1 S1 H locs hp w => ?_)
            obtain ⟨rfl, rfl⟩ := hp
            refine lv_icmp_ge (tgt := 143) hx hb dX4_sendReports_28 (by decide) (fun hsz => ?_) (fun hsz => ?_)
            · have hge : nt ≤ k19 := by
                have hb1 := h.b_ta
                exact (nI_leI (by omega) (by omega)).mp hsz
              refine lv_iinc (v := nI (kw - 1)) (lv' := [(6, .int (nI (kw - 1))), (0, .ref (gG S 4 0)), (1, .int (nI g)), (2, .int w0), (3, .int 0), (4, .int v4), (5, .int v5), (7, .int (nI k19))]) hx hb dX4_sendReports_143 hl (k := 6) rfl (by rw [show kw = (kw - 1) + 1 by omega]; exact pk_m1 _) (by decide) rfl (fun ls hl => ?_)
              refine lv_goto (tgt := 10) hx hb dX4_sendReports_146 (by decide) ?_
              exact ih10 (kw - 1) Q v4 v5 _ _ _ (by omega) (by omega) (hw4) (hv5) (hgh) (hun.out hge (by omega)) (hQ) (dq_out hge (by omega) hdq) w (lv_sub hl [1, 2, 3, 4, 5, 6, 0] rfl)
            · have hlt : k19 < nt := by
                have hb1 := h.b_ta
                exact Nat.lt_of_not_le (fun z => hsz ((nI_leI (by omega) (by omega)).mpr z))
              refine lv_aload_n hx hb dX4_sendReports_31 rfl (lv_at hl 0 rfl) ?_
              refine g_4_0 (S := S) (x := (some (gG S 17 3))) X w h.v4 wF_X4_12 (h.f64) dX4_sendReports_32 ?_
              refine lv_iload hx hb dX4_sendReports_35 (lv_at hl 7 rfl) ?_
              refine cV (S := S) (nA := 1) (As := [.int (nI k19)]) (rest := []) X w hl h.l_ta.1 (m_get G S ea 3 k19 nt (some (gG S 9 k19)) h.l_ta hlt (h.e_ta k19 hlt).1) wY_Jx4a65c_get_915e3 wM_X4_36 wIn_Jx4a65c_get_915e3 wSe_Jx4a65c_Jx4a65c_get_915e3 wI_Jx4a65c (by decide) rfl (by decide +kernel) rfl rfl dX4_sendReports_37 ⟨by decide, by decide⟩ (Nat.le_of_ble_eq_true rfl) (⟨Nat.le_of_ble_eq_true rfl, Nat.le_of_ble_eq_true rfl⟩) (fun v2 S1 H locs hp w => ?_)
              obtain ⟨rfl, rfl⟩ := hp
              refine ckC (S := S) (t := 9) X w (h.e_ta k19 hlt).2 (by decide) rfl wC_X4_40 dX4_sendReports_40 ?_
              refine lv_astore (lv' := [(8, .ref (gG S 9 k19)), (0, .ref (gG S 4 0)), (1, .int (nI g)), (2, .int w0), (3, .int 0), (4, .int v4), (5, .int v5), (6, .int (nI kw)), (7, .int (nI k19))]) hx hb dX4_sendReports_43 hl (by decide) rfl (fun ls hl => ?_)
              refine lv_aload hx hb dX4_sendReports_45 (lv_at hl 0 rfl) ?_
              refine g_9_5 (S := S) (x := (mI A 244 k19)) X w (h.e_ta k19 hlt).2 wF_X4_89 ((hA.rc.2.2.2.1 k19 hlt).2.2.2.2.1) dX4_sendReports_47 ?_
              refine lv_iload hx hb dX4_sendReports_50 (lv_at hl 7 rfl) ?_
              refine lv_icmp_ne (tgt := 68) hx hb dX4_sendReports_52 (by decide) (fun hwq => ?_) (fun hwq => ?_)
              · refine lv_iconst (v := 0) hx hb dX4_sendReports_68 (by decide) ?_
                refine lv_istore (lv' := [(9, .int 0), (8, .ref (gG S 9 k19)), (0, .ref (gG S 4 0)), (1, .int (nI g)), (2, .int w0), (3, .int 0), (4, .int v4), (5, .int v5), (6, .int (nI kw)), (7, .int (nI k19))]) hx hb dX4_sendReports_69 hl (by decide) rfl (fun ls hl => ?_)
                refine lv_iload hx hb dX4_sendReports_71 (lv_at hl 0 rfl) ?_
                refine lv_if_eq (tgt := 93) hx hb dX4_sendReports_73 (by decide) (fun hc3 => ?_) (fun hc3 => ?_)
                · refine lv_null hx hb dX4_sendReports_93 ?_
                  refine lv_astoreN (lv' := [(10, .null), (9, .int 0), (8, .ref (gG S 9 k19)), (0, .ref (gG S 4 0)), (1, .int (nI g)), (2, .int w0), (3, .int 0), (4, .int v4), (5, .int v5), (6, .int (nI kw)), (7, .int (nI k19))]) hx hb dX4_sendReports_94 hl (by decide) rfl (fun ls hl => ?_)
                  refine lv_aloadN hx hb dX4_sendReports_96 (lv_at hl 0 rfl) ?_
                  refine lv_ifnullN (tgt := 137) hx hb dX4_sendReports_98 (by decide) ?_
                  refine lv_iinc (v := nI (k19 + 1)) (lv' := [(7, .int (nI (k19 + 1))), (10, .null), (9, .int 0), (8, .ref (gG S 9 k19)), (0, .ref (gG S 4 0)), (1, .int (nI g)), (2, .int w0), (3, .int 0), (4, .int v4), (5, .int v5), (6, .int (nI kw))]) hx hb dX4_sendReports_137 hl (k := 10) rfl (nI_1 _) (by decide) rfl (fun ls hl => ?_)
                  refine lv_goto (tgt := 19) hx hb dX4_sendReports_140 (by decide) ?_
                  have hdq : ∀ j, j < nt → ∀ w, w ≤ 9 → mI Q 244 j = nI w → (kw < w ∨ (w = kw ∧ j < k19 + 1)) → nxP Q g (mI Q 258 0) j = false := dq_step hdq (fun e => by first | exact absurd ((hgh.2.2.1 k19).symm.trans e) hwq | exact nx_f0 (fun z => of_decide_eq_false (b2i_f hnx) ((hun k19 hlt kw hkw ((hgh.2.2.1 k19).symm.trans e) (by omega)).symm.trans z)) | exact nx_f2 ((hun k19 hlt kw hkw ((hgh.2.2.1 k19).symm.trans e) (by omega)).trans (of_decide_eq_true (b2i_t hnx))) (by rw [hgh.1]; exact b2i_t hol) | exact nx_f3 (by rw [← hw4, hgh.2.2.1, hgh.2.1, hgh.2.2.2.1]; first | exact Int32.not_le.mp hlen | exact hlen) | exact nx_f0 (fun z => absurd ((by assumption : mI A 247 k19 = -1).symm.trans ((hun k19 hlt kw hkw ((hgh.2.2.1 k19).symm.trans e) (by omega)).symm.trans z)) (by decide)))
                  have hun := hun.step
                  exact ih19 (k19 + 1) Q v4 v5 _ _ _ (by omega) (by omega) (hw4) (hv5) (hgh) (hun) (hQ) (hdq) w (lv_sub hl [4, 5, 6, 7, 8, 9, 10, 0] rfl)
                · exact absurd hc3 (by decide)
              · refine lv_aload hx hb dX4_sendReports_55 (lv_at hl 0 rfl) ?_
                refine lv_iconst (v := 0) hx hb dX4_sendReports_57 (by decide) ?_
                refine cV (S := S) (nA := 1) (As := [.int 0]) (rest := []) X w hl (h.e_ta k19 hlt).2 (a_X9_hasReportThatStands G S ea ns nj nm nt nr nc h A hA k19 hlt 0 (by decide)) wY_X9_hasReportThatStands wM_X4_92 wIn_X9_hasReportThatStands wSe_X9_X9_hasReportThatStands wI_X9 (by decide) rfl (by decide +kernel) rfl rfl dX4_sendReports_58 ⟨by decide, by decide⟩ (Nat.le_of_ble_eq_true rfl) (⟨Nat.le_of_ble_eq_true rfl, Nat.le_of_ble_eq_true rfl⟩) (fun v4 S1 H locs hp w => ?_)
                obtain ⟨rfl, rfl⟩ := hp
                refine lv_if_eq (tgt := 68) hx hb dX4_sendReports_61 (by decide) (fun hnx => ?_) (fun hnx => ?_)
                · refine lv_iconst (v := 0) hx hb dX4_sendReports_68 (by decide) ?_
                  refine lv_istore (lv' := [(9, .int 0), (8, .ref (gG S 9 k19)), (0, .ref (gG S 4 0)), (1, .int (nI g)), (2, .int w0), (3, .int 0), (4, .int v4), (5, .int v5), (6, .int (nI kw)), (7, .int (nI k19))]) hx hb dX4_sendReports_69 hl (by decide) rfl (fun ls hl => ?_)
                  refine lv_iload hx hb dX4_sendReports_71 (lv_at hl 0 rfl) ?_
                  refine lv_if_eq (tgt := 93) hx hb dX4_sendReports_73 (by decide) (fun hc5 => ?_) (fun hc5 => ?_)
                  · refine lv_null hx hb dX4_sendReports_93 ?_
                    refine lv_astoreN (lv' := [(10, .null), (9, .int 0), (8, .ref (gG S 9 k19)), (0, .ref (gG S 4 0)), (1, .int (nI g)), (2, .int w0), (3, .int 0), (4, .int v4), (5, .int v5), (6, .int (nI kw)), (7, .int (nI k19))]) hx hb dX4_sendReports_94 hl (by decide) rfl (fun ls hl => ?_)
                    refine lv_aloadN hx hb dX4_sendReports_96 (lv_at hl 0 rfl) ?_
                    refine lv_ifnullN (tgt := 137) hx hb dX4_sendReports_98 (by decide) ?_
                    refine lv_iinc (v := nI (k19 + 1)) (lv' := [(7, .int (nI (k19 + 1))), (10, .null), (9, .int 0), (8, .ref (gG S 9 k19)), (0, .ref (gG S 4 0)), (1, .int (nI g)), (2, .int w0), (3, .int 0), (4, .int v4), (5, .int v5), (6, .int (nI kw))]) hx hb dX4_sendReports_137 hl (k := 10) rfl (nI_1 _) (by decide) rfl (fun ls hl => ?_)
                    refine lv_goto (tgt := 19) hx hb dX4_sendReports_140 (by decide) ?_
                    have hdq : ∀ j, j < nt → ∀ w, w ≤ 9 → mI Q 244 j = nI w → (kw < w ∨ (w = kw ∧ j < k19 + 1)) → nxP Q g (mI Q 258 0) j = false := dq_step hdq (fun e => by first | exact absurd ((hgh.2.2.1 k19).symm.trans e) hwq | exact nx_f0 (fun z => of_decide_eq_false (b2i_f hnx) ((hun k19 hlt kw hkw ((hgh.2.2.1 k19).symm.trans e) (by omega)).symm.trans z)) | exact nx_f2 ((hun k19 hlt kw hkw ((hgh.2.2.1 k19).symm.trans e) (by omega)).trans (of_decide_eq_true (b2i_t hnx))) (by rw [hgh.1]; exact b2i_t hol) | exact nx_f3 (by rw [← hw4, hgh.2.2.1, hgh.2.1, hgh.2.2.2.1]; first | exact Int32.not_le.mp hlen | exact hlen) | exact nx_f0 (fun z => absurd ((by assumption : mI A 247 k19 = -1).symm.trans ((hun k19 hlt kw hkw ((hgh.2.2.1 k19).symm.trans e) (by omega)).symm.trans z)) (by decide)))
                    have hun := hun.step
                    exact ih19 (k19 + 1) Q v4 v5 _ _ _ (by omega) (by omega) (hw4) (hv5) (hgh) (hun) (hQ) (hdq) w (lv_sub hl [4, 5, 6, 7, 8, 9, 10, 0] rfl)
                  · exact absurd hc5 (by decide)
                · refine lv_iconst (v := 1) hx hb dX4_sendReports_64 (by decide) ?_
                  refine lv_goto (tgt := 69) hx hb dX4_sendReports_65 (by decide) ?_
                  refine lv_istore (lv' := [(9, .int 1), (8, .ref (gG S 9 k19)), (0, .ref (gG S 4 0)), (1, .int (nI g)), (2, .int w0), (3, .int 0), (4, .int v4), (5, .int v5), (6, .int (nI kw)), (7, .int (nI k19))]) hx hb dX4_sendReports_69 hl (by decide) rfl (fun ls hl => ?_)
                  refine lv_iload hx hb dX4_sendReports_71 (lv_at hl 0 rfl) ?_
                  refine lv_if_eq (tgt := 93) hx hb dX4_sendReports_73 (by decide) (fun hc6 => ?_) (fun hc6 => ?_)
                  · exact absurd hc6 (by decide)
                  · refine lv_aload hx hb dX4_sendReports_76 (lv_at hl 1 rfl) ?_
                    refine lv_iload_n hx hb dX4_sendReports_78 rfl (lv_at hl 3 rfl) ?_
                    refine cS (S := S) (nA := 2) (As := [.ref (gG S 9 k19), .int (nI g)]) (rest := []) X w hl (a_X4_isTooOld G S ea ns nj nm nt nr nc h A hA k19 hlt g (by assumption)) wY_X4_isTooOld wM_X4_75 wSt_X4_isTooOld wI_X4 (by decide +kernel) rfl rfl dX4_sendReports_79 ⟨by decide, by decide⟩ (Nat.le_of_ble_eq_true rfl) (⟨Nat.le_of_ble_eq_true rfl, Nat.le_of_ble_eq_true rfl⟩) (fun v7 S1 H locs hp w => ?_)
                    obtain ⟨rfl, rfl⟩ := hp
                    refine lv_if_ne (tgt := 93) hx hb dX4_sendReports_82 (by decide) (fun hol => ?_) (fun hol => ?_)
                    · refine lv_null hx hb dX4_sendReports_93 ?_
                      refine lv_astoreN (lv' := [(10, .null), (9, .int 1), (8, .ref (gG S 9 k19)), (0, .ref (gG S 4 0)), (1, .int (nI g)), (2, .int w0), (3, .int 0), (4, .int v4), (5, .int v5), (6, .int (nI kw)), (7, .int (nI k19))]) hx hb dX4_sendReports_94 hl (by decide) rfl (fun ls hl => ?_)
                      refine lv_aloadN hx hb dX4_sendReports_96 (lv_at hl 0 rfl) ?_
                      refine lv_ifnullN (tgt := 137) hx hb dX4_sendReports_98 (by decide) ?_
                      refine lv_iinc (v := nI (k19 + 1)) (lv' := [(7, .int (nI (k19 + 1))), (10, .null), (9, .int 1), (8, .ref (gG S 9 k19)), (0, .ref (gG S 4 0)), (1, .int (nI g)), (2, .int w0), (3, .int 0), (4, .int v4), (5, .int v5), (6, .int (nI kw))]) hx hb dX4_sendReports_137 hl (k := 10) rfl (nI_1 _) (by decide) rfl (fun ls hl => ?_)
                      refine lv_goto (tgt := 19) hx hb dX4_sendReports_140 (by decide) ?_
                      have hdq : ∀ j, j < nt → ∀ w, w ≤ 9 → mI Q 244 j = nI w → (kw < w ∨ (w = kw ∧ j < k19 + 1)) → nxP Q g (mI Q 258 0) j = false := dq_step hdq (fun e => by first | exact absurd ((hgh.2.2.1 k19).symm.trans e) hwq | exact nx_f0 (fun z => of_decide_eq_false (b2i_f hnx) ((hun k19 hlt kw hkw ((hgh.2.2.1 k19).symm.trans e) (by omega)).symm.trans z)) | exact nx_f2 ((hun k19 hlt kw hkw ((hgh.2.2.1 k19).symm.trans e) (by omega)).trans (of_decide_eq_true (b2i_t hnx))) (by rw [hgh.1]; exact b2i_t hol) | exact nx_f3 (by rw [← hw4, hgh.2.2.1, hgh.2.1, hgh.2.2.2.1]; first | exact Int32.not_le.mp hlen | exact hlen) | exact nx_f0 (fun z => absurd ((by assumption : mI A 247 k19 = -1).symm.trans ((hun k19 hlt kw hkw ((hgh.2.2.1 k19).symm.trans e) (by omega)).symm.trans z)) (by decide)))
                      have hun := hun.step
                      exact ih19 (k19 + 1) Q v4 v5 _ _ _ (by omega) (by omega) (hw4) (hv5) (hgh) (hun) (hQ) (hdq) w (lv_sub hl [4, 5, 6, 7, 8, 9, 10, 0] rfl)
                    · refine lv_aload hx hb dX4_sendReports_85 (lv_at hl 1 rfl) ?_
                      rcases hA.rp k19 hlt with ⟨her8, hur8, hzr8, hwr8, hsr8⟩ | ⟨her8, hvr8, hur8, hwr8⟩
                      · refine g_9_8 (S := S) (x := none) X w (h.e_ta k19 hlt).2 wF_X4_71 (her8) dX4_sendReports_87 ?_
                        refine lv_goto (tgt := 94) hx hb dX4_sendReports_90 (by decide) ?_
                        refine lv_astoreN (lv' := [(10, .null), (9, .int 1), (8, .ref (gG S 9 k19)), (0, .ref (gG S 4 0)), (1, .int (nI g)), (2, .int w0), (3, .int 0), (4, .int v4), (5, .int v5), (6, .int (nI kw)), (7, .int (nI k19))]) hx hb dX4_sendReports_94 hl (by decide) rfl (fun ls hl => ?_)
                        refine lv_aloadN hx hb dX4_sendReports_96 (lv_at hl 0 rfl) ?_
                        refine lv_ifnullN (tgt := 137) hx hb dX4_sendReports_98 (by decide) ?_
                        refine lv_iinc (v := nI (k19 + 1)) (lv' := [(7, .int (nI (k19 + 1))), (10, .null), (9, .int 1), (8, .ref (gG S 9 k19)), (0, .ref (gG S 4 0)), (1, .int (nI g)), (2, .int w0), (3, .int 0), (4, .int v4), (5, .int v5), (6, .int (nI kw))]) hx hb dX4_sendReports_137 hl (k := 10) rfl (nI_1 _) (by decide) rfl (fun ls hl => ?_)
                        refine lv_goto (tgt := 19) hx hb dX4_sendReports_140 (by decide) ?_
                        have hdq : ∀ j, j < nt → ∀ w, w ≤ 9 → mI Q 244 j = nI w → (kw < w ∨ (w = kw ∧ j < k19 + 1)) → nxP Q g (mI Q 258 0) j = false := dq_step hdq (fun e => by first | exact absurd ((hgh.2.2.1 k19).symm.trans e) hwq | exact nx_f0 (fun z => of_decide_eq_false (b2i_f hnx) ((hun k19 hlt kw hkw ((hgh.2.2.1 k19).symm.trans e) (by omega)).symm.trans z)) | exact nx_f2 ((hun k19 hlt kw hkw ((hgh.2.2.1 k19).symm.trans e) (by omega)).trans (of_decide_eq_true (b2i_t hnx))) (by rw [hgh.1]; exact b2i_t hol) | exact nx_f3 (by rw [← hw4, hgh.2.2.1, hgh.2.1, hgh.2.2.2.1]; first | exact Int32.not_le.mp hlen | exact hlen) | exact nx_f0 (fun z => absurd ((by assumption : mI A 247 k19 = -1).symm.trans ((hun k19 hlt kw hkw ((hgh.2.2.1 k19).symm.trans e) (by omega)).symm.trans z)) (by decide)))
                        have hun := hun.step
                        exact ih19 (k19 + 1) Q v4 v5 _ _ _ (by omega) (by omega) (hw4) (hv5) (hgh) (hun) (hQ) (hdq) w (lv_sub hl [4, 5, 6, 7, 8, 9, 10, 0] rfl)
                      · refine g_9_8 (S := S) (x := (some (gG S 6 k19))) X w (h.e_ta k19 hlt).2 wF_X4_71 (her8) dX4_sendReports_87 ?_
                        refine lv_goto (tgt := 94) hx hb dX4_sendReports_90 (by decide) ?_
                        refine lv_astore (lv' := [(10, .ref (gG S 6 k19)), (9, .int 1), (8, .ref (gG S 9 k19)), (0, .ref (gG S 4 0)), (1, .int (nI g)), (2, .int w0), (3, .int 0), (4, .int v4), (5, .int v5), (6, .int (nI kw)), (7, .int (nI k19))]) hx hb dX4_sendReports_94 hl (by decide) rfl (fun ls hl => ?_)
                        refine lv_aload hx hb dX4_sendReports_96 (lv_at hl 0 rfl) ?_
                        refine lv_ifnull hx hb dX4_sendReports_98 ?_
                        refine lv_aload hx hb dX4_sendReports_101 (lv_at hl 0 rfl) ?_
                        refine g_6_1 (S := S) (x := (rLen (mI A 244 k19) (mI A 243 k19) (mI A 248 k19))) X w hvr8 wF_X4_96 ((hwr8).2.1) dX4_sendReports_103 ?_
                        refine lv_iload hx hb dX4_sendReports_106 (lv_at hl 7 rfl) ?_
                        refine lv_icmp_gt (tgt := 137) hx hb dX4_sendReports_108 (by decide) (fun hlen => ?_) (fun hlen => ?_)
                        · refine lv_iinc (v := nI (k19 + 1)) (lv' := [(7, .int (nI (k19 + 1))), (10, .ref (gG S 6 k19)), (9, .int 1), (8, .ref (gG S 9 k19)), (0, .ref (gG S 4 0)), (1, .int (nI g)), (2, .int w0), (3, .int 0), (4, .int v4), (5, .int v5), (6, .int (nI kw))]) hx hb dX4_sendReports_137 hl (k := 10) rfl (nI_1 _) (by decide) rfl (fun ls hl => ?_)
                          refine lv_goto (tgt := 19) hx hb dX4_sendReports_140 (by decide) ?_
                          have hdq : ∀ j, j < nt → ∀ w, w ≤ 9 → mI Q 244 j = nI w → (kw < w ∨ (w = kw ∧ j < k19 + 1)) → nxP Q g (mI Q 258 0) j = false := dq_step hdq (fun e => by first | exact absurd ((hgh.2.2.1 k19).symm.trans e) hwq | exact nx_f0 (fun z => of_decide_eq_false (b2i_f hnx) ((hun k19 hlt kw hkw ((hgh.2.2.1 k19).symm.trans e) (by omega)).symm.trans z)) | exact nx_f2 ((hun k19 hlt kw hkw ((hgh.2.2.1 k19).symm.trans e) (by omega)).trans (of_decide_eq_true (b2i_t hnx))) (by rw [hgh.1]; exact b2i_t hol) | exact nx_f3 (by rw [← hw4, hgh.2.2.1, hgh.2.1, hgh.2.2.2.1]; first | exact Int32.not_le.mp hlen | exact hlen) | exact nx_f0 (fun z => absurd ((by assumption : mI A 247 k19 = -1).symm.trans ((hun k19 hlt kw hkw ((hgh.2.2.1 k19).symm.trans e) (by omega)).symm.trans z)) (by decide)))
                          have hun := hun.step
                          exact ih19 (k19 + 1) Q v4 v5 _ _ _ (by omega) (by omega) (hw4) (hv5) (hgh) (hun) (hQ) (hdq) w (lv_sub hl [4, 5, 6, 7, 8, 9, 10, 0] rfl)
                        · refine lv_iload hx hb dX4_sendReports_111 (lv_at hl 7 rfl) ?_
                          refine lv_aload hx hb dX4_sendReports_113 (lv_at hl 0 rfl) ?_
                          refine g_6_1 (S := S) (x := (rLen (mI A 244 k19) (mI A 243 k19) (mI A 248 k19))) X w hvr8 wF_X4_96 ((hwr8).2.1) dX4_sendReports_115 ?_
                          refine lv_isub hx hb dX4_sendReports_118 ?_
                          refine lv_istore (lv' := [(4, .int (v4 - (rLen (mI A 244 k19) (mI A 243 k19) (mI A 248 k19)))), (10, .ref (gG S 6 k19)), (9, .int 1), (8, .ref (gG S 9 k19)), (0, .ref (gG S 4 0)), (1, .int (nI g)), (2, .int w0), (3, .int 0), (5, .int v5), (6, .int (nI kw)), (7, .int (nI k19))]) hx hb dX4_sendReports_119 hl (by decide) rfl (fun ls hl => ?_)
                          refine lv_iinc (v := (v5 + 1)) (lv' := [(5, .int (v5 + 1)), (4, .int (v4 - (rLen (mI A 244 k19) (mI A 243 k19) (mI A 248 k19)))), (10, .ref (gG S 6 k19)), (9, .int 1), (8, .ref (gG S 9 k19)), (0, .ref (gG S 4 0)), (1, .int (nI g)), (2, .int w0), (3, .int 0), (6, .int (nI kw)), (7, .int (nI k19))]) hx hb dX4_sendReports_121 hl (k := 8) rfl (rfl) (by decide) rfl (fun ls hl => ?_)
                          refine lv_iload_n hx hb dX4_sendReports_124 rfl (lv_at hl 8 rfl) ?_
                          refine lv_if_eq (tgt := 137) hx hb dX4_sendReports_125 (by decide) (fun hc9 => ?_) (fun hc9 => ?_)
                          · refine lv_iinc (v := nI (k19 + 1)) (lv' := [(7, .int (nI (k19 + 1))), (5, .int (v5 + 1)), (4, .int (v4 - (rLen (mI A 244 k19) (mI A 243 k19) (mI A 248 k19)))), (10, .ref (gG S 6 k19)), (9, .int 1), (8, .ref (gG S 9 k19)), (0, .ref (gG S 4 0)), (1, .int (nI g)), (2, .int w0), (3, .int 0), (6, .int (nI kw))]) hx hb dX4_sendReports_137 hl (k := 10) rfl (nI_1 _) (by decide) rfl (fun ls hl => ?_)
                            refine lv_goto (tgt := 19) hx hb dX4_sendReports_140 (by decide) ?_
                            have hzq : mI Q 247 k19 = 0 := (hun k19 hlt kw hkw hwq (by omega)).trans (of_decide_eq_true (b2i_t hnx))
                            have hle9 : ¬ mI Q 258 0 < rLen (mI Q 244 k19) (mI Q 243 k19) (mI Q 248 k19) := by rw [← hw4, hgh.2.2.1, hgh.2.1, hgh.2.2.2.1]; first | exact hlen | exact Int32.not_lt.mpr (Int32.not_lt.mp hlen)
                            have hln9 : ¬ rLen (mI Q 244 k19) (mI Q 243 k19) (mI Q 248 k19) < 0 := by rw [hgh.2.2.1, hgh.2.1, hgh.2.2.2.1, ← (hwr8).2.1]; exact fun z => h.x_rl k19 hlt ⟨by rw [her8]; exact Option.some_ne_none _, z⟩
                            have hnp : nxP Q g (mI Q 258 0) k19 = true := nxP_t hzq (by rw [hgh.1]; exact b2i_f hol) hle9
                            have hQ : SeQ (sI A 258 0 w0) (seT Q nr g k19) nt nr g := hQ.send hgh.2.2.2.2.1 h.b_ta hlt ((hgh.2.2.1 k19).trans hwq) hkw hnp hdq
                            have hdq : ∀ j, j < nt → ∀ w, w ≤ 9 → mI (seT Q nr g k19) 244 j = nI w → (kw < w ∨ (w = kw ∧ j < k19 + 1)) → nxP (seT Q nr g k19) g (mI (seT Q nr g k19) 258 0) j = false := dq_send hln9 hle9 hdq
                            have hw4 : v4 - rLen (mI A 244 k19) (mI A 243 k19) (mI A 248 k19) = mI (seT Q nr g k19) 258 0 := by rw [seT_258, ← hw4, hgh.2.2.1, hgh.2.1, hgh.2.2.2.1]
                            have hv5 : mI A 261 0 + (v5 + 1) = mI (seT Q nr g k19) 261 0 := by rw [seT_261, ← hv5, Int32.add_assoc]
                            have hun : UN A (seT Q nr g k19) nt kw (k19 + 1) := hun.send hkw hwq
                            have hgh : GH A (seT Q nr g k19) ns nm nt := hgh.send hlt hzq
                            exact ih19 (k19 + 1) (seT Q nr g k19) (v4 - (rLen (mI A 244 k19) (mI A 243 k19) (mI A 248 k19))) (v5 + 1) _ _ _ (by omega) (by omega) (hw4) (hv5) (hgh) (hun) (hQ) (hdq) w (lv_sub hl [6, 7, 8, 9, 2, 1, 10, 0] rfl)
                          · exact absurd hc9 (by decide)
        exact L19 _ 0 P u4 u5 _ _ _ (Nat.lt_succ_self _) (by omega) (hw4) (hv5) (hgh) (hun) (hQ) (fun j hj w hw ew c => hdo j hj w hw (c.resolve_right (fun z => absurd z.2 (Nat.not_lt_zero j))) ew) w (lv_sub hl [1, 2, 3, 4, 5, 6, 7, 0] rfl)
  exact L10 _ 9 (sI A 258 0 w0) w0 0 _ _ _ (Nat.lt_succ_self _) (Nat.le_refl _) (rfl) (Int32.add_zero _) (GH.rf hA.ok hA.q2) (fun _ _ _ _ _ _ => rfl) (SeQ.rf) (fun j hj w hw c => absurd c (by omega)) w (lv_sub hl [3, 4, 5, 6, 2, 1, 0] rfl)

abbrev rm_a_X4_countToSend : Room := { frames := 4, cells := 0, slots := 0, locals := 94 }
set_option maxHeartbeats 4000000 in
set_option maxRecDepth 100000 in
theorem a_X4_countToSend {s0 : State} {l : Launch} {D : va_G} {cy : Nat → ClassId} (G : Gl s0 l D cy) (S : HS) (ea ns nj nm nt nr nc : Nat) (h : CI ea S ns nj nm nt nr nc) (A : HS) (hA : RK S A ns nj nm nt nr nc) (g : Nat) (hg : g ≤ 720) : Ctr s0 l D cy yX4_countToSend cX4_countToSend 2 (some .int) rm_a_X4_countToSend S [.ref (gG S 4 0), .int (nI g)] (PU S (some (.int (wsN A nt nr g)))) := by
  refine pro "CavershamShift$Newsroom" G rfl rfl (Nat.le_of_ble_eq_true rfl) (fun p e s m below meth c ls X w hnm hl => ?_)
  have hx := X.1
  have hb := X.2.1
  have hown := X.2.2.2.1
  have hts := X.2.2.2.2.1
  have hl : lv_has ls 2 [(0, .ref (gG S 4 0)), (1, .int (nI g))] := hl
  have hb9 := h.b_co
  obtain ⟨g5, hcs, hgq, hqu⟩ := hA.qu
  obtain ⟨w0, hw0, hwl⟩ := nI_of h.x_wl
  have hwA : mI A 258 0 = nI w0 := hA.wi.symm.trans hwl
  obtain ⟨hcq, hc10, hfit⟩ := coN_eq hw0 hwA
  refine lv_aload_n hx hb dX4_countToSend_0 rfl (lv_at hl 0 rfl) ?_
  refine lv_iload_n hx hb dX4_countToSend_1 rfl (lv_at hl 1 rfl) ?_
  refine lv_aload_n hx hb dX4_countToSend_2 rfl (lv_at hl 0 rfl) ?_
  refine g_4_5 (S := S) (x := (mI A 258 0)) X w h.v4 wF_X4_24 (hA.wi) dX4_countToSend_3 ?_
  refine lv_bipush (v := 10) hx hb dX4_countToSend_6 (by decide) ?_
  refine lv_aload_n hx hb dX4_countToSend_8 rfl (lv_at hl 0 rfl) ?_
  refine cV (S := S) (nA := 0) (As := []) (rest := [.int 10, .int (mI A 258 0), .int (nI g), .ref (gG S 4 0)]) X w hl h.v4 (m_X4_correctionsThatFit G S ea ns nj nm nt nr nc h ) wY_X4_correctionsThatFit wM_X4_86 wIn_X4_correctionsThatFit wSe_X4_X4_correctionsThatFit wI_X4 (by decide) rfl (by decide +kernel) rfl rfl dX4_countToSend_9 ⟨by decide, by decide⟩ (Nat.le_of_ble_eq_true rfl) (⟨Nat.le_of_ble_eq_true rfl, Nat.le_of_ble_eq_true rfl⟩) (fun v1 S1 H locs hp w => ?_)
  obtain ⟨rfl, rfl⟩ := hp
  refine lv_topi (fun z2 ez2 => ?_)
  obtain rfl : z2 = (nI (coN A)) := ez2.trans (by rw [hcs, hwl, ← hgq]; exact hfit g5 (by omega))
  refine lv_imul hx hb dX4_countToSend_12 ?_
  refine lv_isub hx hb dX4_countToSend_13 ?_
  refine lv_iconst (v := 0) hx hb dX4_countToSend_14 (by decide) ?_
  refine cV (S := S) (nA := 3) (As := [.int (nI g), .int ((mI A 258 0) - (10 * (nI (coN A)))), .int 0]) (rest := []) X w hl h.v4 (a_X4_sendReports_v G S ea ns nj nm nt nr nc h A hA g hg ((mI A 258 0) - (10 * (nI (coN A))))) wY_X4_sendReports wM_X4_82 wIn_X4_sendReports wSe_X4_X4_sendReports wI_X4 (by decide) rfl (by decide +kernel) rfl rfl dX4_countToSend_15 ⟨by decide, by decide⟩ (Nat.le_of_ble_eq_true rfl) (⟨Nat.le_of_ble_eq_true rfl, Nat.le_of_ble_eq_true rfl⟩) (fun v3 S1 H locs hp w => ?_)
  obtain ⟨rfl, rfl⟩ := hp
  exact rI X w rfl dX4_countToSend_18 (by decide) (by decide) (pu_i rfl)

abbrev rm_a_X10_wouldSend : Room := { frames := 5, cells := 0, slots := 0, locals := 115 }
set_option maxHeartbeats 4000000 in
set_option maxRecDepth 100000 in
theorem a_X10_wouldSend {s0 : State} {l : Launch} {D : va_G} {cy : Nat → ClassId} (G : Gl s0 l D cy) (S : HS) (ea ns nj nm nt nr nc : Nat) (h : CI ea S ns nj nm nt nr nc) (A : HS) (hA : RK S A ns nj nm nt nr nc) (g0 : Nat) (hg : mI S 164 0 = nI g0) (hg7 : g0 ≤ 720) (hA7 : mI A 257 0 = nI g0) : Ctr s0 l D cy yX10_wouldSend cX10_wouldSend 1 (some .int) rm_a_X10_wouldSend S [.ref (gG S 10 0)] (PU S (some (.int (wsN A nt nr g0)))) := by
  refine pro "CavershamShift" G rfl rfl (Nat.le_of_ble_eq_true rfl) (fun p e s m below meth c ls X w hnm hl => ?_)
  have hx := X.1
  have hb := X.2.1
  have hown := X.2.2.2.1
  have hts := X.2.2.2.2.1
  have hl : lv_has ls 1 [(0, .ref (gG S 10 0))] := hl
  refine lv_aload_n hx hb dX10_wouldSend_0 rfl (lv_at hl 0 rfl) ?_
  refine g_10_2 (S := S) (x := (some (gG S 4 0))) X w h.v10 wF_X10_28 (h.f162) dX10_wouldSend_1 ?_
  refine lv_aload_n hx hb dX10_wouldSend_4 rfl (lv_at hl 0 rfl) ?_
  refine g_10_4 (S := S) (x := (nI g0)) X w h.v10 wF_X10_41 (hg) dX10_wouldSend_5 ?_
  refine cV (S := S) (nA := 1) (As := [.int (nI g0)]) (rest := []) X w hl h.v4 (a_X4_countToSend G S ea ns nj nm nt nr nc h A hA g0 (by assumption)) wY_X4_countToSend wM_X10_380 wIn_X4_countToSend wSe_X4_X4_countToSend wI_X4 (by decide) rfl (by decide +kernel) rfl rfl dX10_wouldSend_8 ⟨by decide, by decide⟩ (Nat.le_of_ble_eq_true rfl) (⟨Nat.le_of_ble_eq_true rfl, Nat.le_of_ble_eq_true rfl⟩) (fun v1 S1 H locs hp w => ?_)
  obtain ⟨rfl, rfl⟩ := hp
  exact rI X w rfl dX10_wouldSend_11 (by decide) (by decide) (pu_i rfl)
