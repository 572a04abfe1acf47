theorem RK.p151 {S A : HS} {ns nj nm nt nr nc : Nat} {j : Nat} {b : Int32} (hj : j < nt) (hp : mI A 246 j = -1) (hb : ∃ f, f < 65536 ∧ b = nI f) (h : RK S A ns nj nm nt nr nc) : RK (sI S 151 j b) (sI A 246 j b) ns nj nm nt nr nc := by
  exact ⟨h.rc, (⟨h.ok.1, h.ok.2.1, fun i hi => by
    obtain ⟨o1, o2, o3, o4, o5⟩ := h.ok.2.2.1 i hi
    refine ⟨o1, o2, o3, o4, ?_⟩
    by_cases e : i = j
    · subst e; rw [sI_s]; exact Or.inr hb
    · rw [sI_o e]; exact o5, h.ok.2.2.2⟩), h.mo, h.re, (fun i hi => two_s (h.pr i hi)), h.rp, h.wi, h.tu, h.qu, (fun i hi z => by
    have y := h.q1 i hi z
    by_cases e : i = j
    · subst e; exact absurd hp y.2
    · rw [sI_o e]; exact y), h.q2, h.q3, h.q4, h.q6, h.q7, (fun i hi z => by
    have y := h.q1 i hi z
    by_cases e : i = j
    · subst e; exact absurd hp y.2
    · rw [sI_o e]; exact h.q8 i hi z), h.q9, h.rz⟩
theorem RK.a81 {S A : HS} {ns nj nm nt nr nc : Nat} {r : Nat} {b : Int32} (h : RK S A ns nj nm nt nr nc) : RK (sI S 81 r b) (sI A 208 r b) ns nj nm nt nr nc := by
  exact ⟨h.rc, h.ok, h.mo, (fun i hi => ⟨two_s (h.re i hi).1, (h.re i hi).2⟩), h.pr, h.rp, h.wi, h.tu, h.qu, h.q1, h.q2, h.q3, h.q4, h.q6, h.q7, h.q8, h.q9, h.rz⟩
theorem RK.a82 {S A : HS} {ns nj nm nt nr nc : Nat} {r : Nat} {b : Int32} (h : RK S A ns nj nm nt nr nc) : RK (sI S 82 r b) (sI A 209 r b) ns nj nm nt nr nc := by
  exact ⟨h.rc, h.ok, h.mo, (fun i hi => ⟨(h.re i hi).1, two_s (h.re i hi).2⟩), h.pr, h.rp, h.wi, h.tu, h.qu, h.q1, h.q2, h.q3, h.q4, h.q6, h.q7, h.q8, h.q9, h.rz⟩
theorem so_f {b : Int32} (h : sOut b 0 65535 = false) : ∃ f, f < 65536 ∧ b = nI f := out_in (n := 65536) (by decide) h
/-- what a print answers, and what it makes of the picture -/
def prF (A : HS) (j : Nat) (b : Int32) : Int32 := if mI A 247 j = -1 then -1 else b &&& (rAll (mI A 245 j) (mI A 248 j) ^^^ (-1))
def prA (A : HS) (j : Nat) (b : Int32) : HS := enA (sI A 246 j b) j
def prK (n : Nat) (a b p : Int32) : Nat := if sOut a 0 (nI n - 1) = true then 1 else if sOut b 0 65535 = true then 2 else if ¬ p = -1 then 3 else 0
def asF (A : HS) (r nt : Nat) : Int32 := rCnt (fun k => decide (mI A 247 k = 0) && gFor A k r) nt
def asA (A : HS) (r : Nat) (b d : Int32) : HS := sI (sI A 208 r b) 209 r d
def asK (n : Nat) (a b d : Int32) : Nat := if sOut a 0 (nI n - 1) = true then 1 else if (sOut b 0 63 || sOut d 0 65535) = true then 2 else 0
theorem as_c {A : HS} {r nt : Nat} {b d : Int32} : asF (asA A r b d) r nt = rCnt (fun k => decide (mI A 247 k = 0) && (sIn b (mI A 226 (tS A k)) && sIn d (mI A 242 k))) nt := rCnt_c nt (fun k _ => by
  unfold gFor
  rw [show mI (asA A r b d) 208 r = b by simp [asA, mI, sI, up2], show mI (asA A r b d) 209 r = d by simp [asA, mI, sI, up2]]; rfl)
theorem prA_I {A : HS} {j f i : Nat} {b : Int32} (h1 : ¬ f = 253) (h2 : ¬ f = 246) : mI (prA A j b) f i = mI A f i := (enA_I h1).trans (up2_n (fun y => h2 y.1))

abbrev rm_a_X10_pass_n (n : Nat) : Room := { frames := 12, cells := 80 * n, slots := 2480 * n, locals := 312 }
set_option maxHeartbeats 4000000 in
set_option maxRecDepth 100000 in
theorem a_X10_pass_n {s0 : State} {l : Launch} {D : va_G} {cy : Nat → ClassId} (G : Gl s0 l D cy) (S : HS) (ea ns nj nm nt nr nc : Nat) (h : CI ea S ns nj nm nt nr nc) (A : HS) (hA : RK S A ns nj nm nt nr nc) (hea : ea = eaOf s0) (n g : Nat) (hn1 : 1 ≤ n) (hn : n ≤ 48) (hg : mI S 164 0 = nI g) (hgn : g + n ≤ 720) (hrh : RH S nt) : Ctr s0 l D cy yX10_pass cX10_pass 3 (some .int) (rm_a_X10_pass_n n) S [.ref (gG S 10 0), .int (nI n)] (fun v S' => some (.int (nI (g + n))) = v ∧ ∃ nc', CI ea S' ns nj nm nt nr nc' ∧ Kq (hidV true) hiP (hidR true) S S' ∧ RK S' (hoN A ns nj nm nt nr g n) ns nj nm nt nr nc' ∧ mI S' 164 0 = nI (g + n) ∧ RH S' nt) := by
  refine pro "CavershamShift" G rfl rfl (Nat.le_of_ble_eq_true rfl) (fun p e s m below meth c ls X w hnm hl => ?_)
  have hx := X.1
  have hb := X.2.1
  have hown := X.2.2.2.1
  have hts := X.2.2.2.2.1
  have hl : lv_has ls 3 [(0, .ref (gG S 10 0)), (1, .int (nI n))] := hl
  have h0 := h
  have hK : Kq (hidV true) hiP (hidR true) S S := Kq.rf
  refine lv_iload_n hx hb dX10_pass_0 rfl (lv_at hl 1 rfl) ?_
  refine lv_iconst (v := 1) hx hb dX10_pass_1 (by decide) ?_
  refine lv_bipush (v := 48) hx hb dX10_pass_2 (by decide) ?_
  refine cS (S := S) (nA := 3) (As := [.int (nI n), .int 1, .int 48]) (rest := []) X w hl (m_X10_isOutside G S (nI n) 1 48) wY_X10_isOutside wM_X10_48 wSt_X10_isOutside wI_X10 (by decide +kernel) rfl rfl dX10_pass_4 ⟨Nat.le_of_ble_eq_true rfl, Nat.le_of_ble_eq_true rfl⟩ (Nat.le_of_ble_eq_true rfl) (⟨Nat.le_of_ble_eq_true rfl, Nat.le_of_ble_eq_true rfl⟩) (fun v1 S1 H locs hp w => ?_)
  obtain ⟨rfl, rfl⟩ := hp
  refine lv_if_eq (tgt := 20) hx hb dX10_pass_7 (by decide) (fun hy7 => ?_) (fun hy7 => ?_)
  · refine lv_aload_n hx hb dX10_pass_20 rfl (lv_at hl 0 rfl) ?_
    refine g_10_4 (S := S) (x := (nI g)) X w h.v10 wF_X10_41 (hg) dX10_pass_21 ?_
    refine lv_iload_n hx hb dX10_pass_24 rfl (lv_at hl 1 rfl) ?_
    refine lv_iadd hx hb dX10_pass_25 ?_
    refine lv_topi (fun z2 ez2 => ?_)
    obtain rfl : z2 = nI (g + n) := ez2.trans (nI_add _ _)
    refine lv_sipush (v := 720) hx hb dX10_pass_26 (by decide) ?_
    refine lv_icmp_le (tgt := 42) hx hb dX10_pass_29 (by decide) (fun hy29 => ?_) (fun hy29 => ?_)
    · refine lv_iconst (v := 0) hx hb dX10_pass_42 (by decide) ?_
      refine lv_istore_n (lv' := [(2, .int 0), (0, .ref (gG S 10 0)), (1, .int (nI n))]) hx hb dX10_pass_43 rfl hl (by decide) rfl (fun ls hl => ?_)
      have L44 : ∀ (N : Nat) (k44 : Nat) (T44 : HS) (nc44 : Nat) (H : Heap) (locs : List Loc) (ls : Array Slot), n - k44 < N → (k44 ≤ n) → (RK T44 (hoN A ns nj nm nt nr g k44) ns nj nm nt nr nc44) → (CI ea T44 ns nj nm nt nr nc44) → (Kq (hidV true) hiP (hidR true) S T44) → (mI T44 164 0 = nI (g + k44)) → (RH T44 nt) → Wd s0 D cy T44 s.heap H locs → lv_has ls 3 [(2, .int (nI k44)), (0, .ref (gG S 10 0)), (1, .int (nI n))] → W p l e (rm_a_X10_pass_n n) s m ([.ref (gG S 10 0), .int (nI n)] : List Value).toArray below meth c H locs (80 * k44) (2480 * k44) (MQ below (GQ s0 D cy (fun v S' => some (.int (nI (g + n))) = v ∧ ∃ nc', CI ea S' ns nj nm nt nr nc' ∧ Kq (hidV true) hiP (hidR true) S S' ∧ RK S' (hoN A ns nj nm nt nr g n) ns nj nm nt nr nc' ∧ mI S' 164 0 = nI (g + n) ∧ RH S' nt)) ([.ref (gG S 10 0), .int (nI n)] : List Value).toArray s (rm_a_X10_pass_n n).cells (rm_a_X10_pass_n n).slots (A0 s0)) (F0 m 44 ls []) := by
        intro N
        induction N with
        | zero => intros; omega
        | succ N ih44 =>
          intro k44 T44 nc44 H locs ls hmu hk_k44 hA h hK_T44 e164 hRH w hl
          have hK := hK_T44
          refine lv_iload_n hx hb dX10_pass_44 rfl (lv_at hl 0 rfl) ?_
          refine lv_iload_n hx hb dX10_pass_45 rfl (lv_at hl 2 rfl) ?_
          refine lv_icmp_ge (tgt := 59) hx hb dX10_pass_46 (by decide) (fun hc_k44 => ?_) (fun hc_k44 => ?_)
          · have hge_k44 : n ≤ k44 := by
              skip
              exact (nI_leI (a := n) (b := k44) (by omega) (by omega)).mp hc_k44
            refine lv_aload_n hx hb dX10_pass_59 rfl (lv_at hl 1 rfl) ?_
            refine rE0 ((rfl).trans ((hK_T44.G (t := 10) (i := 0) rfl)).symm) ?_
            refine g_10_4 (S := T44) (x := (nI (g + k44))) X w h.v10 wF_X10_41 (e164) dX10_pass_60 ?_
            exact rI X w rfl dX10_pass_63 (show 80 * k44 ≤ 80 * n by omega) (show 2480 * k44 ≤ 2480 * n by omega) (⟨by rw [show k44 = n by omega], _, h, hK, by rw [show k44 = n by omega] at hA; exact hA, by rw [e164, show k44 = n by omega], hRH⟩)
          · have hlt_k44 : k44 < n := by
              skip
              exact Nat.lt_of_not_le (fun z => hc_k44 ((nI_leI (a := n) (b := k44) (by omega) (by omega)).mpr z))
            refine lv_aload_n hx hb dX10_pass_49 rfl (lv_at hl 1 rfl) ?_
            refine rE0 ((rfl).trans ((hK_T44.G (t := 10) (i := 0) rfl)).symm) ?_
            refine cV (S := T44) (nA := 0) (As := []) (rest := []) X w hl h.v10 (a_X10_endHour G T44 ea ns nj nm nt nr nc44 h (hoN A ns nj nm nt nr g k44) hA hea (g + k44) e164 (by omega) hRH) wY_X10_endHour wM_X10_241 wIn_X10_endHour wSe_X10_X10_endHour wI_X10 (by decide) rfl (by decide +kernel) rfl rfl dX10_pass_50 ⟨Nat.le_of_ble_eq_true rfl, Nat.le_of_ble_eq_true rfl⟩ (Nat.le_of_ble_eq_true rfl) (⟨(show 80 * k44 + 80 ≤ 80 * n by omega), (show 2480 * k44 + 2480 ≤ 2480 * n by omega)⟩) (fun v5 U3 H locs hp w => ?_)
            obtain ⟨rfl, nc4, h, hkU3, hA, e164, hRH⟩ := hp
            have hK_U3 : Kq (hidV true) hiP (hidR true) S U3 := hK.tr hkU3
            have hK := hK_U3
            refine lv_iinc (v := nI (k44 + 1)) (lv' := [(2, .int (nI (k44 + 1))), (0, .ref (gG S 10 0)), (1, .int (nI n))]) hx hb dX10_pass_53 hl (k := 0) rfl (nI_1 _) (by decide) rfl (fun ls hl => ?_)
            refine lv_goto (tgt := 44) hx hb dX10_pass_56 (by decide) ?_
            refine W.widen (k := 80 * (k44 + 1)) (n := 2480 * (k44 + 1)) (show 80 * k44 + 80 ≤ 80 * (k44 + 1) by omega) (show 2480 * k44 + 2480 ≤ 2480 * (k44 + 1) by omega) ?_
            have hA : RK U3 (hoN A ns nj nm nt nr g (k44 + 1)) ns nj nm nt nr nc4 := hA
            exact ih44 (k44 + 1) U3 nc4 _ _ _ (by omega) (hlt_k44) (hA) (h) (hK) (e164) (hRH) w (lv_sub hl [0, 1, 2] rfl)
      refine W.widen (k := 80 * 0) (n := 2480 * 0) (Nat.zero_le _) (Nat.zero_le _) ?_
      exact L44 _ 0 S nc _ _ _ (Nat.lt_succ_self _) (Nat.zero_le _) (hA) (h) (hK) (hg) (hrh) w (lv_sub hl [0, 1, 2] rfl)
    · exact absurd ((nI_leI (a := g + n) (b := 720) (by omega) (by decide)).mpr hgn) hy29
  · exact absurd (so_148 hn1 hn) (by rw [b2i_t hy7]; decide)

abbrev rm_a_X10_print : Room := { frames := 8, cells := 1, slots := 49, locals := 213 }
set_option maxHeartbeats 4000000 in
set_option maxRecDepth 100000 in
theorem a_X10_print {s0 : State} {l : Launch} {D : va_G} {cy : Nat → ClassId} (G : Gl s0 l D cy) (S : HS) (ea ns nj nm nt nr nc : Nat) (h : CI ea S ns nj nm nt nr nc) (A : HS) (hA : RK S A ns nj nm nt nr nc) (hea : ea = eaOf s0) (a b : Int32) (hrh : RH S nt) : CtX s0 l D cy yX10_print cX10_print 5 (some .int) rm_a_X10_print S [.ref (gG S 10 0), .int a, .int b] (fun v S' => ∃ j, j < nt ∧ a = nI j ∧ sOut b 0 65535 = false ∧ mI A 246 j = -1 ∧ some (.int (prF A j b)) = v ∧ ∃ nc', CI ea S' ns nj nm nt nr nc' ∧ Kq clsV clsI clsS S S' ∧ RK S' (prA A j b) ns nj nm nt nr nc' ∧ RH S' nt) (fun E S' => S = S' ∧ ((E = "java/lang/IndexOutOfBoundsException" ∧ sOut a 0 (nI nt - 1) = true) ∨ ∃ j, j < nt ∧ a = nI j ∧ ((E = "java/lang/IllegalArgumentException" ∧ sOut b 0 65535 = true) ∨ (E = "java/lang/IllegalStateException" ∧ sOut b 0 65535 = false ∧ ¬ mI A 246 j = -1)))) := by
  refine proX "CavershamShift" G rfl rfl (Nat.le_of_ble_eq_true rfl) (fun p e s m below meth c ls X w hno hl => ?_)
  have hx := X.1
  have hb := X.2.1
  have hown := X.2.2.2.1
  have hts := X.2.2.2.2.1
  have hl : lv_has ls 5 [(0, .ref (gG S 10 0)), (1, .int a), (2, .int b)] := hl
  have h0 := h
  have hK : Kq clsV clsI clsS S S := Kq.rf
  refine lv_aload_n hx hb dX10_print_0 rfl (lv_at hl 0 rfl) ?_
  refine g_10_2 (S := S) (x := (some (gG S 4 0))) X w h.v10 wF_X10_28 (h.f162) dX10_print_1 ?_
  refine lv_iload_n hx hb dX10_print_4 rfl (lv_at hl 1 rfl) ?_
  refine cV (S := S) (nA := 1) (As := [.int a]) (rest := []) X w hl h.v4 (m_X4_talkAt G S ea ns nj nm nt nr nc h a) wY_X4_talkAt wM_X10_182 wIn_X4_talkAt wSe_X4_X4_talkAt wI_X4 (by decide) rfl (by decide +kernel) rfl rfl dX10_print_5 ⟨by decide, by decide⟩ (Nat.le_of_ble_eq_true rfl) (⟨Nat.le_of_ble_eq_true rfl, Nat.le_of_ble_eq_true rfl⟩) (fun v2 S1 H locs hp w => ?_)
  obtain ⟨hp, rfl⟩ := hp
  rcases hp with ⟨rfl, hoj1⟩ | ⟨j1, hlj1, hkj1, rfl⟩
  · skip
    refine lv_astore_nN (lv' := [(3, .null), (0, .ref (gG S 10 0)), (1, .int a), (2, .int b)]) hx hb dX10_print_8 rfl hl (by decide) rfl (fun ls hl => ?_)
    refine lv_aload_nN hx hb dX10_print_9 rfl (lv_at hl 0 rfl) ?_
    refine lv_ifnonnullN hx hb dX10_print_10 ?_
    exact rT (S := S) (names := ["java/lang/RuntimeException", "java/lang/Exception"]) X w hl hno (by decide) (by decide) wC_X10_90 wI_java_lang_IndexOutOfBoundsException wS9_X10_186 at_IOB go_IOB ⟨by decide, by decide⟩ dX10_print_13 dX10_print_16 dX10_print_17 dX10_print_19 dX10_print_22 (by decide) (by decide) (Nat.le_of_ble_eq_true rfl) (Nat.le_of_ble_eq_true rfl) (Nat.le_of_ble_eq_true rfl) (Nat.le_of_ble_eq_true rfl) (⟨rfl, Or.inl ⟨rfl, by assumption⟩⟩)
  · skip
    refine lv_astore_n (lv' := [(3, .ref (gG S 9 j1)), (0, .ref (gG S 10 0)), (1, .int a), (2, .int b)]) hx hb dX10_print_8 rfl hl (by decide) rfl (fun ls hl => ?_)
    refine lv_aload_n hx hb dX10_print_9 rfl (lv_at hl 0 rfl) ?_
    refine lv_ifnonnull (tgt := 23) hx hb dX10_print_10 (by decide) ?_
    refine lv_iload_n hx hb dX10_print_23 rfl (lv_at hl 3 rfl) ?_
    refine lv_iconst (v := 0) hx hb dX10_print_24 (by decide) ?_
    refine lv_ldc hx hb hown (hts _ wK_X10_159) dX10_print_25 ?_
    refine cS (S := S) (nA := 3) (As := [.int b, .int 0, .int 65535]) (rest := []) X w hl (m_X10_isOutside G S b 0 65535) wY_X10_isOutside wM_X10_48 wSt_X10_isOutside wI_X10 (by decide +kernel) rfl rfl dX10_print_27 ⟨by decide, by decide⟩ (Nat.le_of_ble_eq_true rfl) (⟨Nat.le_of_ble_eq_true rfl, Nat.le_of_ble_eq_true rfl⟩) (fun v3 S1 H locs hp w => ?_)
    obtain ⟨rfl, rfl⟩ := hp
    refine lv_if_eq (tgt := 43) hx hb dX10_print_30 (by decide) (fun hy30 => ?_) (fun hy30 => ?_)
    · refine lv_aload_n hx hb dX10_print_43 rfl (lv_at hl 0 rfl) ?_
      refine g_9_7 (S := S) (x := (mI A 246 j1)) X w (h.e_ta j1 hlj1).2 wF_X10_188 (hA.pr j1 hlj1) dX10_print_44 ?_
      refine lv_iconst (v := (-1)) hx hb dX10_print_47 (by decide) ?_
      refine lv_icmp_eq (tgt := 61) hx hb dX10_print_48 (by decide) (fun hpr => ?_) (fun hpr => ?_)
      · refine lv_aload_n hx hb dX10_print_61 rfl (lv_at hl 0 rfl) ?_
        refine lv_iload_n hx hb dX10_print_62 rfl (lv_at hl 3 rfl) ?_
        have hj9 : j1 < nt := by assumption
        have h253 : mI A 253 j1 = 0 := Decidable.byContradiction (fun z => (hA.q1 j1 hj9 z).2 hpr)
        have hpr8 : mI S 151 j1 = -1 := (hA.pr j1 hj9).trans hpr
        refine p_9_7 (S := S) (x := b) X w (h.e_ta j1 hlj1).2 wF_X10_188 dX10_print_63 (fun H locs w => ?_)
        have h : CI ea (sI S 151 j1 b) ns nj nm nt nr nc := h.s151 (pO_f hpr8)
        have hK : Kq clsV clsI clsS S (sI S 151 j1 b) := hK.sI rfl
        have hA : RK (sI S 151 j1 b) (sI A 246 j1 b) ns nj nm nt nr nc := hA.p151 hj9 hpr (so_f (b2i_f hy30))
        refine lv_aload_n hx hb dX10_print_66 rfl (lv_at hl 1 rfl) ?_
        refine g_10_2 (S := (sI S 151 j1 b)) (x := (some (gG (sI S 151 j1 b) 4 0))) X w h.v10 wF_X10_28 (h.f162) dX10_print_67 ?_
        refine lv_aload_n hx hb dX10_print_70 rfl (lv_at hl 0 rfl) ?_
        refine cV (S := (sI S 151 j1 b)) (nA := 1) (As := [.ref (gG S 9 j1)]) (rest := []) X w hl h.v4 (a_X4_awaitCorrection G (sI S 151 j1 b) ea ns nj nm nt nr nc h (sI A 246 j1 b) hA j1 hlj1 (hea) (co_room2 (by assumption) h0.x_co hpr8) (h253)) wY_X4_awaitCorrection wM_X10_193 wIn_X4_awaitCorrection wSe_X4_X4_awaitCorrection wI_X4 (by decide) rfl (by decide +kernel) rfl rfl dX10_print_71 ⟨by decide, by decide⟩ (Nat.le_of_ble_eq_true rfl) (⟨Nat.le_of_ble_eq_true rfl, Nat.le_of_ble_eq_true rfl⟩) (fun v7 U4 H locs hp w => ?_)
        obtain ⟨rfl, nc5, h, hkU4, hA, e104c, e69c⟩ := hp
        have hK_U4 : Kq clsV clsI clsS S U4 := hK.tr (m1k hkU4)
        have hK := hK_U4
        have hRH : RH U4 nt := RH.m1 hkU4 hrh
        refine lv_aload_n hx hb dX10_print_74 rfl (lv_at hl 0 rfl) ?_
        refine rE0 ((rfl).trans (((hkU4.G (t := 9) (i := j1) rfl).trans (rfl))).symm) ?_
        rcases hA.rp j1 hlj1 with ⟨her8, hur8, hzr8, hwr8, hsr8⟩ | ⟨her8, hvr8, hur8, hwr8⟩
        · refine g_9_8 (S := U4) (x := none) X w (h.e_ta j1 hlj1).2 wF_X10_197 (her8) dX10_print_75 ?_
          refine lv_astoreN (lv' := [(4, .null), (3, .ref (gG S 9 j1)), (0, .ref (gG S 10 0)), (1, .int a), (2, .int b)]) hx hb dX10_print_78 hl (by decide) rfl (fun ls hl => ?_)
          refine lv_aloadN hx hb dX10_print_80 (lv_at hl 0 rfl) ?_
          refine lv_ifnonnullN hx hb dX10_print_82 ?_
          refine lv_iconst (v := (-1)) hx hb dX10_print_85 (by decide) ?_
          refine lv_goto (tgt := 98) hx hb dX10_print_86 (by decide) ?_
          exact rXr (rI X w rfl dX10_print_98 (by decide) (by decide) (⟨_, by assumption, by assumption, b2i_f hy30, hpr, by first | exact congrArg (fun x => some (Value.int x)) (if_pos ((prA_I (by decide) (by decide)).symm.trans (by assumption))) | exact congrArg (fun x => some (Value.int x)) ((if_neg (fun z => absurd ((prA_I (b := b) (by decide) (by decide)).trans z) (by assumption))).trans (by rw [show ∀ k, mI (enA (sI A 246 k b) k) 245 k = mI A 245 k from fun k => prA_I (by decide) (by decide), show ∀ k, mI (enA (sI A 246 k b) k) 248 k = mI A 248 k from fun k => prA_I (by decide) (by decide)])), _, h, hK, hA, hRH⟩))
        · refine g_9_8 (S := U4) (x := (some (gG U4 6 j1))) X w (h.e_ta j1 hlj1).2 wF_X10_197 (her8) dX10_print_75 ?_
          refine lv_astore (lv' := [(4, .ref (gG U4 6 j1)), (3, .ref (gG S 9 j1)), (0, .ref (gG S 10 0)), (1, .int a), (2, .int b)]) hx hb dX10_print_78 hl (by decide) rfl (fun ls hl => ?_)
          refine lv_aload hx hb dX10_print_80 (lv_at hl 0 rfl) ?_
          refine lv_ifnonnull (tgt := 89) hx hb dX10_print_82 (by decide) ?_
          refine lv_iload_n hx hb dX10_print_89 rfl (lv_at hl 4 rfl) ?_
          refine lv_aload hx hb dX10_print_90 (lv_at hl 0 rfl) ?_
          refine cV (S := U4) (nA := 0) (As := []) (rest := [.int b]) X w hl hvr8 (a_X6_formulas G U4 ea ns nj nm nt nr nc5 h (enA (sI A 246 j1 b) j1) hA j1 (by assumption) (by assumption)) wY_X6_formulas wM_X10_201 wIn_X6_formulas wSe_X6_X6_formulas wI_X6 (by decide) rfl (by decide +kernel) rfl rfl dX10_print_92 ⟨by decide, by decide⟩ (Nat.le_of_ble_eq_true rfl) (⟨Nat.le_of_ble_eq_true rfl, Nat.le_of_ble_eq_true rfl⟩) (fun v9 S1 H locs hp w => ?_)
          obtain ⟨rfl, rfl⟩ := hp
          refine lv_iconst (v := (-1)) hx hb dX10_print_95 (by decide) ?_
          refine lv_ixor hx hb dX10_print_96 ?_
          refine lv_iand hx hb dX10_print_97 ?_
          exact rXr (rI X w rfl dX10_print_98 (by decide) (by decide) (⟨_, by assumption, by assumption, b2i_f hy30, hpr, by first | exact congrArg (fun x => some (Value.int x)) (if_pos ((prA_I (by decide) (by decide)).symm.trans (by assumption))) | exact congrArg (fun x => some (Value.int x)) ((if_neg (fun z => absurd ((prA_I (b := b) (by decide) (by decide)).trans z) (by assumption))).trans (by rw [show ∀ k, mI (enA (sI A 246 k b) k) 245 k = mI A 245 k from fun k => prA_I (by decide) (by decide), show ∀ k, mI (enA (sI A 246 k b) k) 248 k = mI A 248 k from fun k => prA_I (by decide) (by decide)])), _, h, hK, hA, hRH⟩))
      · exact rT (S := S) (names := ["java/lang/RuntimeException", "java/lang/Exception"]) X w hl hno (by decide) (by decide) wC_X10_72 wI_java_lang_IllegalStateException wS9_X10_191 at_ISE go_ISE ⟨by decide, by decide⟩ dX10_print_51 dX10_print_54 dX10_print_55 dX10_print_57 dX10_print_60 (by decide) (by decide) (Nat.le_of_ble_eq_true rfl) (Nat.le_of_ble_eq_true rfl) (Nat.le_of_ble_eq_true rfl) (Nat.le_of_ble_eq_true rfl) (⟨rfl, Or.inr ⟨_, by assumption, by assumption, Or.inr ⟨rfl, b2i_f hy30, hpr⟩⟩⟩)
    · exact rT (S := S) (names := ["java/lang/RuntimeException", "java/lang/Exception"]) X w hl hno (by decide) (by decide) wC_X10_52 wI_java_lang_IllegalArgumentException wS9_X10_160 at_IAE go_IAE ⟨by decide, by decide⟩ dX10_print_33 dX10_print_36 dX10_print_37 dX10_print_39 dX10_print_42 (by decide) (by decide) (Nat.le_of_ble_eq_true rfl) (Nat.le_of_ble_eq_true rfl) (Nat.le_of_ble_eq_true rfl) (Nat.le_of_ble_eq_true rfl) (⟨rfl, Or.inr ⟨_, by assumption, by assumption, Or.inl ⟨rfl, b2i_t hy30⟩⟩⟩)

abbrev rm_a_X10_ask : Room := { frames := 6, cells := 1, slots := 6, locals := 90 }
set_option maxHeartbeats 4000000 in
set_option maxRecDepth 100000 in
theorem a_X10_ask {s0 : State} {l : Launch} {D : va_G} {cy : Nat → ClassId} (G : Gl s0 l D cy) (S : HS) (ea ns nj nm nt nr nc : Nat) (h : CI ea S ns nj nm nt nr nc) (A : HS) (hA : RK S A ns nj nm nt nr nc) (a b d : Int32) (hrh : RH S nt) : CtX s0 l D cy yX10_ask cX10_ask 5 (some .int) rm_a_X10_ask S [.ref (gG S 10 0), .int a, .int b, .int d] (fun v S' => ∃ r, r < nr ∧ a = nI r ∧ sOut b 0 63 = false ∧ sOut d 0 65535 = false ∧ some (.int (asF (asA A r b d) r nt)) = v ∧ CI ea S' ns nj nm nt nr nc ∧ Kq clsV clsI clsS S S' ∧ RK S' (asA A r b d) ns nj nm nt nr nc ∧ RH S' nt) (fun E S' => S = S' ∧ ((E = "java/lang/IndexOutOfBoundsException" ∧ sOut a 0 (nI nr - 1) = true) ∨ ∃ r, r < nr ∧ a = nI r ∧ E = "java/lang/IllegalArgumentException" ∧ (sOut b 0 63 || sOut d 0 65535) = true)) := by
  refine proX "CavershamShift" G rfl rfl (Nat.le_of_ble_eq_true rfl) (fun p e s m below meth c ls X w hno hl => ?_)
  have hx := X.1
  have hb := X.2.1
  have hown := X.2.2.2.1
  have hts := X.2.2.2.2.1
  have hl : lv_has ls 5 [(0, .ref (gG S 10 0)), (1, .int a), (2, .int b), (3, .int d)] := hl
  have h0 := h
  have hK : Kq clsV clsI clsS S S := Kq.rf
  refine lv_aload_n hx hb dX10_ask_0 rfl (lv_at hl 0 rfl) ?_
  refine g_10_2 (S := S) (x := (some (gG S 4 0))) X w h.v10 wF_X10_28 (h.f162) dX10_ask_1 ?_
  refine lv_iload_n hx hb dX10_ask_4 rfl (lv_at hl 1 rfl) ?_
  refine cV (S := S) (nA := 1) (As := [.int a]) (rest := []) X w hl h.v4 (m_X4_readerAt G S ea ns nj nm nt nr nc h a) wY_X4_readerAt wM_X10_217 wIn_X4_readerAt wSe_X4_X4_readerAt wI_X4 (by decide) rfl (by decide +kernel) rfl rfl dX10_ask_5 ⟨by decide, by decide⟩ (Nat.le_of_ble_eq_true rfl) (⟨Nat.le_of_ble_eq_true rfl, Nat.le_of_ble_eq_true rfl⟩) (fun v2 S1 H locs hp w => ?_)
  obtain ⟨hp, rfl⟩ := hp
  rcases hp with ⟨rfl, hoj1⟩ | ⟨j1, hlj1, hkj1, rfl⟩
  · skip
    refine lv_astoreN (lv' := [(4, .null), (0, .ref (gG S 10 0)), (1, .int a), (2, .int b), (3, .int d)]) hx hb dX10_ask_8 hl (by decide) rfl (fun ls hl => ?_)
    refine lv_aloadN hx hb dX10_ask_10 (lv_at hl 0 rfl) ?_
    refine lv_ifnonnullN hx hb dX10_ask_12 ?_
    exact rT (S := S) (names := ["java/lang/RuntimeException", "java/lang/Exception"]) X w hl hno (by decide) (by decide) wC_X10_90 wI_java_lang_IndexOutOfBoundsException wS9_X10_221 at_IOB go_IOB ⟨by decide, by decide⟩ dX10_ask_15 dX10_ask_18 dX10_ask_19 dX10_ask_21 dX10_ask_24 (by decide) (by decide) (Nat.le_of_ble_eq_true rfl) (Nat.le_of_ble_eq_true rfl) (Nat.le_of_ble_eq_true rfl) (Nat.le_of_ble_eq_true rfl) (⟨rfl, Or.inl ⟨rfl, by assumption⟩⟩)
  · skip
    refine lv_astore (lv' := [(4, .ref (gG S 5 j1)), (0, .ref (gG S 10 0)), (1, .int a), (2, .int b), (3, .int d)]) hx hb dX10_ask_8 hl (by decide) rfl (fun ls hl => ?_)
    refine lv_aload hx hb dX10_ask_10 (lv_at hl 0 rfl) ?_
    refine lv_ifnonnull (tgt := 25) hx hb dX10_ask_12 (by decide) ?_
    refine lv_iload_n hx hb dX10_ask_25 rfl (lv_at hl 3 rfl) ?_
    refine lv_iconst (v := 0) hx hb dX10_ask_26 (by decide) ?_
    refine lv_bipush (v := 63) hx hb dX10_ask_27 (by decide) ?_
    refine cS (S := S) (nA := 3) (As := [.int b, .int 0, .int 63]) (rest := []) X w hl (m_X10_isOutside G S b 0 63) wY_X10_isOutside wM_X10_48 wSt_X10_isOutside wI_X10 (by decide +kernel) rfl rfl dX10_ask_29 ⟨by decide, by decide⟩ (Nat.le_of_ble_eq_true rfl) (⟨Nat.le_of_ble_eq_true rfl, Nat.le_of_ble_eq_true rfl⟩) (fun v3 S1 H locs hp w => ?_)
    obtain ⟨rfl, rfl⟩ := hp
    refine lv_if_ne (tgt := 45) hx hb dX10_ask_32 (by decide) (fun hy32 => ?_) (fun hy32 => ?_)
    · exact rT (S := S) (names := ["java/lang/RuntimeException", "java/lang/Exception"]) X w hl hno (by decide) (by decide) wC_X10_52 wI_java_lang_IllegalArgumentException wS9_X10_205 at_IAE go_IAE ⟨by decide, by decide⟩ dX10_ask_45 dX10_ask_48 dX10_ask_49 dX10_ask_51 dX10_ask_54 (by decide) (by decide) (Nat.le_of_ble_eq_true rfl) (Nat.le_of_ble_eq_true rfl) (Nat.le_of_ble_eq_true rfl) (Nat.le_of_ble_eq_true rfl) (⟨rfl, Or.inr ⟨_, by assumption, by assumption, rfl, by first | (rw [b2i_t hy32]; rfl) | (rw [b2i_t hy42, Bool.or_true])⟩⟩)
    · refine lv_iload_n hx hb dX10_ask_35 rfl (lv_at hl 4 rfl) ?_
      refine lv_iconst (v := 0) hx hb dX10_ask_36 (by decide) ?_
      refine lv_ldc hx hb hown (hts _ wK_X10_159) dX10_ask_37 ?_
      refine cS (S := S) (nA := 3) (As := [.int d, .int 0, .int 65535]) (rest := []) X w hl (m_X10_isOutside G S d 0 65535) wY_X10_isOutside wM_X10_48 wSt_X10_isOutside wI_X10 (by decide +kernel) rfl rfl dX10_ask_39 ⟨by decide, by decide⟩ (Nat.le_of_ble_eq_true rfl) (⟨Nat.le_of_ble_eq_true rfl, Nat.le_of_ble_eq_true rfl⟩) (fun v4 S1 H locs hp w => ?_)
      obtain ⟨rfl, rfl⟩ := hp
      refine lv_if_eq (tgt := 55) hx hb dX10_ask_42 (by decide) (fun hy42 => ?_) (fun hy42 => ?_)
      · refine lv_aload hx hb dX10_ask_55 (lv_at hl 0 rfl) ?_
        refine lv_iload_n hx hb dX10_ask_57 rfl (lv_at hl 3 rfl) ?_
        refine p_5_1 (S := S) (x := b) X w (h.e_re j1 hlj1).2 wF_X10_223 dX10_ask_58 (fun H locs w => ?_)
        have h : CI ea (sI S 81 j1 b) ns nj nm nt nr nc := h.stI (by decide)
        have hK : Kq clsV clsI clsS S (sI S 81 j1 b) := hK.sI rfl
        have hA : RK (sI S 81 j1 b) (sI A 208 j1 b) ns nj nm nt nr nc := hA.a81
        refine lv_aload hx hb dX10_ask_61 (lv_at hl 0 rfl) ?_
        refine lv_iload_n hx hb dX10_ask_63 rfl (lv_at hl 4 rfl) ?_
        refine p_5_2 (S := (sI S 81 j1 b)) (x := d) X w (h.e_re j1 hlj1).2 wF_X10_226 dX10_ask_64 (fun H locs w => ?_)
        have h : CI ea (sI (sI S 81 j1 b) 82 j1 d) ns nj nm nt nr nc := h.stI (by decide)
        have hK : Kq clsV clsI clsS S (sI (sI S 81 j1 b) 82 j1 d) := hK.sI rfl
        have hA : RK (sI (sI S 81 j1 b) 82 j1 d) (sI (sI A 208 j1 b) 209 j1 d) ns nj nm nt nr nc := hA.a82
        refine lv_aload_n hx hb dX10_ask_67 rfl (lv_at hl 1 rfl) ?_
        refine g_10_2 (S := (sI (sI S 81 j1 b) 82 j1 d)) (x := (some (gG (sI (sI S 81 j1 b) 82 j1 d) 4 0))) X w h.v10 wF_X10_28 (h.f162) dX10_ask_68 ?_
        refine lv_aload hx hb dX10_ask_71 (lv_at hl 0 rfl) ?_
        refine cV (S := (sI (sI S 81 j1 b) 82 j1 d)) (nA := 1) (As := [.ref (gG S 5 j1)]) (rest := []) X w hl h.v4 (a_X4_countWaitingFor G (sI (sI S 81 j1 b) 82 j1 d) ea ns nj nm nt nr nc h (sI (sI A 208 j1 b) 209 j1 d) hA j1 hlj1) wY_X4_countWaitingFor wM_X10_229 wIn_X4_countWaitingFor wSe_X4_X4_countWaitingFor wI_X4 (by decide) rfl (by decide +kernel) rfl rfl dX10_ask_73 ⟨by decide, by decide⟩ (Nat.le_of_ble_eq_true rfl) (⟨Nat.le_of_ble_eq_true rfl, Nat.le_of_ble_eq_true rfl⟩) (fun v5 S1 H locs hp w => ?_)
        obtain ⟨rfl, rfl⟩ := hp
        exact rXr (rI X w rfl dX10_ask_76 (by decide) (by decide) (⟨_, by assumption, by assumption, b2i_f hy32, b2i_f hy42, rfl, h, hK, hA, hrh⟩))
      · exact rT (S := S) (names := ["java/lang/RuntimeException", "java/lang/Exception"]) X w hl hno (by decide) (by decide) wC_X10_52 wI_java_lang_IllegalArgumentException wS9_X10_205 at_IAE go_IAE ⟨by decide, by decide⟩ dX10_ask_45 dX10_ask_48 dX10_ask_49 dX10_ask_51 dX10_ask_54 (by decide) (by decide) (Nat.le_of_ble_eq_true rfl) (Nat.le_of_ble_eq_true rfl) (Nat.le_of_ble_eq_true rfl) (Nat.le_of_ble_eq_true rfl) (⟨rfl, Or.inr ⟨_, by assumption, by assumption, rfl, by first | (rw [b2i_t hy32]; rfl) | (rw [b2i_t hy42, Bool.or_true])⟩⟩)

