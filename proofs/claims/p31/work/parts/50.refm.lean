theorem dX12_init_0 : decode cX12_init 0 = .ok (.aload_n 0, 1) := by decide +kernel
theorem dX12_init_1 : decode cX12_init 1 = .ok (.invokespecial 1, 3) := by decide +kernel
theorem dX12_init_4 : decode cX12_init 4 = .ok (.aload_n 0, 1) := by decide +kernel
theorem dX12_init_5 : decode cX12_init 5 = .ok (.iconst 5, 1) := by decide +kernel
theorem dX12_init_6 : decode cX12_init 6 = .ok (.newarray .int, 2) := by decide +kernel
theorem dX12_init_8 : decode cX12_init 8 = .ok (.putfield 7, 3) := by decide +kernel
theorem dX12_init_11 : decode cX12_init 11 = .ok (.return_, 1) := by decide +kernel
abbrev rm_m_X12_init : Room := { frames := 1, cells := 1, slots := 5, locals := 20 }
set_option maxHeartbeats 4000000 in
set_option maxRecDepth 100000 in
theorem m_X12_init {s0 : State} {l : Launch} {D : va_G} {cy : Nat → ClassId} (G : Gl s0 l D cy) (S : HS) (i : Nat) (hV : vV S 12 i) (n34_i : ¬ vV S 34 i) : Ctr s0 l D cy yX12_init cX12_init 1 none rm_m_X12_init S [.ref (gG S 12 i)] (fun v S' => none = v ∧ ∃ q1, S' = (sR (sArr S 34 i q1 5) 192 i (some (gG (sArr S 34 i q1 5) 34 i)))) := by
  refine pro "CavershamShiftModel$Monitor" G rfl rfl (Nat.le_of_ble_eq_true rfl) (fun p e s m below meth c ls X w hnm hl => ?_)
  have hx := X.1
  have hb := X.2.1
  have hown := X.2.2.2.1
  have hts := X.2.2.2.2.1
  have hin2 : meth.name = "<init>" := hnm
  have hl : lv_has ls 1 [(0, .ref (gG S 12 i))] := hl
  refine lv_aload_n hx hb dX12_init_0 rfl (lv_at hl 0 rfl) ?_
  refine W.objInit hx hb hown (hts _ wM_X12_1) (hts _ wIn_O_init) (hts _ wY_O_init) rfl (X.2.2.1.symm ▸ hl.1) rfl dX12_init_1 (Nat.le_of_ble_eq_true rfl) (Nat.le_of_ble_eq_true rfl) ?_
  refine W.eq (g2 := F0 m 4 ls []) rfl ?_
  refine lv_aload_n hx hb dX12_init_4 rfl (lv_at hl 0 rfl) ?_
  refine lv_iconst (v := 5) hx hb dX12_init_5 (by decide) ?_
  refine nwI (S := S) (atype := .int) (ty := .int) (n := 5) X w 34 i (fun v => n34_i v) (by decide) rfl rfl (Or.inl ⟨rfl, rfl⟩) wA_int rfl (by decide) dX12_init_6 (Nat.le_of_ble_eq_true rfl) (Nat.le_of_ble_eq_true rfl) (fun q1 S2 H hS2 w => ?_)
  subst hS2
  refine p_12_0 (S := (sArr S 34 i q1 5)) (x := (some (gG (sArr S 34 i q1 5) 34 i))) X w hin2 (Or.inl (hV)) wF_X12_7 dX12_init_8 (fun H locs w => ?_)
  exact rV X w rfl dX12_init_11 (by decide) (by decide) (⟨rfl, _, rfl⟩)

theorem dX13_init_0 : decode cX13_init 0 = .ok (.aload_n 0, 1) := by decide +kernel
theorem dX13_init_1 : decode cX13_init 1 = .ok (.invokespecial 1, 3) := by decide +kernel
theorem dX13_init_4 : decode cX13_init 4 = .ok (.aload_n 0, 1) := by decide +kernel
theorem dX13_init_5 : decode cX13_init 5 = .ok (.bipush 40, 2) := by decide +kernel
theorem dX13_init_7 : decode cX13_init 7 = .ok (.newarray .int, 2) := by decide +kernel
theorem dX13_init_9 : decode cX13_init 9 = .ok (.putfield 7, 3) := by decide +kernel
theorem dX13_init_12 : decode cX13_init 12 = .ok (.return_, 1) := by decide +kernel
abbrev rm_m_X13_init : Room := { frames := 1, cells := 1, slots := 40, locals := 20 }
set_option maxHeartbeats 4000000 in
set_option maxRecDepth 100000 in
theorem m_X13_init {s0 : State} {l : Launch} {D : va_G} {cy : Nat → ClassId} (G : Gl s0 l D cy) (S : HS) (i : Nat) (hV : vV S 13 i) (n35_i : ¬ vV S 35 i) : Ctr s0 l D cy yX13_init cX13_init 1 none rm_m_X13_init S [.ref (gG S 13 i)] (fun v S' => none = v ∧ ∃ q1, S' = (sR (sArr S 35 i q1 40) 210 i (some (gG (sArr S 35 i q1 40) 35 i)))) := by
  refine pro "CavershamShiftModel$Reader" G rfl rfl (Nat.le_of_ble_eq_true rfl) (fun p e s m below meth c ls X w hnm hl => ?_)
  have hx := X.1
  have hb := X.2.1
  have hown := X.2.2.2.1
  have hts := X.2.2.2.2.1
  have hin2 : meth.name = "<init>" := hnm
  have hl : lv_has ls 1 [(0, .ref (gG S 13 i))] := hl
  refine lv_aload_n hx hb dX13_init_0 rfl (lv_at hl 0 rfl) ?_
  refine W.objInit hx hb hown (hts _ wM_X13_1) (hts _ wIn_O_init) (hts _ wY_O_init) rfl (X.2.2.1.symm ▸ hl.1) rfl dX13_init_1 (Nat.le_of_ble_eq_true rfl) (Nat.le_of_ble_eq_true rfl) ?_
  refine W.eq (g2 := F0 m 4 ls []) rfl ?_
  refine lv_aload_n hx hb dX13_init_4 rfl (lv_at hl 0 rfl) ?_
  refine lv_bipush (v := 40) hx hb dX13_init_5 (by decide) ?_
  refine nwI (S := S) (atype := .int) (ty := .int) (n := 40) X w 35 i (fun v => n35_i v) (by decide) rfl rfl (Or.inl ⟨rfl, rfl⟩) wA_int rfl (by decide) dX13_init_7 (Nat.le_of_ble_eq_true rfl) (Nat.le_of_ble_eq_true rfl) (fun q1 S2 H hS2 w => ?_)
  subst hS2
  refine p_13_2 (S := (sArr S 35 i q1 40)) (x := (some (gG (sArr S 35 i q1 40) 35 i))) X w hin2 (Or.inl (hV)) wF_X13_7 dX13_init_9 (fun H locs w => ?_)
  exact rV X w rfl dX13_init_12 (by decide) (by decide) (⟨rfl, _, rfl⟩)

theorem Zr.of {S T : HS} (h : Zr S) (d : ∀ t i, (t = 17 ∧ i = 12) ∨ (t = 30 ∧ i = 12) ∨ t = 39 ∨ t = 40 → vV T t i → vV S t i) : Zr T := ⟨⟨fun v => h.1.1 (d _ _ (by omega) v), fun v => h.1.2 (d _ _ (by omega) v)⟩, fun i => ⟨fun v => (h.2 i).1 (d _ _ (by omega) v), fun v => (h.2 i).2 (d _ _ (by omega) v)⟩⟩
theorem QI.ta {s0 : State} {S T : HS} {nq nt : Nat} (h : QI s0 S nq nt) (e : ∀ j, j < nt → mI T 253 j = mI S 253 j) (eB : mB T 30 11 = mB S 30 11) : QI s0 T nq (nt + 1) := ⟨fun j hj => by
  obtain ⟨g, h1, h2⟩ := h.1 j hj
  exact ⟨g, by omega, by rw [eB]; exact h2⟩, Nat.le_trans h.2 (Nat.le_trans (cntB_mono nt (fun j hj z => by
  have z1 := of_decide_eq_true z
  exact decide_eq_true (by rw [e j hj]; exact z1))) (Nat.le_add_right _ _))⟩

theorem mA_addS {S : HS} {k q c : Nat} {m z : Int32} {b : Nat → Option Nat} : mA (addS S k q c m z b) = mA S := rfl
theorem mA_sNew {S : HS} {t i q : Nat} : mA (sNew S t i q) = mA S := rfl
theorem mB_sI {S : HS} {f i : Nat} {v : Int32} : mB (sI S f i v) = mB S := rfl
theorem mB_sNew {S : HS} {t i q : Nat} : mB (sNew S t i q) = mB S := rfl
theorem mB_addSo {S : HS} {k q c : Nat} {m z : Int32} {b : Nat → Option Nat} (hk : ¬ k = 11) : mB (addS S k q c m z b) 30 11 = mB S 30 11 := up2_n (fun y => hk y.2.symm)
theorem inF_mem {f : Nat} (c : inF f = true) : f = 193 ∨ f = 194 ∨ f = 195 ∨ f = 208 ∨ f = 209 ∨ f = 224 ∨ f = 225 ∨ f = 226 ∨ f = 227 ∨ f = 228 ∨ f = 229 ∨ f = 240 ∨ f = 241 ∨ f = 242 ∨ f = 243 ∨ f = 244 ∨ f = 245 ∨ f = 246 ∨ f = 247 ∨ f = 248 ∨ f = 249 ∨ f = 250 ∨ f = 251 ∨ f = 252 ∨ f = 253 ∨ f = 257 ∨ f = 258 ∨ f = 259 ∨ f = 261 := by
  unfold inF at c
  simp only [Bool.or_eq_true, Bool.and_eq_true, Nat.ble_eq, beq_iff_eq] at c
  omega
theorem dig_s {f : Nat → Int32} {a v : Int32} {n : Nat} (hf : f = fun k => if k < n then cDiv a k - cDiv a k / 10 * 10 else 0) (hv : v = cDiv a n) : upd f n (v - v / 10 * 10) = fun k => if k < n + 1 then cDiv a k - cDiv a k / 10 * 10 else 0 := by
  subst hf hv
  funext k
  by_cases e : k = n
  · subst e; rw [upd_s, if_pos (Nat.lt_succ_self k)]
  · rw [upd_o e]
    by_cases c : k < n
    · rw [if_pos c, if_pos (by omega)]
    · rw [if_neg c, if_neg (by omega)]

theorem RF.st {s0 : State} {S A : HS} {nq nt ns q1 q2 q9 c9 : Nat} {m2 z9 : Int32} {b2 : Nat → Option Nat} {a b d g e_ f : Int32} (h : RF s0 S A nq nt) : RF s0 (addS (sI (sI (sI (sI (sI (sI (sNew S 14 ns q1) 229 ns a) 224 ns b) 225 ns d) 226 ns g) 227 ns e_) 228 ns f) 6 q9 c9 m2 z9 b2) (stA A ns a b d g e_ f) nq nt := by
  refine ⟨fun f9 c j => ?_, fun t c j => ?_, h.2.2.1, fun i hi => ?_⟩
  · have z := h.1 f9 c j
    have hm := inF_mem c
    have n274 : ¬ f9 = 274 := by omega
    have n272 : ¬ f9 = 272 := by omega
    by_cases e : j = ns
    · subst e
      by_cases n16 : f9 / 16 = 14
      · rcases (show f9 = 224 ∨ f9 = 225 ∨ f9 = 226 ∨ f9 = 227 ∨ f9 = 228 ∨ f9 = 229 by omega) with rfl | rfl | rfl | rfl | rfl | rfl <;> first | (simp [stA, uI_I, uI_R, uI_A, uI_Arr, uI_N, uI_add, uR_I, uR_R, uR_A, uR_Arr, uR_N, uR_add, uG_I, uG_R, uG_A, uG_Arr, uG_N, uG_add, uA_I, uA_R, uA_A, uA_Arr, uA_N, uA_add]; done) | (simp [stA, uI_I, uI_R, uI_A, uI_Arr, uI_N, uI_add, uR_I, uR_R, uR_A, uR_Arr, uR_N, uR_add, uG_I, uG_R, uG_A, uG_Arr, uG_N, uG_add, uA_I, uA_R, uA_A, uA_Arr, uA_N, uA_add]; exact z)
      · have k224 : ¬ f9 = 224 := by omega
        have k225 : ¬ f9 = 225 := by omega
        have k226 : ¬ f9 = 226 := by omega
        have k227 : ¬ f9 = 227 := by omega
        have k228 : ¬ f9 = 228 := by omega
        have k229 : ¬ f9 = 229 := by omega
        first | (simp [stA, uI_I, uI_R, uI_A, uI_Arr, uI_N, uI_add, uR_I, uR_R, uR_A, uR_Arr, uR_N, uR_add, uG_I, uG_R, uG_A, uG_Arr, uG_N, uG_add, uA_I, uA_R, uA_A, uA_Arr, uA_N, uA_add, n16, n274, n272, k224, k225, k226, k227, k228, k229]; done) | (simp [stA, uI_I, uI_R, uI_A, uI_Arr, uI_N, uI_add, uR_I, uR_R, uR_A, uR_Arr, uR_N, uR_add, uG_I, uG_R, uG_A, uG_Arr, uG_N, uG_add, uA_I, uA_R, uA_A, uA_Arr, uA_N, uA_add, n16, n274, n272, k224, k225, k226, k227, k228, k229]; exact z)
    · first | (simp [stA, uI_I, uI_R, uI_A, uI_Arr, uI_N, uI_add, uR_I, uR_R, uR_A, uR_Arr, uR_N, uR_add, uG_I, uG_R, uG_A, uG_Arr, uG_N, uG_add, uA_I, uA_R, uA_A, uA_Arr, uA_N, uA_add, e, n274, n272]; done) | (simp [stA, uI_I, uI_R, uI_A, uI_Arr, uI_N, uI_add, uR_I, uR_R, uR_A, uR_Arr, uR_N, uR_add, uG_I, uG_R, uG_A, uG_Arr, uG_N, uG_add, uA_I, uA_R, uA_A, uA_Arr, uA_N, uA_add, e, n274, n272]; exact z)
  · exact h.2.1 t c j
  · obtain ⟨g, h1, h2, h3⟩ := h.2.2.2 i hi
    exact ⟨g, by omega, h2, h3⟩
theorem RF.ta {s0 : State} {S A : HS} {nq nt q1 q2 q9 c9 : Nat} {m2 z9 : Int32} {b2 : Nat → Option Nat} {a9 a b d g e_ f : Int32} (ea9 : a9 = a) (h : RF s0 S A nq nt) : RF s0 (addS (sI (sI (sI (sI (sI (sI (sI (sI (sI (sNew S 15 nt q1) 246 nt (-1)) 247 nt (-1)) 251 nt (-1)) 240 nt a) 241 nt b) 242 nt d) 243 nt g) 244 nt e_) 245 nt f) 9 q9 c9 m2 z9 b2) (taC A nt a9 b d g e_ f) nq (nt + 1) := by
  subst ea9
  refine ⟨fun f9 c j => ?_, fun t c j => ?_, taC_q.trans h.2.2.1, fun i hi => ?_⟩
  · have z := h.1 f9 c j
    have hm := inF_mem c
    have n274 : ¬ f9 = 274 := by omega
    have n272 : ¬ f9 = 272 := by omega
    by_cases e : j = nt
    · subst e
      by_cases n16 : f9 / 16 = 15
      · rcases (show f9 = 240 ∨ f9 = 241 ∨ f9 = 242 ∨ f9 = 243 ∨ f9 = 244 ∨ f9 = 245 ∨ f9 = 246 ∨ f9 = 247 ∨ f9 = 248 ∨ f9 = 249 ∨ f9 = 250 ∨ f9 = 251 ∨ f9 = 252 ∨ f9 = 253 by omega) with rfl | rfl | rfl | rfl | rfl | rfl | rfl | rfl | rfl | rfl | rfl | rfl | rfl | rfl <;> first | (simp [taC, taA, uI_I, uI_R, uI_A, uI_Arr, uI_N, uI_add, uR_I, uR_R, uR_A, uR_Arr, uR_N, uR_add, uG_I, uG_R, uG_A, uG_Arr, uG_N, uG_add, uA_I, uA_R, uA_A, uA_Arr, uA_N, uA_add]; done) | (simp [taC, taA, uI_I, uI_R, uI_A, uI_Arr, uI_N, uI_add, uR_I, uR_R, uR_A, uR_Arr, uR_N, uR_add, uG_I, uG_R, uG_A, uG_Arr, uG_N, uG_add, uA_I, uA_R, uA_A, uA_Arr, uA_N, uA_add]; exact z)
      · have k240 : ¬ f9 = 240 := by omega
        have k241 : ¬ f9 = 241 := by omega
        have k242 : ¬ f9 = 242 := by omega
        have k243 : ¬ f9 = 243 := by omega
        have k244 : ¬ f9 = 244 := by omega
        have k245 : ¬ f9 = 245 := by omega
        have k246 : ¬ f9 = 246 := by omega
        have k247 : ¬ f9 = 247 := by omega
        have k248 : ¬ f9 = 248 := by omega
        have k249 : ¬ f9 = 249 := by omega
        have k250 : ¬ f9 = 250 := by omega
        have k251 : ¬ f9 = 251 := by omega
        have k252 : ¬ f9 = 252 := by omega
        have k253 : ¬ f9 = 253 := by omega
        first | (simp [taC, taA, uI_I, uI_R, uI_A, uI_Arr, uI_N, uI_add, uR_I, uR_R, uR_A, uR_Arr, uR_N, uR_add, uG_I, uG_R, uG_A, uG_Arr, uG_N, uG_add, uA_I, uA_R, uA_A, uA_Arr, uA_N, uA_add, n16, n274, n272, k240, k241, k242, k243, k244, k245, k246, k247, k248, k249, k250, k251, k252, k253]; done) | (simp [taC, taA, uI_I, uI_R, uI_A, uI_Arr, uI_N, uI_add, uR_I, uR_R, uR_A, uR_Arr, uR_N, uR_add, uG_I, uG_R, uG_A, uG_Arr, uG_N, uG_add, uA_I, uA_R, uA_A, uA_Arr, uA_N, uA_add, n16, n274, n272, k240, k241, k242, k243, k244, k245, k246, k247, k248, k249, k250, k251, k252, k253]; exact z)
    · first | (simp [taC, taA, uI_I, uI_R, uI_A, uI_Arr, uI_N, uI_add, uR_I, uR_R, uR_A, uR_Arr, uR_N, uR_add, uG_I, uG_R, uG_A, uG_Arr, uG_N, uG_add, uA_I, uA_R, uA_A, uA_Arr, uA_N, uA_add, e, n274, n272]; done) | (simp [taC, taA, uI_I, uI_R, uI_A, uI_Arr, uI_N, uI_add, uR_I, uR_R, uR_A, uR_Arr, uR_N, uR_add, uG_I, uG_R, uG_A, uG_Arr, uG_N, uG_add, uA_I, uA_R, uA_A, uA_Arr, uA_N, uA_add, e, n274, n272]; exact z)
  · rw [taC_A]; simp only [mA_addS, mA_sI, mA_sNew]; exact h.2.1 t c j
  · obtain ⟨g, h1, h2, h3⟩ := h.2.2.2 i hi
    exact ⟨g, by omega, by rw [taC_A]; exact h2, by rw [mB_addSo (by decide)]; simp only [mB_sI, mB_sNew]; exact h3⟩
theorem RF.jm {s0 : State} {S A : HS} {nq nt nj q1 q9 c9 : Nat} {m2 z9 : Int32} {b2 : Nat → Option Nat} {a b : Int32} {f1 f2 : Nat → Int32} (h : RF s0 S A nq nt) (hf : f2 = upd (upd (fun _ => 0) 0 a) 1 b) : RF s0 (addS (sA (sA (sArr S 33 nj q1 2) 33 nj f1) 33 nj f2) 7 q9 c9 m2 z9 b2) (jmA A nj a b) nq nt := by
  subst hf
  refine ⟨fun f c j => ?_, fun t c j => ?_, h.2.2.1, fun i hi => ?_⟩
  · have z := h.1 f c j
    rcases inF_mem c with rfl | rfl | rfl | rfl | rfl | rfl | rfl | rfl | rfl | rfl | rfl | rfl | rfl | rfl | rfl | rfl | rfl | rfl | rfl | rfl | rfl | rfl | rfl | rfl | rfl | rfl | rfl | rfl | rfl <;> exact z
  · show up2 (up2 (up2 (mA S) 33 nj (fun _ => 0)) 33 nj f1) 33 nj _ t j = up2 (mA A) 33 nj _ t j
    by_cases e : t = 33 ∧ j = nj
    · rw [e.1, e.2, up2_s, up2_s]
    · rw [up2_n e, up2_n e, up2_n e, up2_n e]; exact h.2.1 t c j
  · obtain ⟨g, h1, h2, h3⟩ := h.2.2.2 i hi
    exact ⟨g, h1, h2, h3⟩

theorem RF.mo {s0 : State} {S A : HS} {nq nt nm q1 q2 q9 c9 : Nat} {m2 z9 : Int32} {b2 : Nat → Option Nat} {a : Int32} {f1 : Nat → Int32} (hf : f1 = dig a) (h : RF s0 S A nq nt) : RF s0 (addS (sA (sR (sArr (sNew S 12 nm q1) 34 nm q2 5) 192 nm (some (gG (sArr (sNew S 12 nm q1) 34 nm q2 5) 34 nm))) 34 nm f1) 8 q9 c9 m2 z9 b2) (moC A nm a) nq nt := by
  subst hf
  refine ⟨fun f9 c j => ?_, fun t c j => ?_, h.2.2.1, fun i hi => ?_⟩
  · have z := h.1 f9 c j
    have hm := inF_mem c
    have n274 : ¬ f9 = 274 := by omega
    have n272 : ¬ f9 = 272 := by omega
    by_cases e : j = nm
    · subst e
      by_cases n16 : f9 / 16 = 12
      · rcases (show f9 = 193 ∨ f9 = 194 ∨ f9 = 195 by omega) with rfl | rfl | rfl <;> first | (simp [moC, uI_I, uI_R, uI_A, uI_Arr, uI_N, uI_add, uR_I, uR_R, uR_A, uR_Arr, uR_N, uR_add, uG_I, uG_R, uG_A, uG_Arr, uG_N, uG_add, uA_I, uA_R, uA_A, uA_Arr, uA_N, uA_add]; done) | (simp [moC, uI_I, uI_R, uI_A, uI_Arr, uI_N, uI_add, uR_I, uR_R, uR_A, uR_Arr, uR_N, uR_add, uG_I, uG_R, uG_A, uG_Arr, uG_N, uG_add, uA_I, uA_R, uA_A, uA_Arr, uA_N, uA_add]; exact z)
      · have k193 : ¬ f9 = 193 := by omega
        have k194 : ¬ f9 = 194 := by omega
        have k195 : ¬ f9 = 195 := by omega
        first | (simp [moC, uI_I, uI_R, uI_A, uI_Arr, uI_N, uI_add, uR_I, uR_R, uR_A, uR_Arr, uR_N, uR_add, uG_I, uG_R, uG_A, uG_Arr, uG_N, uG_add, uA_I, uA_R, uA_A, uA_Arr, uA_N, uA_add, n16, n274, n272, k193, k194, k195]; done) | (simp [moC, uI_I, uI_R, uI_A, uI_Arr, uI_N, uI_add, uR_I, uR_R, uR_A, uR_Arr, uR_N, uR_add, uG_I, uG_R, uG_A, uG_Arr, uG_N, uG_add, uA_I, uA_R, uA_A, uA_Arr, uA_N, uA_add, n16, n274, n272, k193, k194, k195]; exact z)
    · first | (simp [moC, uI_I, uI_R, uI_A, uI_Arr, uI_N, uI_add, uR_I, uR_R, uR_A, uR_Arr, uR_N, uR_add, uG_I, uG_R, uG_A, uG_Arr, uG_N, uG_add, uA_I, uA_R, uA_A, uA_Arr, uA_N, uA_add, e, n274, n272]; done) | (simp [moC, uI_I, uI_R, uI_A, uI_Arr, uI_N, uI_add, uR_I, uR_R, uR_A, uR_Arr, uR_N, uR_add, uG_I, uG_R, uG_A, uG_Arr, uG_N, uG_add, uA_I, uA_R, uA_A, uA_Arr, uA_N, uA_add, e, n274, n272]; exact z)
  · show up2 (up2 (mA S) 34 nm (fun _ => 0)) 34 nm (dig a) t j = up2 (mA A) 34 nm (dig a) t j
    by_cases e : t = 34 ∧ j = nm
    · rw [e.1, e.2, up2_s, up2_s]
    · rw [up2_n e, up2_n e, up2_n e]; exact h.2.1 t c j
  · obtain ⟨g, h1, h2, h3⟩ := h.2.2.2 i hi
    exact ⟨g, by omega, h2, h3⟩
theorem RF.rd {s0 : State} {S A : HS} {nq nt nr q1 q2 q9 c9 : Nat} {m2 z9 : Int32} {b2 : Nat → Option Nat} {a b : Int32} (h : RF s0 S A nq nt) : RF s0 (addS (sI (sI (sR (sArr (sNew S 13 nr q1) 35 nr q2 40) 210 nr (some (gG (sArr (sNew S 13 nr q1) 35 nr q2 40) 35 nr))) 208 nr a) 209 nr b) 10 q9 c9 m2 z9 b2) (reC A nr a b) nq nt := by
  refine ⟨fun f9 c j => ?_, fun t c j => ?_, h.2.2.1, fun i hi => ?_⟩
  · have z := h.1 f9 c j
    have hm := inF_mem c
    have n274 : ¬ f9 = 274 := by omega
    have n272 : ¬ f9 = 272 := by omega
    by_cases e : j = nr
    · subst e
      by_cases n16 : f9 / 16 = 13
      · rcases (show f9 = 208 ∨ f9 = 209 by omega) with rfl | rfl <;> first | (simp [reC, uI_I, uI_R, uI_A, uI_Arr, uI_N, uI_add, uR_I, uR_R, uR_A, uR_Arr, uR_N, uR_add, uG_I, uG_R, uG_A, uG_Arr, uG_N, uG_add, uA_I, uA_R, uA_A, uA_Arr, uA_N, uA_add]; done) | (simp [reC, uI_I, uI_R, uI_A, uI_Arr, uI_N, uI_add, uR_I, uR_R, uR_A, uR_Arr, uR_N, uR_add, uG_I, uG_R, uG_A, uG_Arr, uG_N, uG_add, uA_I, uA_R, uA_A, uA_Arr, uA_N, uA_add]; exact z)
      · have k208 : ¬ f9 = 208 := by omega
        have k209 : ¬ f9 = 209 := by omega
        first | (simp [reC, uI_I, uI_R, uI_A, uI_Arr, uI_N, uI_add, uR_I, uR_R, uR_A, uR_Arr, uR_N, uR_add, uG_I, uG_R, uG_A, uG_Arr, uG_N, uG_add, uA_I, uA_R, uA_A, uA_Arr, uA_N, uA_add, n16, n274, n272, k208, k209]; done) | (simp [reC, uI_I, uI_R, uI_A, uI_Arr, uI_N, uI_add, uR_I, uR_R, uR_A, uR_Arr, uR_N, uR_add, uG_I, uG_R, uG_A, uG_Arr, uG_N, uG_add, uA_I, uA_R, uA_A, uA_Arr, uA_N, uA_add, n16, n274, n272, k208, k209]; exact z)
    · first | (simp [reC, uI_I, uI_R, uI_A, uI_Arr, uI_N, uI_add, uR_I, uR_R, uR_A, uR_Arr, uR_N, uR_add, uG_I, uG_R, uG_A, uG_Arr, uG_N, uG_add, uA_I, uA_R, uA_A, uA_Arr, uA_N, uA_add, e, n274, n272]; done) | (simp [reC, uI_I, uI_R, uI_A, uI_Arr, uI_N, uI_add, uR_I, uR_R, uR_A, uR_Arr, uR_N, uR_add, uG_I, uG_R, uG_A, uG_Arr, uG_N, uG_add, uA_I, uA_R, uA_A, uA_Arr, uA_N, uA_add, e, n274, n272]; exact z)
  · show up2 (mA S) 35 nr (fun _ => 0) t j = up2 (mA A) 35 nr (fun _ => 0) t j
    by_cases e : t = 35 ∧ j = nr
    · rw [e.1, e.2, up2_s, up2_s]
    · rw [up2_n e, up2_n e]; exact h.2.1 t c j
  · obtain ⟨g, h1, h2, h3⟩ := h.2.2.2 i hi
    exact ⟨g, by omega, h2, h3⟩
theorem rHas_f {S : HS} {a b y : Int32} {k : Nat} (hy : y = b2i (rHas S a b k)) (n : ¬ (mI S 240 k = a ∧ mI S 241 k = b)) : y ||| 0 = b2i (rHas S a b (k + 1)) := by
  have e : (decide (mI S 240 k = a) && decide (mI S 241 k = b)) = false := by
    cases c : (decide (mI S 240 k = a) && decide (mI S 241 k = b)) with
    | false => rfl
    | true =>
      rw [Bool.and_eq_true] at c
      exact absurd ⟨of_decide_eq_true c.1, of_decide_eq_true c.2⟩ n
  show y ||| 0 = b2i (rHas S a b k || (decide (mI S 240 k = a) && decide (mI S 241 k = b)))
  rw [hy, e]
  cases rHas S a b k <;> decide
theorem rHas_t {S : HS} {a b y : Int32} {k : Nat} (hy : y = b2i (rHas S a b k)) (h1 : mI S 240 k = a) (h2 : mI S 241 k = b) : y ||| 1 = b2i (rHas S a b (k + 1)) := by
  show y ||| 1 = b2i (rHas S a b k || (decide (mI S 240 k = a) && decide (mI S 241 k = b)))
  rw [hy, decide_eq_true h1, decide_eq_true h2]
  cases rHas S a b k <;> decide

theorem dX16_station_0 : decode cX16_station 0 = .ok (.aload_n 0, 1) := by decide +kernel
theorem dX16_station_1 : decode cX16_station 1 = .ok (.iconst 0, 1) := by decide +kernel
theorem dX16_station_2 : decode cX16_station 2 = .ok (.putfield 43, 3) := by decide +kernel
theorem dX16_station_5 : decode cX16_station 5 = .ok (.iload_n 1, 1) := by decide +kernel
theorem dX16_station_6 : decode cX16_station 6 = .ok (.iconst 0, 1) := by decide +kernel
theorem dX16_station_7 : decode cX16_station 7 = .ok (.bipush 99, 2) := by decide +kernel
theorem dX16_station_9 : decode cX16_station 9 = .ok (.invokestatic 224, 3) := by decide +kernel
theorem dX16_station_12 : decode cX16_station 12 = .ok (.ifCond .eq 54, 3) := by decide +kernel
theorem dX16_station_15 : decode cX16_station 15 = .ok (.iload_n 2, 1) := by decide +kernel
theorem dX16_station_16 : decode cX16_station 16 = .ok (.iconst 1, 1) := by decide +kernel
theorem dX16_station_17 : decode cX16_station 17 = .ok (.bipush 9, 2) := by decide +kernel
theorem dX16_station_19 : decode cX16_station 19 = .ok (.invokestatic 224, 3) := by decide +kernel
theorem dX16_station_22 : decode cX16_station 22 = .ok (.ifCond .eq 44, 3) := by decide +kernel
theorem dX16_station_25 : decode cX16_station 25 = .ok (.iload_n 3, 1) := by decide +kernel
theorem dX16_station_26 : decode cX16_station 26 = .ok (.iconst 0, 1) := by decide +kernel
theorem dX16_station_27 : decode cX16_station 27 = .ok (.bipush 9, 2) := by decide +kernel
theorem dX16_station_29 : decode cX16_station 29 = .ok (.invokestatic 224, 3) := by decide +kernel
theorem dX16_station_32 : decode cX16_station 32 = .ok (.ifCond .eq 34, 3) := by decide +kernel
theorem dX16_station_35 : decode cX16_station 35 = .ok (.iload 4, 2) := by decide +kernel
theorem dX16_station_37 : decode cX16_station 37 = .ok (.iconst 0, 1) := by decide +kernel
theorem dX16_station_38 : decode cX16_station 38 = .ok (.iconst 5, 1) := by decide +kernel
theorem dX16_station_39 : decode cX16_station 39 = .ok (.invokestatic 224, 3) := by decide +kernel
theorem dX16_station_42 : decode cX16_station 42 = .ok (.ifCond .eq 24, 3) := by decide +kernel
theorem dX16_station_45 : decode cX16_station 45 = .ok (.iload 5, 2) := by decide +kernel
theorem dX16_station_47 : decode cX16_station 47 = .ok (.iconst 0, 1) := by decide +kernel
theorem dX16_station_48 : decode cX16_station 48 = .ok (.iconst 4, 1) := by decide +kernel
theorem dX16_station_49 : decode cX16_station 49 = .ok (.invokestatic 224, 3) := by decide +kernel
theorem dX16_station_52 : decode cX16_station 52 = .ok (.ifCond .eq 14, 3) := by decide +kernel
theorem dX16_station_55 : decode cX16_station 55 = .ok (.iload 6, 2) := by decide +kernel
theorem dX16_station_57 : decode cX16_station 57 = .ok (.iconst 0, 1) := by decide +kernel
theorem dX16_station_58 : decode cX16_station 58 = .ok (.ldc 228, 2) := by decide +kernel
theorem dX16_station_60 : decode cX16_station 60 = .ok (.invokestatic 224, 3) := by decide +kernel
theorem dX16_station_63 : decode cX16_station 63 = .ok (.ifCond .ne 9, 3) := by decide +kernel
theorem dX16_station_66 : decode cX16_station 66 = .ok (.aload_n 0, 1) := by decide +kernel
theorem dX16_station_67 : decode cX16_station 67 = .ok (.iconst 1, 1) := by decide +kernel
theorem dX16_station_68 : decode cX16_station 68 = .ok (.invokevirtual 229, 3) := by decide +kernel
theorem dX16_station_71 : decode cX16_station 71 = .ok (.ireturn, 1) := by decide +kernel
theorem dX16_station_72 : decode cX16_station 72 = .ok (.aload_n 0, 1) := by decide +kernel
theorem dX16_station_73 : decode cX16_station 73 = .ok (.getfield 16, 3) := by decide +kernel
theorem dX16_station_76 : decode cX16_station 76 = .ok (.invokeinterface 73 1, 5) := by decide +kernel
theorem dX16_station_81 : decode cX16_station 81 = .ok (.bipush 8, 2) := by decide +kernel
theorem dX16_station_83 : decode cX16_station 83 = .ok (.if_icmp .ne 9, 3) := by decide +kernel
theorem dX16_station_86 : decode cX16_station 86 = .ok (.aload_n 0, 1) := by decide +kernel
theorem dX16_station_87 : decode cX16_station 87 = .ok (.iconst 2, 1) := by decide +kernel
theorem dX16_station_88 : decode cX16_station 88 = .ok (.invokevirtual 229, 3) := by decide +kernel
theorem dX16_station_91 : decode cX16_station 91 = .ok (.ireturn, 1) := by decide +kernel
theorem dX16_station_92 : decode cX16_station 92 = .ok (.aload_n 0, 1) := by decide +kernel
theorem dX16_station_93 : decode cX16_station 93 = .ok (.getfield 16, 3) := by decide +kernel
theorem dX16_station_96 : decode cX16_station 96 = .ok (.new 52, 3) := by decide +kernel
theorem dX16_station_99 : decode cX16_station 99 = .ok (.dup, 1) := by decide +kernel
theorem dX16_station_100 : decode cX16_station 100 = .ok (.iload_n 1, 1) := by decide +kernel
theorem dX16_station_101 : decode cX16_station 101 = .ok (.iload_n 2, 1) := by decide +kernel
theorem dX16_station_102 : decode cX16_station 102 = .ok (.iload_n 3, 1) := by decide +kernel
theorem dX16_station_103 : decode cX16_station 103 = .ok (.iload 4, 2) := by decide +kernel
theorem dX16_station_105 : decode cX16_station 105 = .ok (.iload 5, 2) := by decide +kernel
theorem dX16_station_107 : decode cX16_station 107 = .ok (.iload 6, 2) := by decide +kernel
theorem dX16_station_109 : decode cX16_station 109 = .ok (.invokespecial 232, 3) := by decide +kernel
theorem dX16_station_112 : decode cX16_station 112 = .ok (.invokeinterface 170 2, 5) := by decide +kernel
theorem dX16_station_117 : decode cX16_station 117 = .ok (.pop, 1) := by decide +kernel
theorem dX16_station_118 : decode cX16_station 118 = .ok (.aload_n 0, 1) := by decide +kernel
theorem dX16_station_119 : decode cX16_station 119 = .ok (.getfield 16, 3) := by decide +kernel
theorem dX16_station_122 : decode cX16_station 122 = .ok (.invokeinterface 73 1, 5) := by decide +kernel
theorem dX16_station_127 : decode cX16_station 127 = .ok (.iconst 1, 1) := by decide +kernel
theorem dX16_station_128 : decode cX16_station 128 = .ok (.isub, 1) := by decide +kernel
theorem dX16_station_129 : decode cX16_station 129 = .ok (.ireturn, 1) := by decide +kernel
abbrev rm_m_X16_station : Room := { frames := 7, cells := 2, slots := 55, locals := 191 }
set_option maxHeartbeats 4000000 in
set_option maxRecDepth 100000 in
theorem m_X16_station {s0 : State} {l : Launch} {D : va_G} {cy : Nat → ClassId} (G : Gl s0 l D cy) (S : HS) (ea ns nj nm nt nr nq : Nat) (h : RI ea S ns nj nm nt nr nq) (hea : ea = eaOf s0) (hQ : QI s0 S nq nt) (hZr : Zr S) (A : HS) (g0 : Nat) (hF : RF s0 S A nq nt) (hg : mI S 257 0 = nI g0) (a b d g e_ f : Int32) : Ctr s0 l D cy yX16_station cX16_station 7 (some .int) rm_m_X16_station S [.ref (gG S 16 0), .int a, .int b, .int d, .int g, .int e_, .int f] (PF s0 S (ns, nj, nm, nr, nt, g0, A) (stK ns a b d g e_ f) (nI ns) ((ns + 1), nj, nm, nr, nt, g0, stA A ns a b d g e_ f)) := by
  refine pro "CavershamShiftModel" G rfl rfl (Nat.le_of_ble_eq_true rfl) (fun p e s m below meth c ls X w hnm hl => ?_)
  have hx := X.1
  have hb := X.2.1
  have hown := X.2.2.2.1
  have hts := X.2.2.2.2.1
  have hl : lv_has ls 7 [(0, .ref (gG S 16 0)), (1, .int a), (2, .int b), (3, .int d), (4, .int g), (5, .int e_), (6, .int f)] := hl
  have h0 := h
  have hK : Kq refU refB refR S S := Kq.rf
  have hE : RE S A := hF.re
  refine lv_aload_n hx hb dX16_station_0 rfl (lv_at hl 0 rfl) ?_
  refine lv_iconst (v := 0) hx hb dX16_station_1 (by decide) ?_
  refine p_16_0 (S := S) (x := 0) X w h.v wF_X16_43 dX16_station_2 (fun H locs w => ?_)
  have h : RI ea (sI S 256 0 0) ns nj nm nt nr nq := h.stI (by decide)
  have hK : Kq refU refB refR S (sI S 256 0 0) := hK.sI rfl
  refine lv_iload_n hx hb dX16_station_5 rfl (lv_at hl 1 rfl) ?_
  refine lv_iconst (v := 0) hx hb dX16_station_6 (by decide) ?_
  refine lv_bipush (v := 99) hx hb dX16_station_7 (by decide) ?_
  refine cS (S := (sI S 256 0 0)) (nA := 3) (As := [.int a, .int 0, .int 99]) (rest := []) X w hl (m_X16_in G (sI S 256 0 0) a 0 99) wY_X16_in wM_X16_224 wSt_X16_in wI_X16 (by decide +kernel) rfl rfl dX16_station_9 ⟨by decide, by decide⟩ (Nat.le_of_ble_eq_true rfl) (⟨Nat.le_of_ble_eq_true rfl, Nat.le_of_ble_eq_true rfl⟩) (fun v1 S1 H locs hp w => ?_)
  obtain ⟨rfl, rfl⟩ := hp
  refine lv_if_eq (tgt := 66) hx hb dX16_station_12 (by decide) (fun hy12 => ?_) (fun hy12 => ?_)
  · refine lv_aload_n hx hb dX16_station_66 rfl (lv_at hl 0 rfl) ?_
    refine lv_iconst (v := 1) hx hb dX16_station_67 (by decide) ?_
    refine cV (S := (sI S 256 0 0)) (nA := 1) (As := [.int 1]) (rest := []) X w hl h.v (m_X16_no G (sI S 256 0 0) ea ns nj nm nt nr nq h 1) wY_X16_no wM_X16_229 wIn_X16_no wSe_X16_X16_no wI_X16 (by decide) rfl (by decide +kernel) rfl rfl dX16_station_68 ⟨by decide, by decide⟩ (Nat.le_of_ble_eq_true rfl) (⟨Nat.le_of_ble_eq_true rfl, Nat.le_of_ble_eq_true rfl⟩) (fun v2 S1 H locs hp w => ?_)
    obtain ⟨rfl, rfl⟩ := hp
    have h : RI ea (sI (sI S 256 0 0) 256 0 1) ns nj nm nt nr nq := h.stI (by decide)
    have hK : Kq refU refB refR S (sI (sI S 256 0 0) 256 0 1) := hK.sI rfl
    exact rI X w rfl dX16_station_71 (by decide) (by decide) (pf_x (k := 1) (by first | (have y : sOut a 0 99 = true := (by simpa using b2i_f hy12); simp [stK, y]) | (have y : sOut b 1 9 = true := (by simpa using b2i_f hy22); simp [stK, y]) | (have y : sOut d 0 9 = true := (by simpa using b2i_f hy32); simp [stK, y]) | (have y : sOut g 0 5 = true := (by simpa using b2i_f hy42); simp [stK, y]) | (have y : sOut e_ 0 4 = true := (by simpa using b2i_f hy52); simp [stK, y]) | (have y : sOut f 0 16777215 = true := (by simpa using b2i_f hy63); simp [stK, y])) (by decide) (by decide) ⟨_, hea ▸ h, hQ, hZr, (hF.oI rfl).oI rfl, hg⟩)
  · refine lv_iload_n hx hb dX16_station_15 rfl (lv_at hl 2 rfl) ?_
    refine lv_iconst (v := 1) hx hb dX16_station_16 (by decide) ?_
    refine lv_bipush (v := 9) hx hb dX16_station_17 (by decide) ?_
    refine cS (S := (sI S 256 0 0)) (nA := 3) (As := [.int b, .int 1, .int 9]) (rest := []) X w hl (m_X16_in G (sI S 256 0 0) b 1 9) wY_X16_in wM_X16_224 wSt_X16_in wI_X16 (by decide +kernel) rfl rfl dX16_station_19 ⟨by decide, by decide⟩ (Nat.le_of_ble_eq_true rfl) (⟨Nat.le_of_ble_eq_true rfl, Nat.le_of_ble_eq_true rfl⟩) (fun v3 S1 H locs hp w => ?_)
    obtain ⟨rfl, rfl⟩ := hp
    refine lv_if_eq (tgt := 66) hx hb dX16_station_22 (by decide) (fun hy22 => ?_) (fun hy22 => ?_)
    · refine lv_aload_n hx hb dX16_station_66 rfl (lv_at hl 0 rfl) ?_
      refine lv_iconst (v := 1) hx hb dX16_station_67 (by decide) ?_
      refine cV (S := (sI S 256 0 0)) (nA := 1) (As := [.int 1]) (rest := []) X w hl h.v (m_X16_no G (sI S 256 0 0) ea ns nj nm nt nr nq h 1) wY_X16_no wM_X16_229 wIn_X16_no wSe_X16_X16_no wI_X16 (by decide) rfl (by decide +kernel) rfl rfl dX16_station_68 ⟨by decide, by decide⟩ (Nat.le_of_ble_eq_true rfl) (⟨Nat.le_of_ble_eq_true rfl, Nat.le_of_ble_eq_true rfl⟩) (fun v4 S1 H locs hp w => ?_)
      obtain ⟨rfl, rfl⟩ := hp
      have h : RI ea (sI (sI S 256 0 0) 256 0 1) ns nj nm nt nr nq := h.stI (by decide)
      have hK : Kq refU refB refR S (sI (sI S 256 0 0) 256 0 1) := hK.sI rfl
      exact rI X w rfl dX16_station_71 (by decide) (by decide) (pf_x (k := 1) (by first | (have y : sOut a 0 99 = true := (by simpa using b2i_f hy12); simp [stK, y]) | (have y : sOut b 1 9 = true := (by simpa using b2i_f hy22); simp [stK, y]) | (have y : sOut d 0 9 = true := (by simpa using b2i_f hy32); simp [stK, y]) | (have y : sOut g 0 5 = true := (by simpa using b2i_f hy42); simp [stK, y]) | (have y : sOut e_ 0 4 = true := (by simpa using b2i_f hy52); simp [stK, y]) | (have y : sOut f 0 16777215 = true := (by simpa using b2i_f hy63); simp [stK, y])) (by decide) (by decide) ⟨_, hea ▸ h, hQ, hZr, (hF.oI rfl).oI rfl, hg⟩)
    · refine lv_iload_n hx hb dX16_station_25 rfl (lv_at hl 3 rfl) ?_
      refine lv_iconst (v := 0) hx hb dX16_station_26 (by decide) ?_
      refine lv_bipush (v := 9) hx hb dX16_station_27 (by decide) ?_
      refine cS (S := (sI S 256 0 0)) (nA := 3) (As := [.int d, .int 0, .int 9]) (rest := []) X w hl (m_X16_in G (sI S 256 0 0) d 0 9) wY_X16_in wM_X16_224 wSt_X16_in wI_X16 (by decide +kernel) rfl rfl dX16_station_29 ⟨by decide, by decide⟩ (Nat.le_of_ble_eq_true rfl) (⟨Nat.le_of_ble_eq_true rfl, Nat.le_of_ble_eq_true rfl⟩) (fun v5 S1 H locs hp w => ?_)
      obtain ⟨rfl, rfl⟩ := hp
      refine lv_if_eq (tgt := 66) hx hb dX16_station_32 (by decide) (fun hy32 => ?_) (fun hy32 => ?_)
      · refine lv_aload_n hx hb dX16_station_66 rfl (lv_at hl 0 rfl) ?_
        refine lv_iconst (v := 1) hx hb dX16_station_67 (by decide) ?_
        refine cV (S := (sI S 256 0 0)) (nA := 1) (As := [.int 1]) (rest := []) X w hl h.v (m_X16_no G (sI S 256 0 0) ea ns nj nm nt nr nq h 1) wY_X16_no wM_X16_229 wIn_X16_no wSe_X16_X16_no wI_X16 (by decide) rfl (by decide +kernel) rfl rfl dX16_station_68 ⟨by decide, by decide⟩ (Nat.le_of_ble_eq_true rfl) (⟨Nat.le_of_ble_eq_true rfl, Nat.le_of_ble_eq_true rfl⟩) (fun v6 S1 H locs hp w => ?_)
        obtain ⟨rfl, rfl⟩ := hp
        have h : RI ea (sI (sI S 256 0 0) 256 0 1) ns nj nm nt nr nq := h.stI (by decide)
        have hK : Kq refU refB refR S (sI (sI S 256 0 0) 256 0 1) := hK.sI rfl
        exact rI X w rfl dX16_station_71 (by decide) (by decide) (pf_x (k := 1) (by first | (have y : sOut a 0 99 = true := (by simpa using b2i_f hy12); simp [stK, y]) | (have y : sOut b 1 9 = true := (by simpa using b2i_f hy22); simp [stK, y]) | (have y : sOut d 0 9 = true := (by simpa using b2i_f hy32); simp [stK, y]) | (have y : sOut g 0 5 = true := (by simpa using b2i_f hy42); simp [stK, y]) | (have y : sOut e_ 0 4 = true := (by simpa using b2i_f hy52); simp [stK, y]) | (have y : sOut f 0 16777215 = true := (by simpa using b2i_f hy63); simp [stK, y])) (by decide) (by decide) ⟨_, hea ▸ h, hQ, hZr, (hF.oI rfl).oI rfl, hg⟩)
      · refine lv_iload hx hb dX16_station_35 (lv_at hl 4 rfl) ?_
        refine lv_iconst (v := 0) hx hb dX16_station_37 (by decide) ?_
        refine lv_iconst (v := 5) hx hb dX16_station_38 (by decide) ?_
        refine cS (S := (sI S 256 0 0)) (nA := 3) (As := [.int g, .int 0, .int 5]) (rest := []) X w hl (m_X16_in G (sI S 256 0 0) g 0 5) wY_X16_in wM_X16_224 wSt_X16_in wI_X16 (by decide +kernel) rfl rfl dX16_station_39 ⟨by decide, by decide⟩ (Nat.le_of_ble_eq_true rfl) (⟨Nat.le_of_ble_eq_true rfl, Nat.le_of_ble_eq_true rfl⟩) (fun v7 S1 H locs hp w => ?_)
        obtain ⟨rfl, rfl⟩ := hp
        refine lv_if_eq (tgt := 66) hx hb dX16_station_42 (by decide) (fun hy42 => ?_) (fun hy42 => ?_)
        · refine lv_aload_n hx hb dX16_station_66 rfl (lv_at hl 0 rfl) ?_
          refine lv_iconst (v := 1) hx hb dX16_station_67 (by decide) ?_
          refine cV (S := (sI S 256 0 0)) (nA := 1) (As := [.int 1]) (rest := []) X w hl h.v (m_X16_no G (sI S 256 0 0) ea ns nj nm nt nr nq h 1) wY_X16_no wM_X16_229 wIn_X16_no wSe_X16_X16_no wI_X16 (by decide) rfl (by decide +kernel) rfl rfl dX16_station_68 ⟨by decide, by decide⟩ (Nat.le_of_ble_eq_true rfl) (⟨Nat.le_of_ble_eq_true rfl, Nat.le_of_ble_eq_true rfl⟩) (fun v8 S1 H locs hp w => ?_)
          obtain ⟨rfl, rfl⟩ := hp
          have h : RI ea (sI (sI S 256 0 0) 256 0 1) ns nj nm nt nr nq := h.stI (by decide)
          have hK : Kq refU refB refR S (sI (sI S 256 0 0) 256 0 1) := hK.sI rfl
          exact rI X w rfl dX16_station_71 (by decide) (by decide) (pf_x (k := 1) (by first | (have y : sOut a 0 99 = true := (by simpa using b2i_f hy12); simp [stK, y]) | (have y : sOut b 1 9 = true := (by simpa using b2i_f hy22); simp [stK, y]) | (have y : sOut d 0 9 = true := (by simpa using b2i_f hy32); simp [stK, y]) | (have y : sOut g 0 5 = true := (by simpa using b2i_f hy42); simp [stK, y]) | (have y : sOut e_ 0 4 = true := (by simpa using b2i_f hy52); simp [stK, y]) | (have y : sOut f 0 16777215 = true := (by simpa using b2i_f hy63); simp [stK, y])) (by decide) (by decide) ⟨_, hea ▸ h, hQ, hZr, (hF.oI rfl).oI rfl, hg⟩)
        · refine lv_iload hx hb dX16_station_45 (lv_at hl 5 rfl) ?_
          refine lv_iconst (v := 0) hx hb dX16_station_47 (by decide) ?_
          refine lv_iconst (v := 4) hx hb dX16_station_48 (by decide) ?_
          refine cS (S := (sI S 256 0 0)) (nA := 3) (As := [.int e_, .int 0, .int 4]) (rest := []) X w hl (m_X16_in G (sI S 256 0 0) e_ 0 4) wY_X16_in wM_X16_224 wSt_X16_in wI_X16 (by decide +kernel) rfl rfl dX16_station_49 ⟨by decide, by decide⟩ (Nat.le_of_ble_eq_true rfl) (⟨Nat.le_of_ble_eq_true rfl, Nat.le_of_ble_eq_true rfl⟩) (fun v9 S1 H locs hp w => ?_)
          obtain ⟨rfl, rfl⟩ := hp
          refine lv_if_eq (tgt := 66) hx hb dX16_station_52 (by decide) (fun hy52 => ?_) (fun hy52 => ?_)
          · refine lv_aload_n hx hb dX16_station_66 rfl (lv_at hl 0 rfl) ?_
            refine lv_iconst (v := 1) hx hb dX16_station_67 (by decide) ?_
            refine cV (S := (sI S 256 0 0)) (nA := 1) (As := [.int 1]) (rest := []) X w hl h.v (m_X16_no G (sI S 256 0 0) ea ns nj nm nt nr nq h 1) wY_X16_no wM_X16_229 wIn_X16_no wSe_X16_X16_no wI_X16 (by decide) rfl (by decide +kernel) rfl rfl dX16_station_68 ⟨by decide, by decide⟩ (Nat.le_of_ble_eq_true rfl) (⟨Nat.le_of_ble_eq_true rfl, Nat.le_of_ble_eq_true rfl⟩) (fun v10 S1 H locs hp w => ?_)
            obtain ⟨rfl, rfl⟩ := hp
            have h : RI ea (sI (sI S 256 0 0) 256 0 1) ns nj nm nt nr nq := h.stI (by decide)
            have hK : Kq refU refB refR S (sI (sI S 256 0 0) 256 0 1) := hK.sI rfl
            exact rI X w rfl dX16_station_71 (by decide) (by decide) (pf_x (k := 1) (by first | (have y : sOut a 0 99 = true := (by simpa using b2i_f hy12); simp [stK, y]) | (have y : sOut b 1 9 = true := (by simpa using b2i_f hy22); simp [stK, y]) | (have y : sOut d 0 9 = true := (by simpa using b2i_f hy32); simp [stK, y]) | (have y : sOut g 0 5 = true := (by simpa using b2i_f hy42); simp [stK, y]) | (have y : sOut e_ 0 4 = true := (by simpa using b2i_f hy52); simp [stK, y]) | (have y : sOut f 0 16777215 = true := (by simpa using b2i_f hy63); simp [stK, y])) (by decide) (by decide) ⟨_, hea ▸ h, hQ, hZr, (hF.oI rfl).oI rfl, hg⟩)
          · refine lv_iload hx hb dX16_station_55 (lv_at hl 6 rfl) ?_
            refine lv_iconst (v := 0) hx hb dX16_station_57 (by decide) ?_
            refine lv_ldc hx hb hown (hts _ wK_X16_228) dX16_station_58 ?_
            refine cS (S := (sI S 256 0 0)) (nA := 3) (As := [.int f, .int 0, .int 16777215]) (rest := []) X w hl (m_X16_in G (sI S 256 0 0) f 0 16777215) wY_X16_in wM_X16_224 wSt_X16_in wI_X16 (by decide +kernel) rfl rfl dX16_station_60 ⟨by decide, by decide⟩ (Nat.le_of_ble_eq_true rfl) (⟨Nat.le_of_ble_eq_true rfl, Nat.le_of_ble_eq_true rfl⟩) (fun v11 S1 H locs hp w => ?_)
            obtain ⟨rfl, rfl⟩ := hp
            refine lv_if_ne (tgt := 72) hx hb dX16_station_63 (by decide) (fun hy63 => ?_) (fun hy63 => ?_)
            · refine lv_aload_n hx hb dX16_station_72 rfl (lv_at hl 0 rfl) ?_
              refine g_16_6 (S := (sI S 256 0 0)) (x := (some (gG (sI S 256 0 0) 17 6))) X w h.v wF_X16_16 (h.f_st) dX16_station_73 ?_
              refine cF (S := (sI S 256 0 0)) (t := 17) (nA := 0) (As := []) (rest := []) X w hl h.l_st.1 (m_size G (sI S 256 0 0) ea 6 ns h.l_st) wY_Jx4a65c_size_8abf5 wM_X16_73 wIn_Jx4a65c_size_8abf5 wSe_Jx4a65c_Jx4a65c_size_8abf5_of_java_util_List_size___I wI_Jx4a65c fw_size (by decide) rfl (by decide +kernel) rfl rfl dX16_station_76 ⟨by decide, by decide⟩ (Nat.le_of_ble_eq_true rfl) (⟨Nat.le_of_ble_eq_true rfl, Nat.le_of_ble_eq_true rfl⟩) (fun v12 S1 H locs hp w => ?_)
              obtain ⟨rfl, rfl⟩ := hp
              refine lv_bipush (v := 8) hx hb dX16_station_81 (by decide) ?_
              refine lv_icmp_ne (tgt := 92) hx hb dX16_station_83 (by decide) (fun hc_n => ?_) (fun hc_n => ?_)
              · have hn9 : ns < 8 := Nat.lt_of_le_of_ne h.b_st (fun z => hc_n (by rw [z]; rfl))
                refine lv_aload_n hx hb dX16_station_92 rfl (lv_at hl 0 rfl) ?_
                refine g_16_6 (S := (sI S 256 0 0)) (x := (some (gG (sI S 256 0 0) 17 6))) X w h.v wF_X16_16 (h.f_st) dX16_station_93 ?_
                refine nwO (S := (sI S 256 0 0)) (t := 14) (n := 6) X w ns (h.z_st ns (Nat.le_refl _)) (Or.inl (by decide)) (by decide) rfl in_14 tyX14 tyX14_ok (by decide +kernel) wC_X16_52 wNew_X14 wI_X14 dX16_station_96 rfl (Nat.le_of_ble_eq_true rfl) (Nat.le_of_ble_eq_true rfl) (fun q1 S2 H hS2 w => ?_)
                subst hS2
                refine lv_dup hx hb dX16_station_99 rfl ?_
                refine lv_iload_n hx hb dX16_station_100 rfl (lv_at hl 1 rfl) ?_
                refine lv_iload_n hx hb dX16_station_101 rfl (lv_at hl 2 rfl) ?_
                refine lv_iload_n hx hb dX16_station_102 rfl (lv_at hl 3 rfl) ?_
                refine lv_iload hx hb dX16_station_103 (lv_at hl 4 rfl) ?_
                refine lv_iload hx hb dX16_station_105 (lv_at hl 5 rfl) ?_
                refine lv_iload hx hb dX16_station_107 (lv_at hl 6 rfl) ?_
                refine cI (S := (sNew (sI S 256 0 0) 14 ns q1)) (nA := 6) (As := [.int a, .int b, .int d, .int g, .int e_, .int f]) (rest := [.ref (gG (sNew (sI S 256 0 0) 14 ns q1) 14 ns), .ref (gG (sI S 256 0 0) 17 6)]) X w hl (m_X14_init G (sNew (sI S 256 0 0) 14 ns q1) ns (Or.inr ⟨rfl, rfl⟩) a b d g e_ f) wY_X14_init wM_X16_232 wIn_X14_init wI_X14 rfl (by decide +kernel) rfl rfl dX16_station_109 ⟨by decide, by decide⟩ (Nat.le_of_ble_eq_true rfl) (⟨Nat.le_of_ble_eq_true rfl, Nat.le_of_ble_eq_true rfl⟩) (fun v13 S1 H locs hp w => ?_)
                obtain ⟨rfl, rfl⟩ := hp
                refine cF (S := (sI (sI (sI (sI (sI (sI (sNew (sI S 256 0 0) 14 ns q1) 229 ns a) 224 ns b) 225 ns d) 226 ns g) 227 ns e_) 228 ns f)) (t := 17) (nA := 1) (As := [.ref (gG (sNew (sI S 256 0 0) 14 ns q1) 14 ns)]) (rest := []) X w hl (Or.inl (h.l_st.1)) (add_T G (sI S 256 0 0) (sI (sI (sI (sI (sI (sI (sNew (sI S 256 0 0) 14 ns q1) 229 ns a) 224 ns b) 225 ns d) 226 ns g) 227 ns e_) 228 ns f) 6 ns (gG (sI (sI (sI (sI (sI (sI (sNew (sI S 256 0 0) 14 ns q1) 229 ns a) 224 ns b) 225 ns d) 226 ns g) 227 ns e_) 228 ns f) 14 ns) (hea ▸ h.l_st) (by have := h.b_st; omega) h.z30.1 (h.z31 6) h.el_st (fun t i v => ⟨Or.inl (v), (up2_n (fun z => h.z_st ns (Nat.le_refl _) (by rw [← z.1, ← z.2]; exact v)))⟩) (fun v => v.elim (fun v => v) (fun e => absurd e.1 (by decide))) (fun v => v.elim (fun v => v) (fun e => absurd e.1 (by decide))) rfl rfl rfl rfl (Or.inl ⟨14, ns, Or.inr ⟨rfl, rfl⟩, by decide, rfl⟩)) wY_Jx4a65c_add_9ea2d wM_X16_170 wIn_Jx4a65c_add_9ea2d wSe_Jx4a65c_Jx4a65c_add_9ea2d_of_java_util_List_add__Ljava_lang_Object__Z wI_Jx4a65c fw_add (by decide) rfl (by decide +kernel) rfl rfl dX16_station_112 ⟨by decide, by decide⟩ (Nat.le_of_ble_eq_true rfl) (⟨Nat.le_of_ble_eq_true rfl, Nat.le_of_ble_eq_true rfl⟩) (fun v14 S1 H locs hp w => ?_)
                obtain ⟨rfl, q9, m2, b2, rfl, hb0, hb1⟩ := hp
                have hQ : QI s0 (addS (sI (sI (sI (sI (sI (sI (sNew (sI S 256 0 0) 14 ns q1) 229 ns a) 224 ns b) 225 ns d) 226 ns g) 227 ns e_) 228 ns f) 6 q9 (capOf (ns + 1)) m2 (nI (ns + 1)) b2) nq nt := ⟨hQ.1, hQ.2⟩
                have hK : Kq refU refB refR S (addS (sI (sI (sI (sI (sI (sI (sNew (sI S 256 0 0) 14 ns q1) 229 ns a) 224 ns b) 225 ns d) 226 ns g) 227 ns e_) 228 ns f) 6 q9 (capOf (ns + 1)) m2 (nI (ns + 1)) b2) := hK.tr kr_add_st
                have h : RI ea (addS (sI (sI (sI (sI (sI (sI (sNew (sI S 256 0 0) 14 ns q1) 229 ns a) 224 ns b) 225 ns d) 226 ns g) 227 ns e_) 228 ns f) 6 q9 (capOf (ns + 1)) m2 (nI (ns + 1)) b2) (ns + 1) nj nm nt nr nq := h.add_st hn9 (out_in (n := 5) (by decide) (by rw [show (nI 5 - 1 : Int32) = 4 by decide]; simpa using b2i_t hy52)) hb0 hb1
                have hZr : Zr (addS (sI (sI (sI (sI (sI (sI (sNew (sI S 256 0 0) 14 ns q1) 229 ns a) 224 ns b) 225 ns d) 226 ns g) 227 ns e_) 228 ns f) 6 q9 (capOf (ns + 1)) m2 (nI (ns + 1)) b2) := hZr.of (fun t i z v => v.elim (fun v => v.elim (fun v => v) (fun e => absurd e (by omega))) (fun e => absurd e (by omega)))
                refine lv_pop hx hb dX16_station_117 rfl ?_
                refine lv_aload_n hx hb dX16_station_118 rfl (lv_at hl 0 rfl) ?_
                refine g_16_6 (S := (addS (sI (sI (sI (sI (sI (sI (sNew (sI S 256 0 0) 14 ns q1) 229 ns a) 224 ns b) 225 ns d) 226 ns g) 227 ns e_) 228 ns f) 6 q9 (capOf (ns + 1)) m2 (nI (ns + 1)) b2)) (x := (some (gG (addS (sI (sI (sI (sI (sI (sI (sNew (sI S 256 0 0) 14 ns q1) 229 ns a) 224 ns b) 225 ns d) 226 ns g) 227 ns e_) 228 ns f) 6 q9 (capOf (ns + 1)) m2 (nI (ns + 1)) b2) 17 6))) X w h.v wF_X16_16 (h.f_st) dX16_station_119 ?_
                refine cF (S := (addS (sI (sI (sI (sI (sI (sI (sNew (sI S 256 0 0) 14 ns q1) 229 ns a) 224 ns b) 225 ns d) 226 ns g) 227 ns e_) 228 ns f) 6 q9 (capOf (ns + 1)) m2 (nI (ns + 1)) b2)) (t := 17) (nA := 0) (As := []) (rest := []) X w hl h.l_st.1 (m_size G (addS (sI (sI (sI (sI (sI (sI (sNew (sI S 256 0 0) 14 ns q1) 229 ns a) 224 ns b) 225 ns d) 226 ns g) 227 ns e_) 228 ns f) 6 q9 (capOf (ns + 1)) m2 (nI (ns + 1)) b2) ea 6 (ns + 1) h.l_st) wY_Jx4a65c_size_8abf5 wM_X16_73 wIn_Jx4a65c_size_8abf5 wSe_Jx4a65c_Jx4a65c_size_8abf5_of_java_util_List_size___I wI_Jx4a65c fw_size (by decide) rfl (by decide +kernel) rfl rfl dX16_station_122 ⟨by decide, by decide⟩ (Nat.le_of_ble_eq_true rfl) (⟨Nat.le_of_ble_eq_true rfl, Nat.le_of_ble_eq_true rfl⟩) (fun v15 S1 H locs hp w => ?_)
                obtain ⟨rfl, rfl⟩ := hp
                refine lv_iconst (v := 1) hx hb dX16_station_127 (by decide) ?_
                refine lv_isub hx hb dX16_station_128 ?_
                exact rI X w rfl dX16_station_129 (by decide) (by decide) (Or.inr ⟨by have z12 : sOut a 0 99 = false := (by simpa using b2i_t hy12); have z22 : sOut b 1 9 = false := (by simpa using b2i_t hy22); have z32 : sOut d 0 9 = false := (by simpa using b2i_t hy32); have z42 : sOut g 0 5 = false := (by simpa using b2i_t hy42); have z52 : sOut e_ 0 4 = false := (by simpa using b2i_t hy52); have z63 : sOut f 0 16777215 = false := (by simpa using b2i_t hy63); simp [stK, z12, z22, z32, z42, z52, z63, Nat.not_le.mpr hn9], by rw [nI_p1], ⟨_, hea ▸ h, hQ, hZr, (RF.st (q2 := 0) (hF.oI (f := 256) (i := 0) (v := 0) rfl)), hg⟩, hK, by simp [mI, mR, gG, mN, mB, mA, sI, sR, sA, sArr, sNew, addS, up2]⟩)
              · have hn9 : 8 ≤ ns := Nat.le_of_eq (nI_injN (by have := h.b_st; omega) (by decide) (hc_n.trans (by decide : (8 : Int32) = nI 8))).symm
                refine lv_aload_n hx hb dX16_station_86 rfl (lv_at hl 0 rfl) ?_
                refine lv_iconst (v := 2) hx hb dX16_station_87 (by decide) ?_
                refine cV (S := (sI S 256 0 0)) (nA := 1) (As := [.int 2]) (rest := []) X w hl h.v (m_X16_no G (sI S 256 0 0) ea ns nj nm nt nr nq h 2) wY_X16_no wM_X16_229 wIn_X16_no wSe_X16_X16_no wI_X16 (by decide) rfl (by decide +kernel) rfl rfl dX16_station_88 ⟨by decide, by decide⟩ (Nat.le_of_ble_eq_true rfl) (⟨Nat.le_of_ble_eq_true rfl, Nat.le_of_ble_eq_true rfl⟩) (fun v16 S1 H locs hp w => ?_)
                obtain ⟨rfl, rfl⟩ := hp
                have h : RI ea (sI (sI S 256 0 0) 256 0 2) ns nj nm nt nr nq := h.stI (by decide)
                have hK : Kq refU refB refR S (sI (sI S 256 0 0) 256 0 2) := hK.sI rfl
                exact rI X w rfl dX16_station_91 (by decide) (by decide) (pf_x (k := 2) (by have z12 : sOut a 0 99 = false := (by simpa using b2i_t hy12); have z22 : sOut b 1 9 = false := (by simpa using b2i_t hy22); have z32 : sOut d 0 9 = false := (by simpa using b2i_t hy32); have z42 : sOut g 0 5 = false := (by simpa using b2i_t hy42); have z52 : sOut e_ 0 4 = false := (by simpa using b2i_t hy52); have z63 : sOut f 0 16777215 = false := (by simpa using b2i_t hy63); simp [stK, z12, z22, z32, z42, z52, z63, hn9]) (by decide) (by decide) ⟨_, hea ▸ h, hQ, hZr, (hF.oI rfl).oI rfl, hg⟩)
            · refine lv_aload_n hx hb dX16_station_66 rfl (lv_at hl 0 rfl) ?_
              refine lv_iconst (v := 1) hx hb dX16_station_67 (by decide) ?_
              refine cV (S := (sI S 256 0 0)) (nA := 1) (As := [.int 1]) (rest := []) X w hl h.v (m_X16_no G (sI S 256 0 0) ea ns nj nm nt nr nq h 1) wY_X16_no wM_X16_229 wIn_X16_no wSe_X16_X16_no wI_X16 (by decide) rfl (by decide +kernel) rfl rfl dX16_station_68 ⟨by decide, by decide⟩ (Nat.le_of_ble_eq_true rfl) (⟨Nat.le_of_ble_eq_true rfl, Nat.le_of_ble_eq_true rfl⟩) (fun v17 S1 H locs hp w => ?_)
              obtain ⟨rfl, rfl⟩ := hp
              have h : RI ea (sI (sI S 256 0 0) 256 0 1) ns nj nm nt nr nq := h.stI (by decide)
              have hK : Kq refU refB refR S (sI (sI S 256 0 0) 256 0 1) := hK.sI rfl
              exact rI X w rfl dX16_station_71 (by decide) (by decide) (pf_x (k := 1) (by first | (have y : sOut a 0 99 = true := (by simpa using b2i_f hy12); simp [stK, y]) | (have y : sOut b 1 9 = true := (by simpa using b2i_f hy22); simp [stK, y]) | (have y : sOut d 0 9 = true := (by simpa using b2i_f hy32); simp [stK, y]) | (have y : sOut g 0 5 = true := (by simpa using b2i_f hy42); simp [stK, y]) | (have y : sOut e_ 0 4 = true := (by simpa using b2i_f hy52); simp [stK, y]) | (have y : sOut f 0 16777215 = true := (by simpa using b2i_f hy63); simp [stK, y])) (by decide) (by decide) ⟨_, hea ▸ h, hQ, hZr, (hF.oI rfl).oI rfl, hg⟩)

theorem dX16_jammer_0 : decode cX16_jammer 0 = .ok (.aload_n 0, 1) := by decide +kernel
theorem dX16_jammer_1 : decode cX16_jammer 1 = .ok (.iconst 0, 1) := by decide +kernel
theorem dX16_jammer_2 : decode cX16_jammer 2 = .ok (.putfield 43, 3) := by decide +kernel
theorem dX16_jammer_5 : decode cX16_jammer 5 = .ok (.iload_n 1, 1) := by decide +kernel
theorem dX16_jammer_6 : decode cX16_jammer 6 = .ok (.iconst 0, 1) := by decide +kernel
theorem dX16_jammer_7 : decode cX16_jammer 7 = .ok (.bipush 99, 2) := by decide +kernel
theorem dX16_jammer_9 : decode cX16_jammer 9 = .ok (.invokestatic 224, 3) := by decide +kernel
theorem dX16_jammer_12 : decode cX16_jammer 12 = .ok (.ifCond .eq 13, 3) := by decide +kernel
theorem dX16_jammer_15 : decode cX16_jammer 15 = .ok (.iload_n 2, 1) := by decide +kernel
theorem dX16_jammer_16 : decode cX16_jammer 16 = .ok (.iconst 0, 1) := by decide +kernel
theorem dX16_jammer_17 : decode cX16_jammer 17 = .ok (.bipush 9, 2) := by decide +kernel
theorem dX16_jammer_19 : decode cX16_jammer 19 = .ok (.invokestatic 224, 3) := by decide +kernel
theorem dX16_jammer_22 : decode cX16_jammer 22 = .ok (.ifCond .ne 9, 3) := by decide +kernel
theorem dX16_jammer_25 : decode cX16_jammer 25 = .ok (.aload_n 0, 1) := by decide +kernel
theorem dX16_jammer_26 : decode cX16_jammer 26 = .ok (.iconst 1, 1) := by decide +kernel
theorem dX16_jammer_27 : decode cX16_jammer 27 = .ok (.invokevirtual 229, 3) := by decide +kernel
theorem dX16_jammer_30 : decode cX16_jammer 30 = .ok (.ireturn, 1) := by decide +kernel
theorem dX16_jammer_31 : decode cX16_jammer 31 = .ok (.aload_n 0, 1) := by decide +kernel
theorem dX16_jammer_32 : decode cX16_jammer 32 = .ok (.getfield 20, 3) := by decide +kernel
theorem dX16_jammer_35 : decode cX16_jammer 35 = .ok (.invokeinterface 73 1, 5) := by decide +kernel
theorem dX16_jammer_40 : decode cX16_jammer 40 = .ok (.bipush 6, 2) := by decide +kernel
theorem dX16_jammer_42 : decode cX16_jammer 42 = .ok (.if_icmp .ne 9, 3) := by decide +kernel
theorem dX16_jammer_45 : decode cX16_jammer 45 = .ok (.aload_n 0, 1) := by decide +kernel
theorem dX16_jammer_46 : decode cX16_jammer 46 = .ok (.iconst 2, 1) := by decide +kernel
theorem dX16_jammer_47 : decode cX16_jammer 47 = .ok (.invokevirtual 229, 3) := by decide +kernel
theorem dX16_jammer_50 : decode cX16_jammer 50 = .ok (.ireturn, 1) := by decide +kernel
theorem dX16_jammer_51 : decode cX16_jammer 51 = .ok (.aload_n 0, 1) := by decide +kernel
theorem dX16_jammer_52 : decode cX16_jammer 52 = .ok (.getfield 20, 3) := by decide +kernel
theorem dX16_jammer_55 : decode cX16_jammer 55 = .ok (.iconst 2, 1) := by decide +kernel
theorem dX16_jammer_56 : decode cX16_jammer 56 = .ok (.newarray .int, 2) := by decide +kernel
theorem dX16_jammer_58 : decode cX16_jammer 58 = .ok (.dup, 1) := by decide +kernel
theorem dX16_jammer_59 : decode cX16_jammer 59 = .ok (.iconst 0, 1) := by decide +kernel
theorem dX16_jammer_60 : decode cX16_jammer 60 = .ok (.iload_n 1, 1) := by decide +kernel
theorem dX16_jammer_61 : decode cX16_jammer 61 = .ok (.iastore, 1) := by decide +kernel
theorem dX16_jammer_62 : decode cX16_jammer 62 = .ok (.dup, 1) := by decide +kernel
theorem dX16_jammer_63 : decode cX16_jammer 63 = .ok (.iconst 1, 1) := by decide +kernel
theorem dX16_jammer_64 : decode cX16_jammer 64 = .ok (.iload_n 2, 1) := by decide +kernel
theorem dX16_jammer_65 : decode cX16_jammer 65 = .ok (.iastore, 1) := by decide +kernel
theorem dX16_jammer_66 : decode cX16_jammer 66 = .ok (.invokeinterface 170 2, 5) := by decide +kernel
theorem dX16_jammer_71 : decode cX16_jammer 71 = .ok (.pop, 1) := by decide +kernel
theorem dX16_jammer_72 : decode cX16_jammer 72 = .ok (.aload_n 0, 1) := by decide +kernel
theorem dX16_jammer_73 : decode cX16_jammer 73 = .ok (.getfield 20, 3) := by decide +kernel
theorem dX16_jammer_76 : decode cX16_jammer 76 = .ok (.invokeinterface 73 1, 5) := by decide +kernel
theorem dX16_jammer_81 : decode cX16_jammer 81 = .ok (.iconst 1, 1) := by decide +kernel
theorem dX16_jammer_82 : decode cX16_jammer 82 = .ok (.isub, 1) := by decide +kernel
theorem dX16_jammer_83 : decode cX16_jammer 83 = .ok (.ireturn, 1) := by decide +kernel
abbrev rm_m_X16_jammer : Room := { frames := 7, cells := 2, slots := 51, locals := 191 }
set_option maxHeartbeats 4000000 in
set_option maxRecDepth 100000 in
theorem m_X16_jammer {s0 : State} {l : Launch} {D : va_G} {cy : Nat → ClassId} (G : Gl s0 l D cy) (S : HS) (ea ns nj nm nt nr nq : Nat) (h : RI ea S ns nj nm nt nr nq) (hea : ea = eaOf s0) (hQ : QI s0 S nq nt) (hZr : Zr S) (A : HS) (g0 : Nat) (hF : RF s0 S A nq nt) (hg : mI S 257 0 = nI g0) (a b : Int32) : Ctr s0 l D cy yX16_jammer cX16_jammer 3 (some .int) rm_m_X16_jammer S [.ref (gG S 16 0), .int a, .int b] (PF s0 S (ns, nj, nm, nr, nt, g0, A) (jmK nj a b) (nI nj) (ns, (nj + 1), nm, nr, nt, g0, jmA A nj a b)) := by
  refine pro "CavershamShiftModel" G rfl rfl (Nat.le_of_ble_eq_true rfl) (fun p e s m below meth c ls X w hnm hl => ?_)
  have hx := X.1
  have hb := X.2.1
  have hown := X.2.2.2.1
  have hts := X.2.2.2.2.1
  have hl : lv_has ls 3 [(0, .ref (gG S 16 0)), (1, .int a), (2, .int b)] := hl
  have h0 := h
  have hK : Kq refU refB refR S S := Kq.rf
  have hE : RE S A := hF.re
  refine lv_aload_n hx hb dX16_jammer_0 rfl (lv_at hl 0 rfl) ?_
  refine lv_iconst (v := 0) hx hb dX16_jammer_1 (by decide) ?_
  refine p_16_0 (S := S) (x := 0) X w h.v wF_X16_43 dX16_jammer_2 (fun H locs w => ?_)
  have h : RI ea (sI S 256 0 0) ns nj nm nt nr nq := h.stI (by decide)
  have hK : Kq refU refB refR S (sI S 256 0 0) := hK.sI rfl
  refine lv_iload_n hx hb dX16_jammer_5 rfl (lv_at hl 1 rfl) ?_
  refine lv_iconst (v := 0) hx hb dX16_jammer_6 (by decide) ?_
  refine lv_bipush (v := 99) hx hb dX16_jammer_7 (by decide) ?_
  refine cS (S := (sI S 256 0 0)) (nA := 3) (As := [.int a, .int 0, .int 99]) (rest := []) X w hl (m_X16_in G (sI S 256 0 0) a 0 99) wY_X16_in wM_X16_224 wSt_X16_in wI_X16 (by decide +kernel) rfl rfl dX16_jammer_9 ⟨by decide, by decide⟩ (Nat.le_of_ble_eq_true rfl) (⟨Nat.le_of_ble_eq_true rfl, Nat.le_of_ble_eq_true rfl⟩) (fun v1 S1 H locs hp w => ?_)
  obtain ⟨rfl, rfl⟩ := hp
  refine lv_if_eq (tgt := 25) hx hb dX16_jammer_12 (by decide) (fun hy12 => ?_) (fun hy12 => ?_)
  · refine lv_aload_n hx hb dX16_jammer_25 rfl (lv_at hl 0 rfl) ?_
    refine lv_iconst (v := 1) hx hb dX16_jammer_26 (by decide) ?_
    refine cV (S := (sI S 256 0 0)) (nA := 1) (As := [.int 1]) (rest := []) X w hl h.v (m_X16_no G (sI S 256 0 0) ea ns nj nm nt nr nq h 1) wY_X16_no wM_X16_229 wIn_X16_no wSe_X16_X16_no wI_X16 (by decide) rfl (by decide +kernel) rfl rfl dX16_jammer_27 ⟨by decide, by decide⟩ (Nat.le_of_ble_eq_true rfl) (⟨Nat.le_of_ble_eq_true rfl, Nat.le_of_ble_eq_true rfl⟩) (fun v2 S1 H locs hp w => ?_)
    obtain ⟨rfl, rfl⟩ := hp
    have h : RI ea (sI (sI S 256 0 0) 256 0 1) ns nj nm nt nr nq := h.stI (by decide)
    have hK : Kq refU refB refR S (sI (sI S 256 0 0) 256 0 1) := hK.sI rfl
    exact rI X w rfl dX16_jammer_30 (by decide) (by decide) (pf_x (k := 1) (by first | (have y : sOut a 0 99 = true := (by simpa using b2i_f hy12); simp [jmK, y]) | (have y : sOut b 0 9 = true := (by simpa using b2i_f hy22); simp [jmK, y])) (by decide) (by decide) ⟨_, hea ▸ h, hQ, hZr, (hF.oI rfl).oI rfl, hg⟩)
  · refine lv_iload_n hx hb dX16_jammer_15 rfl (lv_at hl 2 rfl) ?_
    refine lv_iconst (v := 0) hx hb dX16_jammer_16 (by decide) ?_
    refine lv_bipush (v := 9) hx hb dX16_jammer_17 (by decide) ?_
    refine cS (S := (sI S 256 0 0)) (nA := 3) (As := [.int b, .int 0, .int 9]) (rest := []) X w hl (m_X16_in G (sI S 256 0 0) b 0 9) wY_X16_in wM_X16_224 wSt_X16_in wI_X16 (by decide +kernel) rfl rfl dX16_jammer_19 ⟨by decide, by decide⟩ (Nat.le_of_ble_eq_true rfl) (⟨Nat.le_of_ble_eq_true rfl, Nat.le_of_ble_eq_true rfl⟩) (fun v3 S1 H locs hp w => ?_)
    obtain ⟨rfl, rfl⟩ := hp
    refine lv_if_ne (tgt := 31) hx hb dX16_jammer_22 (by decide) (fun hy22 => ?_) (fun hy22 => ?_)
    · refine lv_aload_n hx hb dX16_jammer_31 rfl (lv_at hl 0 rfl) ?_
      refine g_16_7 (S := (sI S 256 0 0)) (x := (some (gG (sI S 256 0 0) 17 7))) X w h.v wF_X16_20 (h.f_jm) dX16_jammer_32 ?_
      refine cF (S := (sI S 256 0 0)) (t := 17) (nA := 0) (As := []) (rest := []) X w hl h.l_jm.1 (m_size G (sI S 256 0 0) ea 7 nj h.l_jm) wY_Jx4a65c_size_8abf5 wM_X16_73 wIn_Jx4a65c_size_8abf5 wSe_Jx4a65c_Jx4a65c_size_8abf5_of_java_util_List_size___I wI_Jx4a65c fw_size (by decide) rfl (by decide +kernel) rfl rfl dX16_jammer_35 ⟨by decide, by decide⟩ (Nat.le_of_ble_eq_true rfl) (⟨Nat.le_of_ble_eq_true rfl, Nat.le_of_ble_eq_true rfl⟩) (fun v4 S1 H locs hp w => ?_)
      obtain ⟨rfl, rfl⟩ := hp
      refine lv_bipush (v := 6) hx hb dX16_jammer_40 (by decide) ?_
      refine lv_icmp_ne (tgt := 51) hx hb dX16_jammer_42 (by decide) (fun hc_n => ?_) (fun hc_n => ?_)
      · have hn9 : nj < 6 := Nat.lt_of_le_of_ne h.b_jm (fun z => hc_n (by rw [z]; rfl))
        refine lv_aload_n hx hb dX16_jammer_51 rfl (lv_at hl 0 rfl) ?_
        refine g_16_7 (S := (sI S 256 0 0)) (x := (some (gG (sI S 256 0 0) 17 7))) X w h.v wF_X16_20 (h.f_jm) dX16_jammer_52 ?_
        refine lv_iconst (v := 2) hx hb dX16_jammer_55 (by decide) ?_
        refine nwI (S := (sI S 256 0 0)) (atype := .int) (ty := .int) (n := 2) X w 33 nj (h.z_jm nj (Nat.le_refl _)) (by decide) rfl rfl (Or.inl ⟨rfl, rfl⟩) wA_int rfl (by decide) dX16_jammer_56 (Nat.le_of_ble_eq_true rfl) (Nat.le_of_ble_eq_true rfl) (fun q1 S2 H hS2 w => ?_)
        subst hS2
        refine lv_dup hx hb dX16_jammer_58 rfl ?_
        refine lv_iconst (v := 0) hx hb dX16_jammer_59 (by decide) ?_
        refine lv_iload_n hx hb dX16_jammer_60 rfl (lv_at hl 1 rfl) ?_
        refine aStI (S := (sArr (sI S 256 0 0) 33 nj q1 2)) (t := 33) X w (Or.inr ⟨rfl, rfl⟩) (by decide) rfl rfl (by rw [show mN (sArr (sI S 256 0 0) 33 nj q1 2) 33 nj = 2 by simp [mI, mR, gG, mN, mB, mA, sI, sR, sA, sArr, sNew, addS, up2]]; unfold vp_in; decide) dX16_jammer_61 (fun H locs w => ?_)
        refine lv_dup hx hb dX16_jammer_62 rfl ?_
        refine lv_iconst (v := 1) hx hb dX16_jammer_63 (by decide) ?_
        refine lv_iload_n hx hb dX16_jammer_64 rfl (lv_at hl 2 rfl) ?_
        refine aStI (S := (sA (sArr (sI S 256 0 0) 33 nj q1 2) 33 nj (upd (mA (sArr (sI S 256 0 0) 33 nj q1 2) 33 nj) (0 : Int32).toNatClampNeg a))) (t := 33) X w (Or.inr ⟨rfl, rfl⟩) (by decide) rfl rfl (by rw [show mN (sA (sArr (sI S 256 0 0) 33 nj q1 2) 33 nj (upd (mA (sArr (sI S 256 0 0) 33 nj q1 2) 33 nj) (0 : Int32).toNatClampNeg a)) 33 nj = 2 by simp [mI, mR, gG, mN, mB, mA, sI, sR, sA, sArr, sNew, addS, up2]]; unfold vp_in; decide) dX16_jammer_65 (fun H locs w => ?_)
        refine cF (S := (sA (sA (sArr (sI S 256 0 0) 33 nj q1 2) 33 nj (upd (mA (sArr (sI S 256 0 0) 33 nj q1 2) 33 nj) (0 : Int32).toNatClampNeg a)) 33 nj (upd (mA (sA (sArr (sI S 256 0 0) 33 nj q1 2) 33 nj (upd (mA (sArr (sI S 256 0 0) 33 nj q1 2) 33 nj) (0 : Int32).toNatClampNeg a)) 33 nj) (1 : Int32).toNatClampNeg b))) (t := 17) (nA := 1) (As := [.ref (gG (sArr (sI S 256 0 0) 33 nj q1 2) 33 nj)]) (rest := []) X w hl (Or.inl (h.l_jm.1)) (add_T G (sI S 256 0 0) (sA (sA (sArr (sI S 256 0 0) 33 nj q1 2) 33 nj (upd (mA (sArr (sI S 256 0 0) 33 nj q1 2) 33 nj) (0 : Int32).toNatClampNeg a)) 33 nj (upd (mA (sA (sArr (sI S 256 0 0) 33 nj q1 2) 33 nj (upd (mA (sArr (sI S 256 0 0) 33 nj q1 2) 33 nj) (0 : Int32).toNatClampNeg a)) 33 nj) (1 : Int32).toNatClampNeg b)) 7 nj (gG (sA (sA (sArr (sI S 256 0 0) 33 nj q1 2) 33 nj (upd (mA (sArr (sI S 256 0 0) 33 nj q1 2) 33 nj) (0 : Int32).toNatClampNeg a)) 33 nj (upd (mA (sA (sArr (sI S 256 0 0) 33 nj q1 2) 33 nj (upd (mA (sArr (sI S 256 0 0) 33 nj q1 2) 33 nj) (0 : Int32).toNatClampNeg a)) 33 nj) (1 : Int32).toNatClampNeg b)) 33 nj) (hea ▸ h.l_jm) (by have := h.b_jm; omega) h.z30.2.1 (h.z31 7) h.el_jm (fun t i v => ⟨Or.inl (v), (up2_n (fun z => h.z_jm nj (Nat.le_refl _) (by rw [← z.1, ← z.2]; exact v)))⟩) (fun v => v.elim (fun v => v) (fun e => absurd e.1 (by decide))) (fun v => v.elim (fun v => v) (fun e => absurd e.1 (by decide))) rfl rfl rfl rfl (Or.inr (Or.inl ⟨nj, Or.inr ⟨rfl, rfl⟩, rfl⟩))) wY_Jx4a65c_add_9ea2d wM_X16_170 wIn_Jx4a65c_add_9ea2d wSe_Jx4a65c_Jx4a65c_add_9ea2d_of_java_util_List_add__Ljava_lang_Object__Z wI_Jx4a65c fw_add (by decide) rfl (by decide +kernel) rfl rfl dX16_jammer_66 ⟨by decide, by decide⟩ (Nat.le_of_ble_eq_true rfl) (⟨Nat.le_of_ble_eq_true rfl, Nat.le_of_ble_eq_true rfl⟩) (fun v5 S1 H locs hp w => ?_)
        obtain ⟨rfl, q9, m2, b2, rfl, hb0, hb1⟩ := hp
        have hQ : QI s0 (addS (sA (sA (sArr (sI S 256 0 0) 33 nj q1 2) 33 nj (upd (mA (sArr (sI S 256 0 0) 33 nj q1 2) 33 nj) (0 : Int32).toNatClampNeg a)) 33 nj (upd (mA (sA (sArr (sI S 256 0 0) 33 nj q1 2) 33 nj (upd (mA (sArr (sI S 256 0 0) 33 nj q1 2) 33 nj) (0 : Int32).toNatClampNeg a)) 33 nj) (1 : Int32).toNatClampNeg b)) 7 q9 (capOf (nj + 1)) m2 (nI (nj + 1)) b2) nq nt := ⟨hQ.1, hQ.2⟩
        have hK : Kq refU refB refR S (addS (sA (sA (sArr (sI S 256 0 0) 33 nj q1 2) 33 nj (upd (mA (sArr (sI S 256 0 0) 33 nj q1 2) 33 nj) (0 : Int32).toNatClampNeg a)) 33 nj (upd (mA (sA (sArr (sI S 256 0 0) 33 nj q1 2) 33 nj (upd (mA (sArr (sI S 256 0 0) 33 nj q1 2) 33 nj) (0 : Int32).toNatClampNeg a)) 33 nj) (1 : Int32).toNatClampNeg b)) 7 q9 (capOf (nj + 1)) m2 (nI (nj + 1)) b2) := hK.tr kr_add_jm
        have h : RI ea (addS (sA (sA (sArr (sI S 256 0 0) 33 nj q1 2) 33 nj (upd (mA (sArr (sI S 256 0 0) 33 nj q1 2) 33 nj) (0 : Int32).toNatClampNeg a)) 33 nj (upd (mA (sA (sArr (sI S 256 0 0) 33 nj q1 2) 33 nj (upd (mA (sArr (sI S 256 0 0) 33 nj q1 2) 33 nj) (0 : Int32).toNatClampNeg a)) 33 nj) (1 : Int32).toNatClampNeg b)) 7 q9 (capOf (nj + 1)) m2 (nI (nj + 1)) b2) ns (nj + 1) nm nt nr nq := h.add_jm hn9  hb0 hb1
        have hZr : Zr (addS (sA (sA (sArr (sI S 256 0 0) 33 nj q1 2) 33 nj (upd (mA (sArr (sI S 256 0 0) 33 nj q1 2) 33 nj) (0 : Int32).toNatClampNeg a)) 33 nj (upd (mA (sA (sArr (sI S 256 0 0) 33 nj q1 2) 33 nj (upd (mA (sArr (sI S 256 0 0) 33 nj q1 2) 33 nj) (0 : Int32).toNatClampNeg a)) 33 nj) (1 : Int32).toNatClampNeg b)) 7 q9 (capOf (nj + 1)) m2 (nI (nj + 1)) b2) := hZr.of (fun t i z v => v.elim (fun v => v.elim (fun v => v) (fun e => absurd e (by omega))) (fun e => absurd e (by omega)))
        refine lv_pop hx hb dX16_jammer_71 rfl ?_
        refine lv_aload_n hx hb dX16_jammer_72 rfl (lv_at hl 0 rfl) ?_
        refine g_16_7 (S := (addS (sA (sA (sArr (sI S 256 0 0) 33 nj q1 2) 33 nj (upd (mA (sArr (sI S 256 0 0) 33 nj q1 2) 33 nj) (0 : Int32).toNatClampNeg a)) 33 nj (upd (mA (sA (sArr (sI S 256 0 0) 33 nj q1 2) 33 nj (upd (mA (sArr (sI S 256 0 0) 33 nj q1 2) 33 nj) (0 : Int32).toNatClampNeg a)) 33 nj) (1 : Int32).toNatClampNeg b)) 7 q9 (capOf (nj + 1)) m2 (nI (nj + 1)) b2)) (x := (some (gG (addS (sA (sA (sArr (sI S 256 0 0) 33 nj q1 2) 33 nj (upd (mA (sArr (sI S 256 0 0) 33 nj q1 2) 33 nj) (0 : Int32).toNatClampNeg a)) 33 nj (upd (mA (sA (sArr (sI S 256 0 0) 33 nj q1 2) 33 nj (upd (mA (sArr (sI S 256 0 0) 33 nj q1 2) 33 nj) (0 : Int32).toNatClampNeg a)) 33 nj) (1 : Int32).toNatClampNeg b)) 7 q9 (capOf (nj + 1)) m2 (nI (nj + 1)) b2) 17 7))) X w h.v wF_X16_20 (h.f_jm) dX16_jammer_73 ?_
        refine cF (S := (addS (sA (sA (sArr (sI S 256 0 0) 33 nj q1 2) 33 nj (upd (mA (sArr (sI S 256 0 0) 33 nj q1 2) 33 nj) (0 : Int32).toNatClampNeg a)) 33 nj (upd (mA (sA (sArr (sI S 256 0 0) 33 nj q1 2) 33 nj (upd (mA (sArr (sI S 256 0 0) 33 nj q1 2) 33 nj) (0 : Int32).toNatClampNeg a)) 33 nj) (1 : Int32).toNatClampNeg b)) 7 q9 (capOf (nj + 1)) m2 (nI (nj + 1)) b2)) (t := 17) (nA := 0) (As := []) (rest := []) X w hl h.l_jm.1 (m_size G (addS (sA (sA (sArr (sI S 256 0 0) 33 nj q1 2) 33 nj (upd (mA (sArr (sI S 256 0 0) 33 nj q1 2) 33 nj) (0 : Int32).toNatClampNeg a)) 33 nj (upd (mA (sA (sArr (sI S 256 0 0) 33 nj q1 2) 33 nj (upd (mA (sArr (sI S 256 0 0) 33 nj q1 2) 33 nj) (0 : Int32).toNatClampNeg a)) 33 nj) (1 : Int32).toNatClampNeg b)) 7 q9 (capOf (nj + 1)) m2 (nI (nj + 1)) b2) ea 7 (nj + 1) h.l_jm) wY_Jx4a65c_size_8abf5 wM_X16_73 wIn_Jx4a65c_size_8abf5 wSe_Jx4a65c_Jx4a65c_size_8abf5_of_java_util_List_size___I wI_Jx4a65c fw_size (by decide) rfl (by decide +kernel) rfl rfl dX16_jammer_76 ⟨by decide, by decide⟩ (Nat.le_of_ble_eq_true rfl) (⟨Nat.le_of_ble_eq_true rfl, Nat.le_of_ble_eq_true rfl⟩) (fun v6 S1 H locs hp w => ?_)
        obtain ⟨rfl, rfl⟩ := hp
        refine lv_iconst (v := 1) hx hb dX16_jammer_81 (by decide) ?_
        refine lv_isub hx hb dX16_jammer_82 ?_
        exact rI X w rfl dX16_jammer_83 (by decide) (by decide) (Or.inr ⟨by have z12 : sOut a 0 99 = false := (by simpa using b2i_t hy12); have z22 : sOut b 0 9 = false := (by simpa using b2i_t hy22); simp [jmK, z12, z22, Nat.not_le.mpr hn9], by rw [nI_p1], ⟨_, hea ▸ h, hQ, hZr, RF.jm (hF.oI (f := 256) (i := 0) (v := 0) rfl) (by simp [uA_A, uA_Arr, show (1 : Int32).toNatClampNeg = 1 from by decide, show (0 : Int32).toNatClampNeg = 0 from by decide]), hg⟩, hK, by simp [mI, mR, gG, mN, mB, mA, sI, sR, sA, sArr, sNew, addS, up2]⟩)
      · have hn9 : 6 ≤ nj := Nat.le_of_eq (nI_injN (by have := h.b_jm; omega) (by decide) (hc_n.trans (by decide : (6 : Int32) = nI 6))).symm
        refine lv_aload_n hx hb dX16_jammer_45 rfl (lv_at hl 0 rfl) ?_
        refine lv_iconst (v := 2) hx hb dX16_jammer_46 (by decide) ?_
        refine cV (S := (sI S 256 0 0)) (nA := 1) (As := [.int 2]) (rest := []) X w hl h.v (m_X16_no G (sI S 256 0 0) ea ns nj nm nt nr nq h 2) wY_X16_no wM_X16_229 wIn_X16_no wSe_X16_X16_no wI_X16 (by decide) rfl (by decide +kernel) rfl rfl dX16_jammer_47 ⟨by decide, by decide⟩ (Nat.le_of_ble_eq_true rfl) (⟨Nat.le_of_ble_eq_true rfl, Nat.le_of_ble_eq_true rfl⟩) (fun v7 S1 H locs hp w => ?_)
        obtain ⟨rfl, rfl⟩ := hp
        have h : RI ea (sI (sI S 256 0 0) 256 0 2) ns nj nm nt nr nq := h.stI (by decide)
        have hK : Kq refU refB refR S (sI (sI S 256 0 0) 256 0 2) := hK.sI rfl
        exact rI X w rfl dX16_jammer_50 (by decide) (by decide) (pf_x (k := 2) (by have z12 : sOut a 0 99 = false := (by simpa using b2i_t hy12); have z22 : sOut b 0 9 = false := (by simpa using b2i_t hy22); simp [jmK, z12, z22, hn9]) (by decide) (by decide) ⟨_, hea ▸ h, hQ, hZr, (hF.oI rfl).oI rfl, hg⟩)
    · refine lv_aload_n hx hb dX16_jammer_25 rfl (lv_at hl 0 rfl) ?_
      refine lv_iconst (v := 1) hx hb dX16_jammer_26 (by decide) ?_
      refine cV (S := (sI S 256 0 0)) (nA := 1) (As := [.int 1]) (rest := []) X w hl h.v (m_X16_no G (sI S 256 0 0) ea ns nj nm nt nr nq h 1) wY_X16_no wM_X16_229 wIn_X16_no wSe_X16_X16_no wI_X16 (by decide) rfl (by decide +kernel) rfl rfl dX16_jammer_27 ⟨by decide, by decide⟩ (Nat.le_of_ble_eq_true rfl) (⟨Nat.le_of_ble_eq_true rfl, Nat.le_of_ble_eq_true rfl⟩) (fun v8 S1 H locs hp w => ?_)
      obtain ⟨rfl, rfl⟩ := hp
      have h : RI ea (sI (sI S 256 0 0) 256 0 1) ns nj nm nt nr nq := h.stI (by decide)
      have hK : Kq refU refB refR S (sI (sI S 256 0 0) 256 0 1) := hK.sI rfl
      exact rI X w rfl dX16_jammer_30 (by decide) (by decide) (pf_x (k := 1) (by first | (have y : sOut a 0 99 = true := (by simpa using b2i_f hy12); simp [jmK, y]) | (have y : sOut b 0 9 = true := (by simpa using b2i_f hy22); simp [jmK, y])) (by decide) (by decide) ⟨_, hea ▸ h, hQ, hZr, (hF.oI rfl).oI rfl, hg⟩)

theorem dX16_monitor_0 : decode cX16_monitor 0 = .ok (.aload_n 0, 1) := by decide +kernel
theorem dX16_monitor_1 : decode cX16_monitor 1 = .ok (.iconst 0, 1) := by decide +kernel
theorem dX16_monitor_2 : decode cX16_monitor 2 = .ok (.putfield 43, 3) := by decide +kernel
theorem dX16_monitor_5 : decode cX16_monitor 5 = .ok (.iload_n 1, 1) := by decide +kernel
theorem dX16_monitor_6 : decode cX16_monitor 6 = .ok (.iconst 0, 1) := by decide +kernel
theorem dX16_monitor_7 : decode cX16_monitor 7 = .ok (.ldc 239, 2) := by decide +kernel
theorem dX16_monitor_9 : decode cX16_monitor 9 = .ok (.invokestatic 224, 3) := by decide +kernel
theorem dX16_monitor_12 : decode cX16_monitor 12 = .ok (.ifCond .ne 9, 3) := by decide +kernel
theorem dX16_monitor_15 : decode cX16_monitor 15 = .ok (.aload_n 0, 1) := by decide +kernel
theorem dX16_monitor_16 : decode cX16_monitor 16 = .ok (.iconst 1, 1) := by decide +kernel
theorem dX16_monitor_17 : decode cX16_monitor 17 = .ok (.invokevirtual 229, 3) := by decide +kernel
theorem dX16_monitor_20 : decode cX16_monitor 20 = .ok (.ireturn, 1) := by decide +kernel
theorem dX16_monitor_21 : decode cX16_monitor 21 = .ok (.aload_n 0, 1) := by decide +kernel
theorem dX16_monitor_22 : decode cX16_monitor 22 = .ok (.getfield 23, 3) := by decide +kernel
theorem dX16_monitor_25 : decode cX16_monitor 25 = .ok (.invokeinterface 73 1, 5) := by decide +kernel
theorem dX16_monitor_30 : decode cX16_monitor 30 = .ok (.iconst 5, 1) := by decide +kernel
theorem dX16_monitor_31 : decode cX16_monitor 31 = .ok (.if_icmp .ne 9, 3) := by decide +kernel
theorem dX16_monitor_34 : decode cX16_monitor 34 = .ok (.aload_n 0, 1) := by decide +kernel
theorem dX16_monitor_35 : decode cX16_monitor 35 = .ok (.iconst 2, 1) := by decide +kernel
theorem dX16_monitor_36 : decode cX16_monitor 36 = .ok (.invokevirtual 229, 3) := by decide +kernel
theorem dX16_monitor_39 : decode cX16_monitor 39 = .ok (.ireturn, 1) := by decide +kernel
theorem dX16_monitor_40 : decode cX16_monitor 40 = .ok (.new 93, 3) := by decide +kernel
theorem dX16_monitor_43 : decode cX16_monitor 43 = .ok (.dup, 1) := by decide +kernel
theorem dX16_monitor_44 : decode cX16_monitor 44 = .ok (.invokespecial 240, 3) := by decide +kernel
theorem dX16_monitor_47 : decode cX16_monitor 47 = .ok (.astore_n 2, 1) := by decide +kernel
theorem dX16_monitor_48 : decode cX16_monitor 48 = .ok (.iload_n 1, 1) := by decide +kernel
theorem dX16_monitor_49 : decode cX16_monitor 49 = .ok (.istore_n 3, 1) := by decide +kernel
theorem dX16_monitor_50 : decode cX16_monitor 50 = .ok (.iconst 0, 1) := by decide +kernel
theorem dX16_monitor_51 : decode cX16_monitor 51 = .ok (.istore 4, 2) := by decide +kernel
theorem dX16_monitor_53 : decode cX16_monitor 53 = .ok (.iload 4, 2) := by decide +kernel
theorem dX16_monitor_55 : decode cX16_monitor 55 = .ok (.iconst 5, 1) := by decide +kernel
theorem dX16_monitor_56 : decode cX16_monitor 56 = .ok (.if_icmp .ge 25, 3) := by decide +kernel
theorem dX16_monitor_59 : decode cX16_monitor 59 = .ok (.aload_n 2, 1) := by decide +kernel
theorem dX16_monitor_60 : decode cX16_monitor 60 = .ok (.getfield 95, 3) := by decide +kernel
theorem dX16_monitor_63 : decode cX16_monitor 63 = .ok (.iload 4, 2) := by decide +kernel
theorem dX16_monitor_65 : decode cX16_monitor 65 = .ok (.iload_n 3, 1) := by decide +kernel
theorem dX16_monitor_66 : decode cX16_monitor 66 = .ok (.bipush 10, 2) := by decide +kernel
theorem dX16_monitor_68 : decode cX16_monitor 68 = .ok (.irem, 1) := by decide +kernel
theorem dX16_monitor_69 : decode cX16_monitor 69 = .ok (.iastore, 1) := by decide +kernel
theorem dX16_monitor_70 : decode cX16_monitor 70 = .ok (.iload_n 3, 1) := by decide +kernel
theorem dX16_monitor_71 : decode cX16_monitor 71 = .ok (.bipush 10, 2) := by decide +kernel
theorem dX16_monitor_73 : decode cX16_monitor 73 = .ok (.idiv, 1) := by decide +kernel
theorem dX16_monitor_74 : decode cX16_monitor 74 = .ok (.istore_n 3, 1) := by decide +kernel
theorem dX16_monitor_75 : decode cX16_monitor 75 = .ok (.iinc 4 1, 3) := by decide +kernel
theorem dX16_monitor_78 : decode cX16_monitor 78 = .ok (.goto (-25), 3) := by decide +kernel
theorem dX16_monitor_81 : decode cX16_monitor 81 = .ok (.aload_n 0, 1) := by decide +kernel
theorem dX16_monitor_82 : decode cX16_monitor 82 = .ok (.getfield 23, 3) := by decide +kernel
theorem dX16_monitor_85 : decode cX16_monitor 85 = .ok (.aload_n 2, 1) := by decide +kernel
theorem dX16_monitor_86 : decode cX16_monitor 86 = .ok (.invokeinterface 170 2, 5) := by decide +kernel
theorem dX16_monitor_91 : decode cX16_monitor 91 = .ok (.pop, 1) := by decide +kernel
theorem dX16_monitor_92 : decode cX16_monitor 92 = .ok (.aload_n 0, 1) := by decide +kernel
theorem dX16_monitor_93 : decode cX16_monitor 93 = .ok (.getfield 23, 3) := by decide +kernel
theorem dX16_monitor_96 : decode cX16_monitor 96 = .ok (.invokeinterface 73 1, 5) := by decide +kernel
theorem dX16_monitor_101 : decode cX16_monitor 101 = .ok (.iconst 1, 1) := by decide +kernel
theorem dX16_monitor_102 : decode cX16_monitor 102 = .ok (.isub, 1) := by decide +kernel
theorem dX16_monitor_103 : decode cX16_monitor 103 = .ok (.ireturn, 1) := by decide +kernel
abbrev rm_m_X16_monitor : Room := { frames := 7, cells := 3, slots := 58, locals := 191 }
set_option maxHeartbeats 4000000 in
set_option maxRecDepth 100000 in
theorem m_X16_monitor {s0 : State} {l : Launch} {D : va_G} {cy : Nat → ClassId} (G : Gl s0 l D cy) (S : HS) (ea ns nj nm nt nr nq : Nat) (h : RI ea S ns nj nm nt nr nq) (hea : ea = eaOf s0) (hQ : QI s0 S nq nt) (hZr : Zr S) (A : HS) (g0 : Nat) (hF : RF s0 S A nq nt) (hg : mI S 257 0 = nI g0) (a : Int32) : Ctr s0 l D cy yX16_monitor cX16_monitor 5 (some .int) rm_m_X16_monitor S [.ref (gG S 16 0), .int a] (PF s0 S (ns, nj, nm, nr, nt, g0, A) (moK nm a) (nI nm) (ns, nj, (nm + 1), nr, nt, g0, moC A nm a)) := by
  refine pro "CavershamShiftModel" G rfl rfl (Nat.le_of_ble_eq_true rfl) (fun p e s m below meth c ls X w hnm hl => ?_)
  have hx := X.1
  have hb := X.2.1
  have hown := X.2.2.2.1
  have hts := X.2.2.2.2.1
  have hl : lv_has ls 5 [(0, .ref (gG S 16 0)), (1, .int a)] := hl
  have h0 := h
  have hK : Kq refU refB refR S S := Kq.rf
  have hE : RE S A := hF.re
  refine lv_aload_n hx hb dX16_monitor_0 rfl (lv_at hl 0 rfl) ?_
  refine lv_iconst (v := 0) hx hb dX16_monitor_1 (by decide) ?_
  refine p_16_0 (S := S) (x := 0) X w h.v wF_X16_43 dX16_monitor_2 (fun H locs w => ?_)
  have h : RI ea (sI S 256 0 0) ns nj nm nt nr nq := h.stI (by decide)
  have hK : Kq refU refB refR S (sI S 256 0 0) := hK.sI rfl
  refine lv_iload_n hx hb dX16_monitor_5 rfl (lv_at hl 1 rfl) ?_
  refine lv_iconst (v := 0) hx hb dX16_monitor_6 (by decide) ?_
  refine lv_ldc hx hb hown (hts _ wK_X16_239) dX16_monitor_7 ?_
  refine cS (S := (sI S 256 0 0)) (nA := 3) (As := [.int a, .int 0, .int 99999]) (rest := []) X w hl (m_X16_in G (sI S 256 0 0) a 0 99999) wY_X16_in wM_X16_224 wSt_X16_in wI_X16 (by decide +kernel) rfl rfl dX16_monitor_9 ⟨by decide, by decide⟩ (Nat.le_of_ble_eq_true rfl) (⟨Nat.le_of_ble_eq_true rfl, Nat.le_of_ble_eq_true rfl⟩) (fun v1 S1 H locs hp w => ?_)
  obtain ⟨rfl, rfl⟩ := hp
  refine lv_if_ne (tgt := 21) hx hb dX16_monitor_12 (by decide) (fun hy12 => ?_) (fun hy12 => ?_)
  · refine lv_aload_n hx hb dX16_monitor_21 rfl (lv_at hl 0 rfl) ?_
    refine g_16_8 (S := (sI S 256 0 0)) (x := (some (gG (sI S 256 0 0) 17 8))) X w h.v wF_X16_23 (h.f_mo) dX16_monitor_22 ?_
    refine cF (S := (sI S 256 0 0)) (t := 17) (nA := 0) (As := []) (rest := []) X w hl h.l_mo.1 (m_size G (sI S 256 0 0) ea 8 nm h.l_mo) wY_Jx4a65c_size_8abf5 wM_X16_73 wIn_Jx4a65c_size_8abf5 wSe_Jx4a65c_Jx4a65c_size_8abf5_of_java_util_List_size___I wI_Jx4a65c fw_size (by decide) rfl (by decide +kernel) rfl rfl dX16_monitor_25 ⟨by decide, by decide⟩ (Nat.le_of_ble_eq_true rfl) (⟨Nat.le_of_ble_eq_true rfl, Nat.le_of_ble_eq_true rfl⟩) (fun v2 S1 H locs hp w => ?_)
    obtain ⟨rfl, rfl⟩ := hp
    refine lv_iconst (v := 5) hx hb dX16_monitor_30 (by decide) ?_
    refine lv_icmp_ne (tgt := 40) hx hb dX16_monitor_31 (by decide) (fun hc_n => ?_) (fun hc_n => ?_)
    · have hn9 : nm < 5 := Nat.lt_of_le_of_ne h.b_mo (fun z => hc_n (by rw [z]; rfl))
      refine nwO (S := (sI S 256 0 0)) (t := 12) (n := 4) X w nm ((h.z_mo nm (Nat.le_refl _)).1) (Or.inl (by decide)) (by decide) rfl in_12 tyX12 tyX12_ok (by decide +kernel) wC_X16_93 wNew_X12 wI_X12 dX16_monitor_40 rfl (Nat.le_of_ble_eq_true rfl) (Nat.le_of_ble_eq_true rfl) (fun q1 S2 H hS2 w => ?_)
      subst hS2
      refine lv_dup hx hb dX16_monitor_43 rfl ?_
      refine cIN (S := (sNew (sI S 256 0 0) 12 nm q1)) (nA := 0) (As := []) (rest := [.ref (gG (sNew (sI S 256 0 0) 12 nm q1) 12 nm)]) X w hl (m_X12_init G (sNew (sI S 256 0 0) 12 nm q1) nm ((Or.inr ⟨rfl, rfl⟩)) (fun v => v.elim ((h.z_mo nm (Nat.le_refl _)).2) (fun e => absurd e.1 (by decide)))) wY_X12_init wMN_X16_240 wIn_X12_init wI_X12 rfl (by decide +kernel) rfl rfl dX16_monitor_44 ⟨by decide, by decide⟩ (Nat.le_of_ble_eq_true rfl) (⟨Nat.le_of_ble_eq_true rfl, Nat.le_of_ble_eq_true rfl⟩) (fun v3 S1 H locs hp w => ?_)
      obtain ⟨rfl, q2, rfl⟩ := hp
      refine lv_astore_n (lv' := [(2, .ref (gG (sNew (sI S 256 0 0) 12 nm q1) 12 nm)), (0, .ref (gG S 16 0)), (1, .int a)]) hx hb dX16_monitor_47 rfl hl (by decide) rfl (fun ls hl => ?_)
      rw [← sA_id (sR (sArr (sNew (sI S 256 0 0) 12 nm q1) 34 nm q2 5) 192 nm (some (gG (sArr (sNew (sI S 256 0 0) 12 nm q1) 34 nm q2 5) 34 nm))) 34 nm] at w
      refine lv_iload_n hx hb dX16_monitor_48 rfl (lv_at hl 2 rfl) ?_
      refine lv_istore_n (lv' := [(3, .int a), (2, .ref (gG (sNew (sI S 256 0 0) 12 nm q1) 12 nm)), (0, .ref (gG S 16 0)), (1, .int a)]) hx hb dX16_monitor_49 rfl hl (by decide) rfl (fun ls hl => ?_)
      refine lv_iconst (v := 0) hx hb dX16_monitor_50 (by decide) ?_
      refine lv_istore (lv' := [(4, .int 0), (3, .int a), (2, .ref (gG (sNew (sI S 256 0 0) 12 nm q1) 12 nm)), (0, .ref (gG S 16 0)), (1, .int a)]) hx hb dX16_monitor_51 hl (by decide) rfl (fun ls hl => ?_)
      have L53 : ∀ (N : Nat) (k53 : Nat) (v53_3 : Int32) (f : Nat → Int32) (H : Heap) (locs : List Loc) (ls : Array Slot), 5 - k53 < N → (k53 ≤ 5) → (f = fun k => if k < k53 then cDiv a k - cDiv a k / 10 * 10 else 0) → (v53_3 = cDiv a k53) → Wd s0 D cy (sA (sR (sArr (sNew (sI S 256 0 0) 12 nm q1) 34 nm q2 5) 192 nm (some (gG (sArr (sNew (sI S 256 0 0) 12 nm q1) 34 nm q2 5) 34 nm))) 34 nm f) s.heap H locs → lv_has ls 5 [(4, .int (nI k53)), (3, .int v53_3), (2, .ref (gG (sNew (sI S 256 0 0) 12 nm q1) 12 nm)), (0, .ref (gG S 16 0)), (1, .int a)] → W p l e rm_m_X16_monitor s m ([.ref (gG S 16 0), .int a] : List Value).toArray below meth c H locs (0 + 1 + rm_m_X12_init.cells) (0 + 4 + rm_m_X12_init.slots) (MQ below (GQ s0 D cy (PF s0 S (ns, nj, nm, nr, nt, g0, A) (moK nm a) (nI nm) (ns, nj, (nm + 1), nr, nt, g0, moC A nm a))) ([.ref (gG S 16 0), .int a] : List Value).toArray s rm_m_X16_monitor.cells rm_m_X16_monitor.slots (A0 s0)) (F0 m 53 ls []) := by
        intro N
        induction N with
        | zero => intros; omega
        | succ N ih53 =>
          intro k53 v53_3 f H locs ls hmu hk_k53 hf9 hlf w hl
          refine lv_iload hx hb dX16_monitor_53 (lv_at hl 0 rfl) ?_
          refine lv_iconst (v := 5) hx hb dX16_monitor_55 (by decide) ?_
          refine lv_icmp_ge (tgt := 81) hx hb dX16_monitor_56 (by decide) (fun hc_k53 => ?_) (fun hc_k53 => ?_)
          · have hge_k53 : 5 ≤ k53 := by
              skip
              exact (nI_leI (a := 5) (b := k53) (by omega) (by omega)).mp hc_k53
            refine lv_aload_n hx hb dX16_monitor_81 rfl (lv_at hl 3 rfl) ?_
            refine g_16_8 (S := (sA (sR (sArr (sNew (sI S 256 0 0) 12 nm q1) 34 nm q2 5) 192 nm (some (gG (sArr (sNew (sI S 256 0 0) 12 nm q1) 34 nm q2 5) 34 nm))) 34 nm f)) (x := (some (gG (sA (sR (sArr (sNew (sI S 256 0 0) 12 nm q1) 34 nm q2 5) 192 nm (some (gG (sArr (sNew (sI S 256 0 0) 12 nm q1) 34 nm q2 5) 34 nm))) 34 nm f) 17 8))) X w (Or.inl (Or.inl (h.v))) wF_X16_23 (h.f_mo) dX16_monitor_82 ?_
            refine lv_aload_n hx hb dX16_monitor_85 rfl (lv_at hl 2 rfl) ?_
            refine cF (S := (sA (sR (sArr (sNew (sI S 256 0 0) 12 nm q1) 34 nm q2 5) 192 nm (some (gG (sArr (sNew (sI S 256 0 0) 12 nm q1) 34 nm q2 5) 34 nm))) 34 nm f)) (t := 17) (nA := 1) (As := [.ref (gG (sNew (sI S 256 0 0) 12 nm q1) 12 nm)]) (rest := []) X w hl (Or.inl (Or.inl (h.l_mo.1))) (add_T G (sI S 256 0 0) (sA (sR (sArr (sNew (sI S 256 0 0) 12 nm q1) 34 nm q2 5) 192 nm (some (gG (sArr (sNew (sI S 256 0 0) 12 nm q1) 34 nm q2 5) 34 nm))) 34 nm f) 8 nm (gG (sA (sR (sArr (sNew (sI S 256 0 0) 12 nm q1) 34 nm q2 5) 192 nm (some (gG (sArr (sNew (sI S 256 0 0) 12 nm q1) 34 nm q2 5) 34 nm))) 34 nm f) 12 nm) (hea ▸ h.l_mo) (by have := h.b_mo; omega) h.z30.2.2.1 (h.z31 8) h.el_mo (fun t i v => ⟨Or.inl (Or.inl (v)), (up2_n (fun z => (h.z_mo nm (Nat.le_refl _)).2 (by rw [← z.1, ← z.2]; exact v))).trans (up2_n (fun z => (h.z_mo nm (Nat.le_refl _)).1 (by rw [← z.1, ← z.2]; exact v)))⟩) (fun v => v.elim (fun v => v.elim (fun v => v) (fun e => absurd e.1 (by decide))) (fun e => absurd e.1 (by decide))) (fun v => v.elim (fun v => v.elim (fun v => v) (fun e => absurd e.1 (by decide))) (fun e => absurd e.1 (by decide))) rfl rfl rfl rfl (Or.inl ⟨12, nm, Or.inl (Or.inr ⟨rfl, rfl⟩), by decide, rfl⟩)) wY_Jx4a65c_add_9ea2d wM_X16_170 wIn_Jx4a65c_add_9ea2d wSe_Jx4a65c_Jx4a65c_add_9ea2d_of_java_util_List_add__Ljava_lang_Object__Z wI_Jx4a65c fw_add (by decide) rfl (by decide +kernel) rfl rfl dX16_monitor_86 ⟨by decide, by decide⟩ (Nat.le_of_ble_eq_true rfl) (⟨Nat.le_of_ble_eq_true rfl, Nat.le_of_ble_eq_true rfl⟩) (fun v4 S1 H locs hp w => ?_)
            obtain ⟨rfl, q9, m2, b2, rfl, hb0, hb1⟩ := hp
            have hQ : QI s0 (addS (sA (sR (sArr (sNew (sI S 256 0 0) 12 nm q1) 34 nm q2 5) 192 nm (some (gG (sArr (sNew (sI S 256 0 0) 12 nm q1) 34 nm q2 5) 34 nm))) 34 nm f) 8 q9 (capOf (nm + 1)) m2 (nI (nm + 1)) b2) nq nt := ⟨hQ.1, hQ.2⟩
            have hK : Kq refU refB refR S (addS (sA (sR (sArr (sNew (sI S 256 0 0) 12 nm q1) 34 nm q2 5) 192 nm (some (gG (sArr (sNew (sI S 256 0 0) 12 nm q1) 34 nm q2 5) 34 nm))) 34 nm f) 8 q9 (capOf (nm + 1)) m2 (nI (nm + 1)) b2) := hK.tr (Kq.rB kr_add_mo)
            have h : RI ea (addS (sA (sR (sArr (sNew (sI S 256 0 0) 12 nm q1) 34 nm q2 5) 192 nm (some (gG (sArr (sNew (sI S 256 0 0) 12 nm q1) 34 nm q2 5) 34 nm))) 34 nm f) 8 q9 (capOf (nm + 1)) m2 (nI (nm + 1)) b2) ns nj (nm + 1) nt nr nq := h.add_mo hn9  hb0 hb1
            have hZr : Zr (addS (sA (sR (sArr (sNew (sI S 256 0 0) 12 nm q1) 34 nm q2 5) 192 nm (some (gG (sArr (sNew (sI S 256 0 0) 12 nm q1) 34 nm q2 5) 34 nm))) 34 nm f) 8 q9 (capOf (nm + 1)) m2 (nI (nm + 1)) b2) := hZr.of (fun t i z v => v.elim (fun v => v.elim (fun v => v.elim (fun v => v) (fun e => absurd e (by omega))) (fun e => absurd e (by omega))) (fun e => absurd e (by omega)))
            refine lv_pop hx hb dX16_monitor_91 rfl ?_
            refine lv_aload_n hx hb dX16_monitor_92 rfl (lv_at hl 3 rfl) ?_
            refine g_16_8 (S := (addS (sA (sR (sArr (sNew (sI S 256 0 0) 12 nm q1) 34 nm q2 5) 192 nm (some (gG (sArr (sNew (sI S 256 0 0) 12 nm q1) 34 nm q2 5) 34 nm))) 34 nm f) 8 q9 (capOf (nm + 1)) m2 (nI (nm + 1)) b2)) (x := (some (gG (addS (sA (sR (sArr (sNew (sI S 256 0 0) 12 nm q1) 34 nm q2 5) 192 nm (some (gG (sArr (sNew (sI S 256 0 0) 12 nm q1) 34 nm q2 5) 34 nm))) 34 nm f) 8 q9 (capOf (nm + 1)) m2 (nI (nm + 1)) b2) 17 8))) X w h.v wF_X16_23 (h.f_mo) dX16_monitor_93 ?_
            refine cF (S := (addS (sA (sR (sArr (sNew (sI S 256 0 0) 12 nm q1) 34 nm q2 5) 192 nm (some (gG (sArr (sNew (sI S 256 0 0) 12 nm q1) 34 nm q2 5) 34 nm))) 34 nm f) 8 q9 (capOf (nm + 1)) m2 (nI (nm + 1)) b2)) (t := 17) (nA := 0) (As := []) (rest := []) X w hl h.l_mo.1 (m_size G (addS (sA (sR (sArr (sNew (sI S 256 0 0) 12 nm q1) 34 nm q2 5) 192 nm (some (gG (sArr (sNew (sI S 256 0 0) 12 nm q1) 34 nm q2 5) 34 nm))) 34 nm f) 8 q9 (capOf (nm + 1)) m2 (nI (nm + 1)) b2) ea 8 (nm + 1) h.l_mo) wY_Jx4a65c_size_8abf5 wM_X16_73 wIn_Jx4a65c_size_8abf5 wSe_Jx4a65c_Jx4a65c_size_8abf5_of_java_util_List_size___I wI_Jx4a65c fw_size (by decide) rfl (by decide +kernel) rfl rfl dX16_monitor_96 ⟨by decide, by decide⟩ (Nat.le_of_ble_eq_true rfl) (⟨Nat.le_of_ble_eq_true rfl, Nat.le_of_ble_eq_true rfl⟩) (fun v5 S1 H locs hp w => ?_)
            obtain ⟨rfl, rfl⟩ := hp
            refine lv_iconst (v := 1) hx hb dX16_monitor_101 (by decide) ?_
            refine lv_isub hx hb dX16_monitor_102 ?_
            exact rI X w rfl dX16_monitor_103 (by decide) (by decide) (Or.inr ⟨by have z12 : sOut a 0 99999 = false := (by simpa using b2i_t hy12); simp [moK, z12, Nat.not_le.mpr hn9], by rw [nI_p1], ⟨_, hea ▸ h, hQ, hZr, (RF.mo (by rw [hf9, show k53 = 5 by omega]; rfl) (hF.oI (f := 256) (i := 0) (v := 0) rfl)), hg⟩, hK, by simp [mI, mR, gG, mN, mB, mA, sI, sR, sA, sArr, sNew, addS, up2]⟩)
          · have hlt_k53 : k53 < 5 := by
              skip
              exact Nat.lt_of_not_le (fun z => hc_k53 ((nI_leI (a := 5) (b := k53) (by omega) (by omega)).mpr z))
            refine lv_aload_n hx hb dX16_monitor_59 rfl (lv_at hl 2 rfl) ?_
            refine g_12_0 (S := (sA (sR (sArr (sNew (sI S 256 0 0) 12 nm q1) 34 nm q2 5) 192 nm (some (gG (sArr (sNew (sI S 256 0 0) 12 nm q1) 34 nm q2 5) 34 nm))) 34 nm f)) (x := (some (gG (sA (sR (sArr (sNew (sI S 256 0 0) 12 nm q1) 34 nm q2 5) 192 nm (some (gG (sArr (sNew (sI S 256 0 0) 12 nm q1) 34 nm q2 5) 34 nm))) 34 nm f) 34 nm))) X w (Or.inl (Or.inr ⟨rfl, rfl⟩)) wF_X16_95 (by simp [mI, mR, gG, mN, mB, mA, sI, sR, sA, sArr, sNew, addS, up2]) dX16_monitor_60 ?_
            refine lv_iload hx hb dX16_monitor_63 (lv_at hl 0 rfl) ?_
            refine lv_iload_n hx hb dX16_monitor_65 rfl (lv_at hl 1 rfl) ?_
            refine lv_bipush (v := 10) hx hb dX16_monitor_66 (by decide) ?_
            refine lv_irem hx hb dX16_monitor_68 (by decide) ?_
            refine aStI (S := (sA (sR (sArr (sNew (sI S 256 0 0) 12 nm q1) 34 nm q2 5) 192 nm (some (gG (sArr (sNew (sI S 256 0 0) 12 nm q1) 34 nm q2 5) 34 nm))) 34 nm f)) (t := 34) X w (Or.inr ⟨rfl, rfl⟩) (by decide) rfl rfl (by rw [show mN (sA (sR (sArr (sNew (sI S 256 0 0) 12 nm q1) 34 nm q2 5) 192 nm (some (gG (sArr (sNew (sI S 256 0 0) 12 nm q1) 34 nm q2 5) 34 nm))) 34 nm f) 34 nm = 5 by simp [mI, mR, gG, mN, mB, mA, sI, sR, sA, sArr, sNew, addS, up2]]; exact nI_vp hlt_k53 (by decide)) dX16_monitor_69 (fun H locs w => ?_)
            rw [show mA (sA (sR (sArr (sNew (sI S 256 0 0) 12 nm q1) 34 nm q2 5) 192 nm (some (gG (sArr (sNew (sI S 256 0 0) 12 nm q1) 34 nm q2 5) 34 nm))) 34 nm f) 34 nm = f from up2_s _ _ _ _, sA_sA, cl_nI (n := 5) hlt_k53 (by decide)] at w
            refine lv_iload_n hx hb dX16_monitor_70 rfl (lv_at hl 1 rfl) ?_
            refine lv_bipush (v := 10) hx hb dX16_monitor_71 (by decide) ?_
            refine lv_idiv hx hb dX16_monitor_73 (by decide) ?_
            refine lv_istore_n (lv' := [(3, .int (v53_3 / 10)), (4, .int (nI k53)), (2, .ref (gG (sNew (sI S 256 0 0) 12 nm q1) 12 nm)), (0, .ref (gG S 16 0)), (1, .int a)]) hx hb dX16_monitor_74 rfl hl (by decide) rfl (fun ls hl => ?_)
            refine lv_iinc (v := nI (k53 + 1)) (lv' := [(4, .int (nI (k53 + 1))), (3, .int (v53_3 / 10)), (2, .ref (gG (sNew (sI S 256 0 0) 12 nm q1) 12 nm)), (0, .ref (gG S 16 0)), (1, .int a)]) hx hb dX16_monitor_75 hl (k := 1) rfl (nI_1 _) (by decide) rfl (fun ls hl => ?_)
            refine lv_goto (tgt := 53) hx hb dX16_monitor_78 (by decide) ?_
            exact ih53 (k53 + 1) (v53_3 / 10) (upd f k53 (v53_3 - v53_3 / 10 * 10)) _ _ _ (by omega) (hlt_k53) (dig_s hf9 hlf) (by rw [hlf]; rfl) w (lv_sub hl [0, 1, 2, 3, 4] rfl)
      exact L53 _ 0 a (mA (sR (sArr (sNew (sI S 256 0 0) 12 nm q1) 34 nm q2 5) 192 nm (some (gG (sArr (sNew (sI S 256 0 0) 12 nm q1) 34 nm q2 5) 34 nm))) 34 nm) _ _ _ (Nat.lt_succ_self _) (Nat.zero_le _) (Eq.trans (show mA _ 34 nm = (fun _ => 0) from up2_s _ 34 nm _) (funext fun k => (if_neg (Nat.not_lt_zero k)).symm)) (rfl) w (lv_sub hl [0, 1, 2, 3, 4] rfl)
    · have hn9 : 5 ≤ nm := Nat.le_of_eq (nI_injN (by have := h.b_mo; omega) (by decide) (hc_n.trans (by decide : (5 : Int32) = nI 5))).symm
      refine lv_aload_n hx hb dX16_monitor_34 rfl (lv_at hl 0 rfl) ?_
      refine lv_iconst (v := 2) hx hb dX16_monitor_35 (by decide) ?_
      refine cV (S := (sI S 256 0 0)) (nA := 1) (As := [.int 2]) (rest := []) X w hl h.v (m_X16_no G (sI S 256 0 0) ea ns nj nm nt nr nq h 2) wY_X16_no wM_X16_229 wIn_X16_no wSe_X16_X16_no wI_X16 (by decide) rfl (by decide +kernel) rfl rfl dX16_monitor_36 ⟨by decide, by decide⟩ (Nat.le_of_ble_eq_true rfl) (⟨Nat.le_of_ble_eq_true rfl, Nat.le_of_ble_eq_true rfl⟩) (fun v6 S1 H locs hp w => ?_)
      obtain ⟨rfl, rfl⟩ := hp
      have h : RI ea (sI (sI S 256 0 0) 256 0 2) ns nj nm nt nr nq := h.stI (by decide)
      have hK : Kq refU refB refR S (sI (sI S 256 0 0) 256 0 2) := hK.sI rfl
      exact rI X w rfl dX16_monitor_39 (by decide) (by decide) (pf_x (k := 2) (by have z12 : sOut a 0 99999 = false := (by simpa using b2i_t hy12); simp [moK, z12, hn9]) (by decide) (by decide) ⟨_, hea ▸ h, hQ, hZr, (hF.oI rfl).oI rfl, hg⟩)
  · refine lv_aload_n hx hb dX16_monitor_15 rfl (lv_at hl 0 rfl) ?_
    refine lv_iconst (v := 1) hx hb dX16_monitor_16 (by decide) ?_
    refine cV (S := (sI S 256 0 0)) (nA := 1) (As := [.int 1]) (rest := []) X w hl h.v (m_X16_no G (sI S 256 0 0) ea ns nj nm nt nr nq h 1) wY_X16_no wM_X16_229 wIn_X16_no wSe_X16_X16_no wI_X16 (by decide) rfl (by decide +kernel) rfl rfl dX16_monitor_17 ⟨by decide, by decide⟩ (Nat.le_of_ble_eq_true rfl) (⟨Nat.le_of_ble_eq_true rfl, Nat.le_of_ble_eq_true rfl⟩) (fun v7 S1 H locs hp w => ?_)
    obtain ⟨rfl, rfl⟩ := hp
    have h : RI ea (sI (sI S 256 0 0) 256 0 1) ns nj nm nt nr nq := h.stI (by decide)
    have hK : Kq refU refB refR S (sI (sI S 256 0 0) 256 0 1) := hK.sI rfl
    exact rI X w rfl dX16_monitor_20 (by decide) (by decide) (pf_x (k := 1) (by first | (have y : sOut a 0 99999 = true := (by simpa using b2i_f hy12); simp [moK, y])) (by decide) (by decide) ⟨_, hea ▸ h, hQ, hZr, (hF.oI rfl).oI rfl, hg⟩)

theorem dX16_reader_0 : decode cX16_reader 0 = .ok (.aload_n 0, 1) := by decide +kernel
theorem dX16_reader_1 : decode cX16_reader 1 = .ok (.iconst 0, 1) := by decide +kernel
theorem dX16_reader_2 : decode cX16_reader 2 = .ok (.putfield 43, 3) := by decide +kernel
theorem dX16_reader_5 : decode cX16_reader 5 = .ok (.iload_n 1, 1) := by decide +kernel
theorem dX16_reader_6 : decode cX16_reader 6 = .ok (.iconst 0, 1) := by decide +kernel
theorem dX16_reader_7 : decode cX16_reader 7 = .ok (.bipush 63, 2) := by decide +kernel
theorem dX16_reader_9 : decode cX16_reader 9 = .ok (.invokestatic 224, 3) := by decide +kernel
theorem dX16_reader_12 : decode cX16_reader 12 = .ok (.ifCond .eq 13, 3) := by decide +kernel
theorem dX16_reader_15 : decode cX16_reader 15 = .ok (.iload_n 2, 1) := by decide +kernel
theorem dX16_reader_16 : decode cX16_reader 16 = .ok (.iconst 0, 1) := by decide +kernel
theorem dX16_reader_17 : decode cX16_reader 17 = .ok (.ldc 244, 2) := by decide +kernel
theorem dX16_reader_19 : decode cX16_reader 19 = .ok (.invokestatic 224, 3) := by decide +kernel
theorem dX16_reader_22 : decode cX16_reader 22 = .ok (.ifCond .ne 9, 3) := by decide +kernel
theorem dX16_reader_25 : decode cX16_reader 25 = .ok (.aload_n 0, 1) := by decide +kernel
theorem dX16_reader_26 : decode cX16_reader 26 = .ok (.iconst 1, 1) := by decide +kernel
theorem dX16_reader_27 : decode cX16_reader 27 = .ok (.invokevirtual 229, 3) := by decide +kernel
theorem dX16_reader_30 : decode cX16_reader 30 = .ok (.ireturn, 1) := by decide +kernel
theorem dX16_reader_31 : decode cX16_reader 31 = .ok (.aload_n 0, 1) := by decide +kernel
theorem dX16_reader_32 : decode cX16_reader 32 = .ok (.getfield 29, 3) := by decide +kernel
theorem dX16_reader_35 : decode cX16_reader 35 = .ok (.invokeinterface 73 1, 5) := by decide +kernel
theorem dX16_reader_40 : decode cX16_reader 40 = .ok (.iconst 4, 1) := by decide +kernel
theorem dX16_reader_41 : decode cX16_reader 41 = .ok (.if_icmp .ne 9, 3) := by decide +kernel
theorem dX16_reader_44 : decode cX16_reader 44 = .ok (.aload_n 0, 1) := by decide +kernel
theorem dX16_reader_45 : decode cX16_reader 45 = .ok (.iconst 2, 1) := by decide +kernel
theorem dX16_reader_46 : decode cX16_reader 46 = .ok (.invokevirtual 229, 3) := by decide +kernel
theorem dX16_reader_49 : decode cX16_reader 49 = .ok (.ireturn, 1) := by decide +kernel
theorem dX16_reader_50 : decode cX16_reader 50 = .ok (.new 177, 3) := by decide +kernel
theorem dX16_reader_53 : decode cX16_reader 53 = .ok (.dup, 1) := by decide +kernel
theorem dX16_reader_54 : decode cX16_reader 54 = .ok (.invokespecial 258, 3) := by decide +kernel
theorem dX16_reader_57 : decode cX16_reader 57 = .ok (.astore_n 3, 1) := by decide +kernel
theorem dX16_reader_58 : decode cX16_reader 58 = .ok (.aload_n 3, 1) := by decide +kernel
theorem dX16_reader_59 : decode cX16_reader 59 = .ok (.iload_n 1, 1) := by decide +kernel
theorem dX16_reader_60 : decode cX16_reader 60 = .ok (.putfield 191, 3) := by decide +kernel
theorem dX16_reader_63 : decode cX16_reader 63 = .ok (.aload_n 3, 1) := by decide +kernel
theorem dX16_reader_64 : decode cX16_reader 64 = .ok (.iload_n 2, 1) := by decide +kernel
theorem dX16_reader_65 : decode cX16_reader 65 = .ok (.putfield 194, 3) := by decide +kernel
theorem dX16_reader_68 : decode cX16_reader 68 = .ok (.aload_n 0, 1) := by decide +kernel
theorem dX16_reader_69 : decode cX16_reader 69 = .ok (.getfield 29, 3) := by decide +kernel
theorem dX16_reader_72 : decode cX16_reader 72 = .ok (.aload_n 3, 1) := by decide +kernel
theorem dX16_reader_73 : decode cX16_reader 73 = .ok (.invokeinterface 170 2, 5) := by decide +kernel
theorem dX16_reader_78 : decode cX16_reader 78 = .ok (.pop, 1) := by decide +kernel
theorem dX16_reader_79 : decode cX16_reader 79 = .ok (.aload_n 0, 1) := by decide +kernel
theorem dX16_reader_80 : decode cX16_reader 80 = .ok (.getfield 29, 3) := by decide +kernel
theorem dX16_reader_83 : decode cX16_reader 83 = .ok (.invokeinterface 73 1, 5) := by decide +kernel
theorem dX16_reader_88 : decode cX16_reader 88 = .ok (.iconst 1, 1) := by decide +kernel
theorem dX16_reader_89 : decode cX16_reader 89 = .ok (.isub, 1) := by decide +kernel
theorem dX16_reader_90 : decode cX16_reader 90 = .ok (.ireturn, 1) := by decide +kernel
abbrev rm_m_X16_reader : Room := { frames := 7, cells := 3, slots := 92, locals := 191 }
set_option maxHeartbeats 4000000 in
set_option maxRecDepth 100000 in
theorem m_X16_reader {s0 : State} {l : Launch} {D : va_G} {cy : Nat → ClassId} (G : Gl s0 l D cy) (S : HS) (ea ns nj nm nt nr nq : Nat) (h : RI ea S ns nj nm nt nr nq) (hea : ea = eaOf s0) (hQ : QI s0 S nq nt) (hZr : Zr S) (A : HS) (g0 : Nat) (hF : RF s0 S A nq nt) (hg : mI S 257 0 = nI g0) (a b : Int32) : Ctr s0 l D cy yX16_reader cX16_reader 4 (some .int) rm_m_X16_reader S [.ref (gG S 16 0), .int a, .int b] (PF s0 S (ns, nj, nm, nr, nt, g0, A) (reK nr a b) (nI nr) (ns, nj, nm, (nr + 1), nt, g0, reC A nr a b)) := by
  refine pro "CavershamShiftModel" G rfl rfl (Nat.le_of_ble_eq_true rfl) (fun p e s m below meth c ls X w hnm hl => ?_)
  have hx := X.1
  have hb := X.2.1
  have hown := X.2.2.2.1
  have hts := X.2.2.2.2.1
  have hl : lv_has ls 4 [(0, .ref (gG S 16 0)), (1, .int a), (2, .int b)] := hl
  have h0 := h
  have hK : Kq refU refB refR S S := Kq.rf
  have hE : RE S A := hF.re
  refine lv_aload_n hx hb dX16_reader_0 rfl (lv_at hl 0 rfl) ?_
  refine lv_iconst (v := 0) hx hb dX16_reader_1 (by decide) ?_
  refine p_16_0 (S := S) (x := 0) X w h.v wF_X16_43 dX16_reader_2 (fun H locs w => ?_)
  have h : RI ea (sI S 256 0 0) ns nj nm nt nr nq := h.stI (by decide)
  have hK : Kq refU refB refR S (sI S 256 0 0) := hK.sI rfl
  refine lv_iload_n hx hb dX16_reader_5 rfl (lv_at hl 1 rfl) ?_
  refine lv_iconst (v := 0) hx hb dX16_reader_6 (by decide) ?_
  refine lv_bipush (v := 63) hx hb dX16_reader_7 (by decide) ?_
  refine cS (S := (sI S 256 0 0)) (nA := 3) (As := [.int a, .int 0, .int 63]) (rest := []) X w hl (m_X16_in G (sI S 256 0 0) a 0 63) wY_X16_in wM_X16_224 wSt_X16_in wI_X16 (by decide +kernel) rfl rfl dX16_reader_9 ⟨by decide, by decide⟩ (Nat.le_of_ble_eq_true rfl) (⟨Nat.le_of_ble_eq_true rfl, Nat.le_of_ble_eq_true rfl⟩) (fun v1 S1 H locs hp w => ?_)
  obtain ⟨rfl, rfl⟩ := hp
  refine lv_if_eq (tgt := 25) hx hb dX16_reader_12 (by decide) (fun hy12 => ?_) (fun hy12 => ?_)
  · refine lv_aload_n hx hb dX16_reader_25 rfl (lv_at hl 0 rfl) ?_
    refine lv_iconst (v := 1) hx hb dX16_reader_26 (by decide) ?_
    refine cV (S := (sI S 256 0 0)) (nA := 1) (As := [.int 1]) (rest := []) X w hl h.v (m_X16_no G (sI S 256 0 0) ea ns nj nm nt nr nq h 1) wY_X16_no wM_X16_229 wIn_X16_no wSe_X16_X16_no wI_X16 (by decide) rfl (by decide +kernel) rfl rfl dX16_reader_27 ⟨by decide, by decide⟩ (Nat.le_of_ble_eq_true rfl) (⟨Nat.le_of_ble_eq_true rfl, Nat.le_of_ble_eq_true rfl⟩) (fun v2 S1 H locs hp w => ?_)
    obtain ⟨rfl, rfl⟩ := hp
    have h : RI ea (sI (sI S 256 0 0) 256 0 1) ns nj nm nt nr nq := h.stI (by decide)
    have hK : Kq refU refB refR S (sI (sI S 256 0 0) 256 0 1) := hK.sI rfl
    exact rI X w rfl dX16_reader_30 (by decide) (by decide) (pf_x (k := 1) (by first | (have y : sOut a 0 63 = true := (by simpa using b2i_f hy12); simp [reK, y]) | (have y : sOut b 0 65535 = true := (by simpa using b2i_f hy22); simp [reK, y])) (by decide) (by decide) ⟨_, hea ▸ h, hQ, hZr, (hF.oI rfl).oI rfl, hg⟩)
  · refine lv_iload_n hx hb dX16_reader_15 rfl (lv_at hl 2 rfl) ?_
    refine lv_iconst (v := 0) hx hb dX16_reader_16 (by decide) ?_
    refine lv_ldc hx hb hown (hts _ wK_X16_244) dX16_reader_17 ?_
    refine cS (S := (sI S 256 0 0)) (nA := 3) (As := [.int b, .int 0, .int 65535]) (rest := []) X w hl (m_X16_in G (sI S 256 0 0) b 0 65535) wY_X16_in wM_X16_224 wSt_X16_in wI_X16 (by decide +kernel) rfl rfl dX16_reader_19 ⟨by decide, by decide⟩ (Nat.le_of_ble_eq_true rfl) (⟨Nat.le_of_ble_eq_true rfl, Nat.le_of_ble_eq_true rfl⟩) (fun v3 S1 H locs hp w => ?_)
    obtain ⟨rfl, rfl⟩ := hp
    refine lv_if_ne (tgt := 31) hx hb dX16_reader_22 (by decide) (fun hy22 => ?_) (fun hy22 => ?_)
    · refine lv_aload_n hx hb dX16_reader_31 rfl (lv_at hl 0 rfl) ?_
      refine g_16_10 (S := (sI S 256 0 0)) (x := (some (gG (sI S 256 0 0) 17 10))) X w h.v wF_X16_29 (h.f_re) dX16_reader_32 ?_
      refine cF (S := (sI S 256 0 0)) (t := 17) (nA := 0) (As := []) (rest := []) X w hl h.l_re.1 (m_size G (sI S 256 0 0) ea 10 nr h.l_re) wY_Jx4a65c_size_8abf5 wM_X16_73 wIn_Jx4a65c_size_8abf5 wSe_Jx4a65c_Jx4a65c_size_8abf5_of_java_util_List_size___I wI_Jx4a65c fw_size (by decide) rfl (by decide +kernel) rfl rfl dX16_reader_35 ⟨by decide, by decide⟩ (Nat.le_of_ble_eq_true rfl) (⟨Nat.le_of_ble_eq_true rfl, Nat.le_of_ble_eq_true rfl⟩) (fun v4 S1 H locs hp w => ?_)
      obtain ⟨rfl, rfl⟩ := hp
      refine lv_iconst (v := 4) hx hb dX16_reader_40 (by decide) ?_
      refine lv_icmp_ne (tgt := 50) hx hb dX16_reader_41 (by decide) (fun hc_n => ?_) (fun hc_n => ?_)
      · have hn9 : nr < 4 := Nat.lt_of_le_of_ne h.b_re (fun z => hc_n (by rw [z]; rfl))
        refine nwO (S := (sI S 256 0 0)) (t := 13) (n := 3) X w nr ((h.z_re nr (Nat.le_refl _)).1) (Or.inl (by decide)) (by decide) rfl in_13 tyX13 tyX13_ok (by decide +kernel) wC_X16_177 wNew_X13 wI_X13 dX16_reader_50 rfl (Nat.le_of_ble_eq_true rfl) (Nat.le_of_ble_eq_true rfl) (fun q1 S2 H hS2 w => ?_)
        subst hS2
        refine lv_dup hx hb dX16_reader_53 rfl ?_
        refine cIN (S := (sNew (sI S 256 0 0) 13 nr q1)) (nA := 0) (As := []) (rest := [.ref (gG (sNew (sI S 256 0 0) 13 nr q1) 13 nr)]) X w hl (m_X13_init G (sNew (sI S 256 0 0) 13 nr q1) nr ((Or.inr ⟨rfl, rfl⟩)) (fun v => v.elim ((h.z_re nr (Nat.le_refl _)).2) (fun e => absurd e.1 (by decide)))) wY_X13_init wMN_X16_258 wIn_X13_init wI_X13 rfl (by decide +kernel) rfl rfl dX16_reader_54 ⟨by decide, by decide⟩ (Nat.le_of_ble_eq_true rfl) (⟨Nat.le_of_ble_eq_true rfl, Nat.le_of_ble_eq_true rfl⟩) (fun v5 S1 H locs hp w => ?_)
        obtain ⟨rfl, q2, rfl⟩ := hp
        refine lv_astore_n (lv' := [(3, .ref (gG (sNew (sI S 256 0 0) 13 nr q1) 13 nr)), (0, .ref (gG S 16 0)), (1, .int a), (2, .int b)]) hx hb dX16_reader_57 rfl hl (by decide) rfl (fun ls hl => ?_)
        refine lv_aload_n hx hb dX16_reader_58 rfl (lv_at hl 0 rfl) ?_
        refine lv_iload_n hx hb dX16_reader_59 rfl (lv_at hl 2 rfl) ?_
        refine p_13_0 (S := (sR (sArr (sNew (sI S 256 0 0) 13 nr q1) 35 nr q2 40) 210 nr (some (gG (sArr (sNew (sI S 256 0 0) 13 nr q1) 35 nr q2 40) 35 nr)))) (x := a) X w (Or.inl (Or.inr ⟨rfl, rfl⟩)) wF_X16_191 dX16_reader_60 (fun H locs w => ?_)
        refine lv_aload_n hx hb dX16_reader_63 rfl (lv_at hl 0 rfl) ?_
        refine lv_iload_n hx hb dX16_reader_64 rfl (lv_at hl 3 rfl) ?_
        refine p_13_1 (S := (sI (sR (sArr (sNew (sI S 256 0 0) 13 nr q1) 35 nr q2 40) 210 nr (some (gG (sArr (sNew (sI S 256 0 0) 13 nr q1) 35 nr q2 40) 35 nr))) 208 nr a)) (x := b) X w (Or.inl (Or.inr ⟨rfl, rfl⟩)) wF_X16_194 dX16_reader_65 (fun H locs w => ?_)
        refine lv_aload_n hx hb dX16_reader_68 rfl (lv_at hl 1 rfl) ?_
        refine g_16_10 (S := (sI (sI (sR (sArr (sNew (sI S 256 0 0) 13 nr q1) 35 nr q2 40) 210 nr (some (gG (sArr (sNew (sI S 256 0 0) 13 nr q1) 35 nr q2 40) 35 nr))) 208 nr a) 209 nr b)) (x := (some (gG (sI (sI (sR (sArr (sNew (sI S 256 0 0) 13 nr q1) 35 nr q2 40) 210 nr (some (gG (sArr (sNew (sI S 256 0 0) 13 nr q1) 35 nr q2 40) 35 nr))) 208 nr a) 209 nr b) 17 10))) X w (Or.inl (Or.inl (h.v))) wF_X16_29 (h.f_re) dX16_reader_69 ?_
        refine lv_aload_n hx hb dX16_reader_72 rfl (lv_at hl 0 rfl) ?_
        refine cF (S := (sI (sI (sR (sArr (sNew (sI S 256 0 0) 13 nr q1) 35 nr q2 40) 210 nr (some (gG (sArr (sNew (sI S 256 0 0) 13 nr q1) 35 nr q2 40) 35 nr))) 208 nr a) 209 nr b)) (t := 17) (nA := 1) (As := [.ref (gG (sNew (sI S 256 0 0) 13 nr q1) 13 nr)]) (rest := []) X w hl (Or.inl (Or.inl (h.l_re.1))) (add_T G (sI S 256 0 0) (sI (sI (sR (sArr (sNew (sI S 256 0 0) 13 nr q1) 35 nr q2 40) 210 nr (some (gG (sArr (sNew (sI S 256 0 0) 13 nr q1) 35 nr q2 40) 35 nr))) 208 nr a) 209 nr b) 10 nr (gG (sI (sI (sR (sArr (sNew (sI S 256 0 0) 13 nr q1) 35 nr q2 40) 210 nr (some (gG (sArr (sNew (sI S 256 0 0) 13 nr q1) 35 nr q2 40) 35 nr))) 208 nr a) 209 nr b) 13 nr) (hea ▸ h.l_re) (by have := h.b_re; omega) h.z30.2.2.2.2.1 (h.z31 10) h.el_re (fun t i v => ⟨Or.inl (Or.inl (v)), (up2_n (fun z => (h.z_re nr (Nat.le_refl _)).2 (by rw [← z.1, ← z.2]; exact v))).trans (up2_n (fun z => (h.z_re nr (Nat.le_refl _)).1 (by rw [← z.1, ← z.2]; exact v)))⟩) (fun v => v.elim (fun v => v.elim (fun v => v) (fun e => absurd e.1 (by decide))) (fun e => absurd e.1 (by decide))) (fun v => v.elim (fun v => v.elim (fun v => v) (fun e => absurd e.1 (by decide))) (fun e => absurd e.1 (by decide))) rfl rfl rfl rfl (Or.inl ⟨13, nr, Or.inl (Or.inr ⟨rfl, rfl⟩), by decide, rfl⟩)) wY_Jx4a65c_add_9ea2d wM_X16_170 wIn_Jx4a65c_add_9ea2d wSe_Jx4a65c_Jx4a65c_add_9ea2d_of_java_util_List_add__Ljava_lang_Object__Z wI_Jx4a65c fw_add (by decide) rfl (by decide +kernel) rfl rfl dX16_reader_73 ⟨by decide, by decide⟩ (Nat.le_of_ble_eq_true rfl) (⟨Nat.le_of_ble_eq_true rfl, Nat.le_of_ble_eq_true rfl⟩) (fun v6 S1 H locs hp w => ?_)
        obtain ⟨rfl, q9, m2, b2, rfl, hb0, hb1⟩ := hp
        have hQ : QI s0 (addS (sI (sI (sR (sArr (sNew (sI S 256 0 0) 13 nr q1) 35 nr q2 40) 210 nr (some (gG (sArr (sNew (sI S 256 0 0) 13 nr q1) 35 nr q2 40) 35 nr))) 208 nr a) 209 nr b) 10 q9 (capOf (nr + 1)) m2 (nI (nr + 1)) b2) nq nt := ⟨hQ.1, hQ.2⟩
        have hK : Kq refU refB refR S (addS (sI (sI (sR (sArr (sNew (sI S 256 0 0) 13 nr q1) 35 nr q2 40) 210 nr (some (gG (sArr (sNew (sI S 256 0 0) 13 nr q1) 35 nr q2 40) 35 nr))) 208 nr a) 209 nr b) 10 q9 (capOf (nr + 1)) m2 (nI (nr + 1)) b2) := hK.tr (Kq.rB kr_add_re)
        have h : RI ea (addS (sI (sI (sR (sArr (sNew (sI S 256 0 0) 13 nr q1) 35 nr q2 40) 210 nr (some (gG (sArr (sNew (sI S 256 0 0) 13 nr q1) 35 nr q2 40) 35 nr))) 208 nr a) 209 nr b) 10 q9 (capOf (nr + 1)) m2 (nI (nr + 1)) b2) ns nj nm nt (nr + 1) nq := h.add_re hn9  hb0 hb1
        have hZr : Zr (addS (sI (sI (sR (sArr (sNew (sI S 256 0 0) 13 nr q1) 35 nr q2 40) 210 nr (some (gG (sArr (sNew (sI S 256 0 0) 13 nr q1) 35 nr q2 40) 35 nr))) 208 nr a) 209 nr b) 10 q9 (capOf (nr + 1)) m2 (nI (nr + 1)) b2) := hZr.of (fun t i z v => v.elim (fun v => v.elim (fun v => v.elim (fun v => v) (fun e => absurd e (by omega))) (fun e => absurd e (by omega))) (fun e => absurd e (by omega)))
        refine lv_pop hx hb dX16_reader_78 rfl ?_
        refine lv_aload_n hx hb dX16_reader_79 rfl (lv_at hl 1 rfl) ?_
        refine g_16_10 (S := (addS (sI (sI (sR (sArr (sNew (sI S 256 0 0) 13 nr q1) 35 nr q2 40) 210 nr (some (gG (sArr (sNew (sI S 256 0 0) 13 nr q1) 35 nr q2 40) 35 nr))) 208 nr a) 209 nr b) 10 q9 (capOf (nr + 1)) m2 (nI (nr + 1)) b2)) (x := (some (gG (addS (sI (sI (sR (sArr (sNew (sI S 256 0 0) 13 nr q1) 35 nr q2 40) 210 nr (some (gG (sArr (sNew (sI S 256 0 0) 13 nr q1) 35 nr q2 40) 35 nr))) 208 nr a) 209 nr b) 10 q9 (capOf (nr + 1)) m2 (nI (nr + 1)) b2) 17 10))) X w h.v wF_X16_29 (h.f_re) dX16_reader_80 ?_
        refine cF (S := (addS (sI (sI (sR (sArr (sNew (sI S 256 0 0) 13 nr q1) 35 nr q2 40) 210 nr (some (gG (sArr (sNew (sI S 256 0 0) 13 nr q1) 35 nr q2 40) 35 nr))) 208 nr a) 209 nr b) 10 q9 (capOf (nr + 1)) m2 (nI (nr + 1)) b2)) (t := 17) (nA := 0) (As := []) (rest := []) X w hl h.l_re.1 (m_size G (addS (sI (sI (sR (sArr (sNew (sI S 256 0 0) 13 nr q1) 35 nr q2 40) 210 nr (some (gG (sArr (sNew (sI S 256 0 0) 13 nr q1) 35 nr q2 40) 35 nr))) 208 nr a) 209 nr b) 10 q9 (capOf (nr + 1)) m2 (nI (nr + 1)) b2) ea 10 (nr + 1) h.l_re) wY_Jx4a65c_size_8abf5 wM_X16_73 wIn_Jx4a65c_size_8abf5 wSe_Jx4a65c_Jx4a65c_size_8abf5_of_java_util_List_size___I wI_Jx4a65c fw_size (by decide) rfl (by decide +kernel) rfl rfl dX16_reader_83 ⟨by decide, by decide⟩ (Nat.le_of_ble_eq_true rfl) (⟨Nat.le_of_ble_eq_true rfl, Nat.le_of_ble_eq_true rfl⟩) (fun v7 S1 H locs hp w => ?_)
        obtain ⟨rfl, rfl⟩ := hp
        refine lv_iconst (v := 1) hx hb dX16_reader_88 (by decide) ?_
        refine lv_isub hx hb dX16_reader_89 ?_
        exact rI X w rfl dX16_reader_90 (by decide) (by decide) (Or.inr ⟨by have z12 : sOut a 0 63 = false := (by simpa using b2i_t hy12); have z22 : sOut b 0 65535 = false := (by simpa using b2i_t hy22); simp [reK, z12, z22, Nat.not_le.mpr hn9], by rw [nI_p1], ⟨_, hea ▸ h, hQ, hZr, (RF.rd (hF.oI (f := 256) (i := 0) (v := 0) rfl)), hg⟩, hK, by simp [mI, mR, gG, mN, mB, mA, sI, sR, sA, sArr, sNew, addS, up2]⟩)
      · have hn9 : 4 ≤ nr := Nat.le_of_eq (nI_injN (by have := h.b_re; omega) (by decide) (hc_n.trans (by decide : (4 : Int32) = nI 4))).symm
        refine lv_aload_n hx hb dX16_reader_44 rfl (lv_at hl 0 rfl) ?_
        refine lv_iconst (v := 2) hx hb dX16_reader_45 (by decide) ?_
        refine cV (S := (sI S 256 0 0)) (nA := 1) (As := [.int 2]) (rest := []) X w hl h.v (m_X16_no G (sI S 256 0 0) ea ns nj nm nt nr nq h 2) wY_X16_no wM_X16_229 wIn_X16_no wSe_X16_X16_no wI_X16 (by decide) rfl (by decide +kernel) rfl rfl dX16_reader_46 ⟨by decide, by decide⟩ (Nat.le_of_ble_eq_true rfl) (⟨Nat.le_of_ble_eq_true rfl, Nat.le_of_ble_eq_true rfl⟩) (fun v8 S1 H locs hp w => ?_)
        obtain ⟨rfl, rfl⟩ := hp
        have h : RI ea (sI (sI S 256 0 0) 256 0 2) ns nj nm nt nr nq := h.stI (by decide)
        have hK : Kq refU refB refR S (sI (sI S 256 0 0) 256 0 2) := hK.sI rfl
        exact rI X w rfl dX16_reader_49 (by decide) (by decide) (pf_x (k := 2) (by have z12 : sOut a 0 63 = false := (by simpa using b2i_t hy12); have z22 : sOut b 0 65535 = false := (by simpa using b2i_t hy22); simp [reK, z12, z22, hn9]) (by decide) (by decide) ⟨_, hea ▸ h, hQ, hZr, (hF.oI rfl).oI rfl, hg⟩)
    · refine lv_aload_n hx hb dX16_reader_25 rfl (lv_at hl 0 rfl) ?_
      refine lv_iconst (v := 1) hx hb dX16_reader_26 (by decide) ?_
      refine cV (S := (sI S 256 0 0)) (nA := 1) (As := [.int 1]) (rest := []) X w hl h.v (m_X16_no G (sI S 256 0 0) ea ns nj nm nt nr nq h 1) wY_X16_no wM_X16_229 wIn_X16_no wSe_X16_X16_no wI_X16 (by decide) rfl (by decide +kernel) rfl rfl dX16_reader_27 ⟨by decide, by decide⟩ (Nat.le_of_ble_eq_true rfl) (⟨Nat.le_of_ble_eq_true rfl, Nat.le_of_ble_eq_true rfl⟩) (fun v9 S1 H locs hp w => ?_)
      obtain ⟨rfl, rfl⟩ := hp
      have h : RI ea (sI (sI S 256 0 0) 256 0 1) ns nj nm nt nr nq := h.stI (by decide)
      have hK : Kq refU refB refR S (sI (sI S 256 0 0) 256 0 1) := hK.sI rfl
      exact rI X w rfl dX16_reader_30 (by decide) (by decide) (pf_x (k := 1) (by first | (have y : sOut a 0 63 = true := (by simpa using b2i_f hy12); simp [reK, y]) | (have y : sOut b 0 65535 = true := (by simpa using b2i_f hy22); simp [reK, y])) (by decide) (by decide) ⟨_, hea ▸ h, hQ, hZr, (hF.oI rfl).oI rfl, hg⟩)

theorem dX16_talk_0 : decode cX16_talk 0 = .ok (.aload_n 0, 1) := by decide +kernel
theorem dX16_talk_1 : decode cX16_talk 1 = .ok (.iconst 0, 1) := by decide +kernel
theorem dX16_talk_2 : decode cX16_talk 2 = .ok (.putfield 43, 3) := by decide +kernel
theorem dX16_talk_5 : decode cX16_talk 5 = .ok (.aload_n 0, 1) := by decide +kernel
theorem dX16_talk_6 : decode cX16_talk 6 = .ok (.iload_n 1, 1) := by decide +kernel
theorem dX16_talk_7 : decode cX16_talk 7 = .ok (.invokevirtual 235, 3) := by decide +kernel
theorem dX16_talk_10 : decode cX16_talk 10 = .ok (.ifCond .ne 9, 3) := by decide +kernel
theorem dX16_talk_13 : decode cX16_talk 13 = .ok (.aload_n 0, 1) := by decide +kernel
theorem dX16_talk_14 : decode cX16_talk 14 = .ok (.iconst 1, 1) := by decide +kernel
theorem dX16_talk_15 : decode cX16_talk 15 = .ok (.invokevirtual 229, 3) := by decide +kernel
theorem dX16_talk_18 : decode cX16_talk 18 = .ok (.ireturn, 1) := by decide +kernel
theorem dX16_talk_19 : decode cX16_talk 19 = .ok (.iload_n 2, 1) := by decide +kernel
theorem dX16_talk_20 : decode cX16_talk 20 = .ok (.aload_n 0, 1) := by decide +kernel
theorem dX16_talk_21 : decode cX16_talk 21 = .ok (.getfield 125, 3) := by decide +kernel
theorem dX16_talk_24 : decode cX16_talk 24 = .ok (.sipush 719, 3) := by decide +kernel
theorem dX16_talk_27 : decode cX16_talk 27 = .ok (.invokestatic 224, 3) := by decide +kernel
theorem dX16_talk_30 : decode cX16_talk 30 = .ok (.ifCond .eq 47, 3) := by decide +kernel
theorem dX16_talk_33 : decode cX16_talk 33 = .ok (.iload_n 3, 1) := by decide +kernel
theorem dX16_talk_34 : decode cX16_talk 34 = .ok (.iconst 0, 1) := by decide +kernel
theorem dX16_talk_35 : decode cX16_talk 35 = .ok (.bipush 15, 2) := by decide +kernel
theorem dX16_talk_37 : decode cX16_talk 37 = .ok (.invokestatic 224, 3) := by decide +kernel
theorem dX16_talk_40 : decode cX16_talk 40 = .ok (.ifCond .eq 37, 3) := by decide +kernel
theorem dX16_talk_43 : decode cX16_talk 43 = .ok (.iload 4, 2) := by decide +kernel
theorem dX16_talk_45 : decode cX16_talk 45 = .ok (.iconst 1, 1) := by decide +kernel
theorem dX16_talk_46 : decode cX16_talk 46 = .ok (.sipush 300, 3) := by decide +kernel
theorem dX16_talk_49 : decode cX16_talk 49 = .ok (.invokestatic 224, 3) := by decide +kernel
theorem dX16_talk_52 : decode cX16_talk 52 = .ok (.ifCond .eq 25, 3) := by decide +kernel
theorem dX16_talk_55 : decode cX16_talk 55 = .ok (.iload 5, 2) := by decide +kernel
theorem dX16_talk_57 : decode cX16_talk 57 = .ok (.iconst 0, 1) := by decide +kernel
theorem dX16_talk_58 : decode cX16_talk 58 = .ok (.bipush 9, 2) := by decide +kernel
theorem dX16_talk_60 : decode cX16_talk 60 = .ok (.invokestatic 224, 3) := by decide +kernel
theorem dX16_talk_63 : decode cX16_talk 63 = .ok (.ifCond .eq 14, 3) := by decide +kernel
theorem dX16_talk_66 : decode cX16_talk 66 = .ok (.iload 6, 2) := by decide +kernel
theorem dX16_talk_68 : decode cX16_talk 68 = .ok (.iconst 0, 1) := by decide +kernel
theorem dX16_talk_69 : decode cX16_talk 69 = .ok (.ldc 244, 2) := by decide +kernel
theorem dX16_talk_71 : decode cX16_talk 71 = .ok (.invokestatic 224, 3) := by decide +kernel
theorem dX16_talk_74 : decode cX16_talk 74 = .ok (.ifCond .ne 9, 3) := by decide +kernel
theorem dX16_talk_77 : decode cX16_talk 77 = .ok (.aload_n 0, 1) := by decide +kernel
theorem dX16_talk_78 : decode cX16_talk 78 = .ok (.iconst 2, 1) := by decide +kernel
theorem dX16_talk_79 : decode cX16_talk 79 = .ok (.invokevirtual 229, 3) := by decide +kernel
theorem dX16_talk_82 : decode cX16_talk 82 = .ok (.ireturn, 1) := by decide +kernel
theorem dX16_talk_83 : decode cX16_talk 83 = .ok (.iconst 0, 1) := by decide +kernel
theorem dX16_talk_84 : decode cX16_talk 84 = .ok (.istore 7, 2) := by decide +kernel
theorem dX16_talk_86 : decode cX16_talk 86 = .ok (.iconst 0, 1) := by decide +kernel
theorem dX16_talk_87 : decode cX16_talk 87 = .ok (.istore 8, 2) := by decide +kernel
theorem dX16_talk_89 : decode cX16_talk 89 = .ok (.iload 8, 2) := by decide +kernel
theorem dX16_talk_91 : decode cX16_talk 91 = .ok (.aload_n 0, 1) := by decide +kernel
theorem dX16_talk_92 : decode cX16_talk 92 = .ok (.getfield 26, 3) := by decide +kernel
theorem dX16_talk_95 : decode cX16_talk 95 = .ok (.invokeinterface 73 1, 5) := by decide +kernel
theorem dX16_talk_100 : decode cX16_talk 100 = .ok (.if_icmp .ge 61, 3) := by decide +kernel
theorem dX16_talk_103 : decode cX16_talk 103 = .ok (.iload 7, 2) := by decide +kernel
theorem dX16_talk_105 : decode cX16_talk 105 = .ok (.aload_n 0, 1) := by decide +kernel
theorem dX16_talk_106 : decode cX16_talk 106 = .ok (.getfield 26, 3) := by decide +kernel
theorem dX16_talk_109 : decode cX16_talk 109 = .ok (.iload 8, 2) := by decide +kernel
theorem dX16_talk_111 : decode cX16_talk 111 = .ok (.invokeinterface 46 2, 5) := by decide +kernel
theorem dX16_talk_116 : decode cX16_talk 116 = .ok (.checkcast 105, 3) := by decide +kernel
theorem dX16_talk_119 : decode cX16_talk 119 = .ok (.getfield 104, 3) := by decide +kernel
theorem dX16_talk_122 : decode cX16_talk 122 = .ok (.iload_n 1, 1) := by decide +kernel
theorem dX16_talk_123 : decode cX16_talk 123 = .ok (.if_icmp .ne 28, 3) := by decide +kernel
theorem dX16_talk_126 : decode cX16_talk 126 = .ok (.aload_n 0, 1) := by decide +kernel
theorem dX16_talk_127 : decode cX16_talk 127 = .ok (.getfield 26, 3) := by decide +kernel
theorem dX16_talk_130 : decode cX16_talk 130 = .ok (.iload 8, 2) := by decide +kernel
theorem dX16_talk_132 : decode cX16_talk 132 = .ok (.invokeinterface 46 2, 5) := by decide +kernel
theorem dX16_talk_137 : decode cX16_talk 137 = .ok (.checkcast 105, 3) := by decide +kernel
theorem dX16_talk_140 : decode cX16_talk 140 = .ok (.getfield 112, 3) := by decide +kernel
theorem dX16_talk_143 : decode cX16_talk 143 = .ok (.iload_n 2, 1) := by decide +kernel
theorem dX16_talk_144 : decode cX16_talk 144 = .ok (.if_icmp .ne 7, 3) := by decide +kernel
theorem dX16_talk_147 : decode cX16_talk 147 = .ok (.iconst 1, 1) := by decide +kernel
theorem dX16_talk_148 : decode cX16_talk 148 = .ok (.goto 4, 3) := by decide +kernel
theorem dX16_talk_151 : decode cX16_talk 151 = .ok (.iconst 0, 1) := by decide +kernel
theorem dX16_talk_152 : decode cX16_talk 152 = .ok (.ior, 1) := by decide +kernel
theorem dX16_talk_153 : decode cX16_talk 153 = .ok (.istore 7, 2) := by decide +kernel
theorem dX16_talk_155 : decode cX16_talk 155 = .ok (.iinc 8 1, 3) := by decide +kernel
theorem dX16_talk_158 : decode cX16_talk 158 = .ok (.goto (-69), 3) := by decide +kernel
theorem dX16_talk_161 : decode cX16_talk 161 = .ok (.aload_n 0, 1) := by decide +kernel
theorem dX16_talk_162 : decode cX16_talk 162 = .ok (.getfield 26, 3) := by decide +kernel
theorem dX16_talk_165 : decode cX16_talk 165 = .ok (.invokeinterface 73 1, 5) := by decide +kernel
theorem dX16_talk_170 : decode cX16_talk 170 = .ok (.bipush 40, 2) := by decide +kernel
theorem dX16_talk_172 : decode cX16_talk 172 = .ok (.if_icmp .eq 20, 3) := by decide +kernel
theorem dX16_talk_175 : decode cX16_talk 175 = .ok (.aload_n 0, 1) := by decide +kernel
theorem dX16_talk_176 : decode cX16_talk 176 = .ok (.iload_n 1, 1) := by decide +kernel
theorem dX16_talk_177 : decode cX16_talk 177 = .ok (.iload_n 2, 1) := by decide +kernel
theorem dX16_talk_178 : decode cX16_talk 178 = .ok (.bipush 24, 2) := by decide +kernel
theorem dX16_talk_180 : decode cX16_talk 180 = .ok (.irem, 1) := by decide +kernel
theorem dX16_talk_181 : decode cX16_talk 181 = .ok (.invokevirtual 61, 3) := by decide +kernel
theorem dX16_talk_184 : decode cX16_talk 184 = .ok (.ifCond .eq 8, 3) := by decide +kernel
theorem dX16_talk_187 : decode cX16_talk 187 = .ok (.iload 7, 2) := by decide +kernel
theorem dX16_talk_189 : decode cX16_talk 189 = .ok (.ifCond .eq 9, 3) := by decide +kernel
theorem dX16_talk_192 : decode cX16_talk 192 = .ok (.aload_n 0, 1) := by decide +kernel
theorem dX16_talk_193 : decode cX16_talk 193 = .ok (.iconst 3, 1) := by decide +kernel
theorem dX16_talk_194 : decode cX16_talk 194 = .ok (.invokevirtual 229, 3) := by decide +kernel
theorem dX16_talk_197 : decode cX16_talk 197 = .ok (.ireturn, 1) := by decide +kernel
theorem dX16_talk_198 : decode cX16_talk 198 = .ok (.aload_n 0, 1) := by decide +kernel
theorem dX16_talk_199 : decode cX16_talk 199 = .ok (.getfield 26, 3) := by decide +kernel
theorem dX16_talk_202 : decode cX16_talk 202 = .ok (.new 105, 3) := by decide +kernel
theorem dX16_talk_205 : decode cX16_talk 205 = .ok (.dup, 1) := by decide +kernel
theorem dX16_talk_206 : decode cX16_talk 206 = .ok (.iload_n 1, 1) := by decide +kernel
theorem dX16_talk_207 : decode cX16_talk 207 = .ok (.iload_n 2, 1) := by decide +kernel
theorem dX16_talk_208 : decode cX16_talk 208 = .ok (.iload_n 3, 1) := by decide +kernel
theorem dX16_talk_209 : decode cX16_talk 209 = .ok (.iload 4, 2) := by decide +kernel
theorem dX16_talk_211 : decode cX16_talk 211 = .ok (.iload 5, 2) := by decide +kernel
theorem dX16_talk_213 : decode cX16_talk 213 = .ok (.iload 6, 2) := by decide +kernel
theorem dX16_talk_215 : decode cX16_talk 215 = .ok (.invokespecial 245, 3) := by decide +kernel
theorem dX16_talk_218 : decode cX16_talk 218 = .ok (.invokeinterface 170 2, 5) := by decide +kernel
theorem dX16_talk_223 : decode cX16_talk 223 = .ok (.pop, 1) := by decide +kernel
theorem dX16_talk_224 : decode cX16_talk 224 = .ok (.aload_n 0, 1) := by decide +kernel
theorem dX16_talk_225 : decode cX16_talk 225 = .ok (.getfield 26, 3) := by decide +kernel
theorem dX16_talk_228 : decode cX16_talk 228 = .ok (.invokeinterface 73 1, 5) := by decide +kernel
theorem dX16_talk_233 : decode cX16_talk 233 = .ok (.iconst 1, 1) := by decide +kernel
theorem dX16_talk_234 : decode cX16_talk 234 = .ok (.isub, 1) := by decide +kernel
theorem dX16_talk_235 : decode cX16_talk 235 = .ok (.ireturn, 1) := by decide +kernel
abbrev rm_m_X16_talk : Room := { frames := 7, cells := 2, slots := 63, locals := 191 }
set_option maxHeartbeats 4000000 in
set_option maxRecDepth 100000 in
theorem m_X16_talk {s0 : State} {l : Launch} {D : va_G} {cy : Nat → ClassId} (G : Gl s0 l D cy) (S : HS) (ea ns nj nm nt nr nq : Nat) (h : RI ea S ns nj nm nt nr nq) (hea : ea = eaOf s0) (hQ : QI s0 S nq nt) (hZr : Zr S) (A : HS) (g0 : Nat) (hF : RF s0 S A nq nt) (hg : mI S 257 0 = nI g0) (a b d g e_ f : Int32) : Ctr s0 l D cy yX16_talk cX16_talk 9 (some .int) rm_m_X16_talk S [.ref (gG S 16 0), .int a, .int b, .int d, .int g, .int e_, .int f] (PF s0 S (ns, nj, nm, nr, nt, g0, A) (taK ns nt (nI g0) a b d g e_ f (sIn (mI A 228 a.toNatClampNeg) (b - b / 24 * 24)) (rHas A a b nt)) (nI nt) (ns, nj, nm, nr, (nt + 1), g0, taC A nt a b d g e_ f)) := by
  refine pro "CavershamShiftModel" G rfl rfl (Nat.le_of_ble_eq_true rfl) (fun p e s m below meth c ls X w hnm hl => ?_)
  have hx := X.1
  have hb := X.2.1
  have hown := X.2.2.2.1
  have hts := X.2.2.2.2.1
  have hl : lv_has ls 9 [(0, .ref (gG S 16 0)), (1, .int a), (2, .int b), (3, .int d), (4, .int g), (5, .int e_), (6, .int f)] := hl
  have h0 := h
  have hK : Kq refU refB refR S S := Kq.rf
  have hE : RE S A := hF.re
  obtain ⟨g9, hg9, eg9⟩ := h.x_ho
  rw [hg] at eg9
  refine lv_aload_n hx hb dX16_talk_0 rfl (lv_at hl 0 rfl) ?_
  refine lv_iconst (v := 0) hx hb dX16_talk_1 (by decide) ?_
  refine p_16_0 (S := S) (x := 0) X w h.v wF_X16_43 dX16_talk_2 (fun H locs w => ?_)
  have h : RI ea (sI S 256 0 0) ns nj nm nt nr nq := h.stI (by decide)
  have hK : Kq refU refB refR S (sI S 256 0 0) := hK.sI rfl
  refine lv_aload_n hx hb dX16_talk_5 rfl (lv_at hl 0 rfl) ?_
  refine lv_iload_n hx hb dX16_talk_6 rfl (lv_at hl 1 rfl) ?_
  refine cV (S := (sI S 256 0 0)) (nA := 1) (As := [.int a]) (rest := []) X w hl h.v (m_X16_isStation G (sI S 256 0 0) ea ns nj nm nt nr nq h a) wY_X16_isStation wM_X16_235 wIn_X16_isStation wSe_X16_X16_isStation wI_X16 (by decide) rfl (by decide +kernel) rfl rfl dX16_talk_7 ⟨by decide, by decide⟩ (Nat.le_of_ble_eq_true rfl) (⟨Nat.le_of_ble_eq_true rfl, Nat.le_of_ble_eq_true rfl⟩) (fun v1 S1 H locs hp w => ?_)
  obtain ⟨rfl, rfl⟩ := hp
  refine lv_if_ne (tgt := 19) hx hb dX16_talk_10 (by decide) (fun hy10 => ?_) (fun hy10 => ?_)
  · obtain ⟨j9, hl9, hv9⟩ := out_in (n := ns) (by have hb1 := h.b_st; omega) (by simpa using b2i_t hy10)
    rw [hv9] at hl
    refine lv_iload_n hx hb dX16_talk_19 rfl (lv_at hl 2 rfl) ?_
    refine lv_aload_n hx hb dX16_talk_20 rfl (lv_at hl 0 rfl) ?_
    refine g_16_1 (S := (sI S 256 0 0)) (x := (nI g0)) X w h.v wF_X16_125 (hg) dX16_talk_21 ?_
    refine lv_sipush (v := 719) hx hb dX16_talk_24 (by decide) ?_
    refine cS (S := (sI S 256 0 0)) (nA := 3) (As := [.int b, .int (nI g0), .int 719]) (rest := []) X w hl (m_X16_in G (sI S 256 0 0) b (nI g0) 719) wY_X16_in wM_X16_224 wSt_X16_in wI_X16 (by decide +kernel) rfl rfl dX16_talk_27 ⟨by decide, by decide⟩ (Nat.le_of_ble_eq_true rfl) (⟨Nat.le_of_ble_eq_true rfl, Nat.le_of_ble_eq_true rfl⟩) (fun v2 S1 H locs hp w => ?_)
    obtain ⟨rfl, rfl⟩ := hp
    refine lv_if_eq (tgt := 77) hx hb dX16_talk_30 (by decide) (fun hy30 => ?_) (fun hy30 => ?_)
    · refine lv_aload_n hx hb dX16_talk_77 rfl (lv_at hl 0 rfl) ?_
      refine lv_iconst (v := 2) hx hb dX16_talk_78 (by decide) ?_
      refine cV (S := (sI S 256 0 0)) (nA := 1) (As := [.int 2]) (rest := []) X w hl h.v (m_X16_no G (sI S 256 0 0) ea ns nj nm nt nr nq h 2) wY_X16_no wM_X16_229 wIn_X16_no wSe_X16_X16_no wI_X16 (by decide) rfl (by decide +kernel) rfl rfl dX16_talk_79 ⟨by decide, by decide⟩ (Nat.le_of_ble_eq_true rfl) (⟨Nat.le_of_ble_eq_true rfl, Nat.le_of_ble_eq_true rfl⟩) (fun v3 S1 H locs hp w => ?_)
      obtain ⟨rfl, rfl⟩ := hp
      have h : RI ea (sI (sI S 256 0 0) 256 0 2) ns nj nm nt nr nq := h.stI (by decide)
      have hK : Kq refU refB refR S (sI (sI S 256 0 0) 256 0 2) := hK.sI rfl
      exact rI X w rfl dX16_talk_82 (by decide) (by decide) (pf_x (k := 2) (taK_2 hl9 hv9 (Nat.le_trans h0.b_st (by decide)) (by first | exact taX_1 (by simpa using b2i_f hy30) | exact taX_2 (by simpa using b2i_f hy40) | exact taX_3 (by simpa using b2i_f hy52) | exact taX_4 (by simpa using b2i_f hy63) | exact taX_5 (by simpa using b2i_f hy74))) (by decide) (by decide) ⟨_, hea ▸ h, hQ, hZr, (hF.oI rfl).oI rfl, hg⟩)
    · refine lv_iload_n hx hb dX16_talk_33 rfl (lv_at hl 3 rfl) ?_
      refine lv_iconst (v := 0) hx hb dX16_talk_34 (by decide) ?_
      refine lv_bipush (v := 15) hx hb dX16_talk_35 (by decide) ?_
      refine cS (S := (sI S 256 0 0)) (nA := 3) (As := [.int d, .int 0, .int 15]) (rest := []) X w hl (m_X16_in G (sI S 256 0 0) d 0 15) wY_X16_in wM_X16_224 wSt_X16_in wI_X16 (by decide +kernel) rfl rfl dX16_talk_37 ⟨by decide, by decide⟩ (Nat.le_of_ble_eq_true rfl) (⟨Nat.le_of_ble_eq_true rfl, Nat.le_of_ble_eq_true rfl⟩) (fun v4 S1 H locs hp w => ?_)
      obtain ⟨rfl, rfl⟩ := hp
      refine lv_if_eq (tgt := 77) hx hb dX16_talk_40 (by decide) (fun hy40 => ?_) (fun hy40 => ?_)
      · refine lv_aload_n hx hb dX16_talk_77 rfl (lv_at hl 0 rfl) ?_
        refine lv_iconst (v := 2) hx hb dX16_talk_78 (by decide) ?_
        refine cV (S := (sI S 256 0 0)) (nA := 1) (As := [.int 2]) (rest := []) X w hl h.v (m_X16_no G (sI S 256 0 0) ea ns nj nm nt nr nq h 2) wY_X16_no wM_X16_229 wIn_X16_no wSe_X16_X16_no wI_X16 (by decide) rfl (by decide +kernel) rfl rfl dX16_talk_79 ⟨by decide, by decide⟩ (Nat.le_of_ble_eq_true rfl) (⟨Nat.le_of_ble_eq_true rfl, Nat.le_of_ble_eq_true rfl⟩) (fun v5 S1 H locs hp w => ?_)
        obtain ⟨rfl, rfl⟩ := hp
        have h : RI ea (sI (sI S 256 0 0) 256 0 2) ns nj nm nt nr nq := h.stI (by decide)
        have hK : Kq refU refB refR S (sI (sI S 256 0 0) 256 0 2) := hK.sI rfl
        exact rI X w rfl dX16_talk_82 (by decide) (by decide) (pf_x (k := 2) (taK_2 hl9 hv9 (Nat.le_trans h0.b_st (by decide)) (by first | exact taX_1 (by simpa using b2i_f hy30) | exact taX_2 (by simpa using b2i_f hy40) | exact taX_3 (by simpa using b2i_f hy52) | exact taX_4 (by simpa using b2i_f hy63) | exact taX_5 (by simpa using b2i_f hy74))) (by decide) (by decide) ⟨_, hea ▸ h, hQ, hZr, (hF.oI rfl).oI rfl, hg⟩)
      · refine lv_iload hx hb dX16_talk_43 (lv_at hl 4 rfl) ?_
        refine lv_iconst (v := 1) hx hb dX16_talk_45 (by decide) ?_
        refine lv_sipush (v := 300) hx hb dX16_talk_46 (by decide) ?_
        refine cS (S := (sI S 256 0 0)) (nA := 3) (As := [.int g, .int 1, .int 300]) (rest := []) X w hl (m_X16_in G (sI S 256 0 0) g 1 300) wY_X16_in wM_X16_224 wSt_X16_in wI_X16 (by decide +kernel) rfl rfl dX16_talk_49 ⟨by decide, by decide⟩ (Nat.le_of_ble_eq_true rfl) (⟨Nat.le_of_ble_eq_true rfl, Nat.le_of_ble_eq_true rfl⟩) (fun v6 S1 H locs hp w => ?_)
        obtain ⟨rfl, rfl⟩ := hp
        refine lv_if_eq (tgt := 77) hx hb dX16_talk_52 (by decide) (fun hy52 => ?_) (fun hy52 => ?_)
        · refine lv_aload_n hx hb dX16_talk_77 rfl (lv_at hl 0 rfl) ?_
          refine lv_iconst (v := 2) hx hb dX16_talk_78 (by decide) ?_
          refine cV (S := (sI S 256 0 0)) (nA := 1) (As := [.int 2]) (rest := []) X w hl h.v (m_X16_no G (sI S 256 0 0) ea ns nj nm nt nr nq h 2) wY_X16_no wM_X16_229 wIn_X16_no wSe_X16_X16_no wI_X16 (by decide) rfl (by decide +kernel) rfl rfl dX16_talk_79 ⟨by decide, by decide⟩ (Nat.le_of_ble_eq_true rfl) (⟨Nat.le_of_ble_eq_true rfl, Nat.le_of_ble_eq_true rfl⟩) (fun v7 S1 H locs hp w => ?_)
          obtain ⟨rfl, rfl⟩ := hp
          have h : RI ea (sI (sI S 256 0 0) 256 0 2) ns nj nm nt nr nq := h.stI (by decide)
          have hK : Kq refU refB refR S (sI (sI S 256 0 0) 256 0 2) := hK.sI rfl
          exact rI X w rfl dX16_talk_82 (by decide) (by decide) (pf_x (k := 2) (taK_2 hl9 hv9 (Nat.le_trans h0.b_st (by decide)) (by first | exact taX_1 (by simpa using b2i_f hy30) | exact taX_2 (by simpa using b2i_f hy40) | exact taX_3 (by simpa using b2i_f hy52) | exact taX_4 (by simpa using b2i_f hy63) | exact taX_5 (by simpa using b2i_f hy74))) (by decide) (by decide) ⟨_, hea ▸ h, hQ, hZr, (hF.oI rfl).oI rfl, hg⟩)
        · refine lv_iload hx hb dX16_talk_55 (lv_at hl 5 rfl) ?_
          refine lv_iconst (v := 0) hx hb dX16_talk_57 (by decide) ?_
          refine lv_bipush (v := 9) hx hb dX16_talk_58 (by decide) ?_
          refine cS (S := (sI S 256 0 0)) (nA := 3) (As := [.int e_, .int 0, .int 9]) (rest := []) X w hl (m_X16_in G (sI S 256 0 0) e_ 0 9) wY_X16_in wM_X16_224 wSt_X16_in wI_X16 (by decide +kernel) rfl rfl dX16_talk_60 ⟨by decide, by decide⟩ (Nat.le_of_ble_eq_true rfl) (⟨Nat.le_of_ble_eq_true rfl, Nat.le_of_ble_eq_true rfl⟩) (fun v8 S1 H locs hp w => ?_)
          obtain ⟨rfl, rfl⟩ := hp
          refine lv_if_eq (tgt := 77) hx hb dX16_talk_63 (by decide) (fun hy63 => ?_) (fun hy63 => ?_)
          · refine lv_aload_n hx hb dX16_talk_77 rfl (lv_at hl 0 rfl) ?_
            refine lv_iconst (v := 2) hx hb dX16_talk_78 (by decide) ?_
            refine cV (S := (sI S 256 0 0)) (nA := 1) (As := [.int 2]) (rest := []) X w hl h.v (m_X16_no G (sI S 256 0 0) ea ns nj nm nt nr nq h 2) wY_X16_no wM_X16_229 wIn_X16_no wSe_X16_X16_no wI_X16 (by decide) rfl (by decide +kernel) rfl rfl dX16_talk_79 ⟨by decide, by decide⟩ (Nat.le_of_ble_eq_true rfl) (⟨Nat.le_of_ble_eq_true rfl, Nat.le_of_ble_eq_true rfl⟩) (fun v9 S1 H locs hp w => ?_)
            obtain ⟨rfl, rfl⟩ := hp
            have h : RI ea (sI (sI S 256 0 0) 256 0 2) ns nj nm nt nr nq := h.stI (by decide)
            have hK : Kq refU refB refR S (sI (sI S 256 0 0) 256 0 2) := hK.sI rfl
            exact rI X w rfl dX16_talk_82 (by decide) (by decide) (pf_x (k := 2) (taK_2 hl9 hv9 (Nat.le_trans h0.b_st (by decide)) (by first | exact taX_1 (by simpa using b2i_f hy30) | exact taX_2 (by simpa using b2i_f hy40) | exact taX_3 (by simpa using b2i_f hy52) | exact taX_4 (by simpa using b2i_f hy63) | exact taX_5 (by simpa using b2i_f hy74))) (by decide) (by decide) ⟨_, hea ▸ h, hQ, hZr, (hF.oI rfl).oI rfl, hg⟩)
          · refine lv_iload hx hb dX16_talk_66 (lv_at hl 6 rfl) ?_
            refine lv_iconst (v := 0) hx hb dX16_talk_68 (by decide) ?_
            refine lv_ldc hx hb hown (hts _ wK_X16_244) dX16_talk_69 ?_
            refine cS (S := (sI S 256 0 0)) (nA := 3) (As := [.int f, .int 0, .int 65535]) (rest := []) X w hl (m_X16_in G (sI S 256 0 0) f 0 65535) wY_X16_in wM_X16_224 wSt_X16_in wI_X16 (by decide +kernel) rfl rfl dX16_talk_71 ⟨by decide, by decide⟩ (Nat.le_of_ble_eq_true rfl) (⟨Nat.le_of_ble_eq_true rfl, Nat.le_of_ble_eq_true rfl⟩) (fun v10 S1 H locs hp w => ?_)
            obtain ⟨rfl, rfl⟩ := hp
            refine lv_if_ne (tgt := 83) hx hb dX16_talk_74 (by decide) (fun hy74 => ?_) (fun hy74 => ?_)
            · refine lv_iconst (v := 0) hx hb dX16_talk_83 (by decide) ?_
              refine lv_istore (lv' := [(7, .int 0), (0, .ref (gG S 16 0)), (1, .int (nI j9)), (2, .int b), (3, .int d), (4, .int g), (5, .int e_), (6, .int f)]) hx hb dX16_talk_84 hl (by decide) rfl (fun ls hl => ?_)
              refine lv_iconst (v := 0) hx hb dX16_talk_86 (by decide) ?_
              refine lv_istore (lv' := [(8, .int 0), (7, .int 0), (0, .ref (gG S 16 0)), (1, .int (nI j9)), (2, .int b), (3, .int d), (4, .int g), (5, .int e_), (6, .int f)]) hx hb dX16_talk_87 hl (by decide) rfl (fun ls hl => ?_)
              have L89 : ∀ (N : Nat) (k89 : Nat) (y : Int32) (H : Heap) (locs : List Loc) (ls : Array Slot), nt - k89 < N → (k89 ≤ nt) → (y = b2i (rHas S (nI j9) b k89)) → Wd s0 D cy (sI S 256 0 0) s.heap H locs → lv_has ls 9 [(0, .ref (gG S 16 0)), (1, .int (nI j9)), (2, .int b), (3, .int d), (4, .int g), (5, .int e_), (6, .int f), (7, .int y), (8, .int (nI k89))] → W p l e rm_m_X16_talk s m ([.ref (gG S 16 0), .int a, .int b, .int d, .int g, .int e_, .int f] : List Value).toArray below meth c H locs (0) (0) (MQ below (GQ s0 D cy (PF s0 S (ns, nj, nm, nr, nt, g0, A) (taK ns nt (nI g0) a b d g e_ f (sIn (mI A 228 a.toNatClampNeg) (b - b / 24 * 24)) (rHas A a b nt)) (nI nt) (ns, nj, nm, nr, (nt + 1), g0, taC A nt a b d g e_ f))) ([.ref (gG S 16 0), .int a, .int b, .int d, .int g, .int e_, .int f] : List Value).toArray s rm_m_X16_talk.cells rm_m_X16_talk.slots (A0 s0)) (F0 m 89 ls []) := by
                intro N
                induction N with
                | zero => intros; omega
                | succ N ih89 =>
                  intro k89 y H locs ls hmu hk hy w hl
                  refine lv_iload hx hb dX16_talk_89 (lv_at hl 8 rfl) ?_
                  refine lv_aload_n hx hb dX16_talk_91 rfl (lv_at hl 0 rfl) ?_
                  refine g_16_9 (S := (sI S 256 0 0)) (x := (some (gG (sI S 256 0 0) 17 9))) X w h.v wF_X16_26 (h.f_ta) dX16_talk_92 ?_
                  refine cF (S := (sI S 256 0 0)) (t := 17) (nA := 0) (As := []) (rest := [.int (nI k89)]) X w hl h.l_ta.1 (m_size G (sI S 256 0 0) ea 9 nt h.l_ta) wY_Jx4a65c_size_8abf5 wM_X16_73 wIn_Jx4a65c_size_8abf5 wSe_Jx4a65c_Jx4a65c_size_8abf5_of_java_util_List_size___I wI_Jx4a65c fw_size (by decide) rfl (by decide +kernel) rfl rfl dX16_talk_95 ⟨by decide, by decide⟩ (Nat.le_of_ble_eq_true rfl) (⟨Nat.le_of_ble_eq_true rfl, Nat.le_of_ble_eq_true rfl⟩) (fun v11 S1 H locs hp w => ?_)
                  obtain ⟨rfl, rfl⟩ := hp
                  refine lv_icmp_ge (tgt := 161) hx hb dX16_talk_100 (by decide) (fun hy100 => ?_) (fun hy100 => ?_)
                  · have hge : nt ≤ k89 := by
                      have hb1 := h.b_ta
                      exact (nI_leI (by omega) (by omega)).mp hy100
                    refine lv_aload_n hx hb dX16_talk_161 rfl (lv_at hl 0 rfl) ?_
                    refine g_16_9 (S := (sI S 256 0 0)) (x := (some (gG (sI S 256 0 0) 17 9))) X w h.v wF_X16_26 (h.f_ta) dX16_talk_162 ?_
                    refine cF (S := (sI S 256 0 0)) (t := 17) (nA := 0) (As := []) (rest := []) X w hl h.l_ta.1 (m_size G (sI S 256 0 0) ea 9 nt h.l_ta) wY_Jx4a65c_size_8abf5 wM_X16_73 wIn_Jx4a65c_size_8abf5 wSe_Jx4a65c_Jx4a65c_size_8abf5_of_java_util_List_size___I wI_Jx4a65c fw_size (by decide) rfl (by decide +kernel) rfl rfl dX16_talk_165 ⟨by decide, by decide⟩ (Nat.le_of_ble_eq_true rfl) (⟨Nat.le_of_ble_eq_true rfl, Nat.le_of_ble_eq_true rfl⟩) (fun v12 S1 H locs hp w => ?_)
                    obtain ⟨rfl, rfl⟩ := hp
                    refine lv_bipush (v := 40) hx hb dX16_talk_170 (by decide) ?_
                    refine lv_icmp_eq (tgt := 192) hx hb dX16_talk_172 (by decide) (fun hc_n => ?_) (fun hc_n => ?_)
                    · have hn9 : 40 ≤ nt := Nat.le_of_eq (nI_injN (by have := h.b_ta; omega) (by decide) (hc_n.trans (by decide : (40 : Int32) = nI 40))).symm
                      refine lv_aload_n hx hb dX16_talk_192 rfl (lv_at hl 0 rfl) ?_
                      refine lv_iconst (v := 3) hx hb dX16_talk_193 (by decide) ?_
                      refine cV (S := (sI S 256 0 0)) (nA := 1) (As := [.int 3]) (rest := []) X w hl h.v (m_X16_no G (sI S 256 0 0) ea ns nj nm nt nr nq h 3) wY_X16_no wM_X16_229 wIn_X16_no wSe_X16_X16_no wI_X16 (by decide) rfl (by decide +kernel) rfl rfl dX16_talk_194 ⟨by decide, by decide⟩ (Nat.le_of_ble_eq_true rfl) (⟨Nat.le_of_ble_eq_true rfl, Nat.le_of_ble_eq_true rfl⟩) (fun v13 S1 H locs hp w => ?_)
                      obtain ⟨rfl, rfl⟩ := hp
                      have h : RI ea (sI (sI S 256 0 0) 256 0 3) ns nj nm nt nr nq := h.stI (by decide)
                      have hK : Kq refU refB refR S (sI (sI S 256 0 0) 256 0 3) := hK.sI rfl
                      exact rI X w rfl dX16_talk_197 (by decide) (by decide) (pf_x (k := 3) (taK_3 hl9 hv9 (Nat.le_trans h0.b_st (by decide)) (taX_f (by simpa using b2i_t hy30) (by simpa using b2i_t hy40) (by simpa using b2i_t hy52) (by simpa using b2i_t hy63) (by simpa using b2i_t hy74)) (by first | exact Or.inl hn9 | exact Or.inr (Or.inl (by rw [tnI hl9 (Nat.le_trans h0.b_st (by decide)) hv9, ← (hE.1 _).2.2.2.2.1]; exact b2i_f hy184)) | exact Or.inr (Or.inr (by rw [← hE.has, hv9, ← (show k89 = nt by omega)]; exact b2i_t (by rw [← hy]; exact hy189))))) (by decide) (by decide) ⟨_, hea ▸ h, hQ, hZr, (hF.oI rfl).oI rfl, hg⟩)
                    · have hn9 : nt < 40 := Nat.lt_of_le_of_ne h.b_ta (fun z => hc_n (by rw [z]; rfl))
                      refine lv_aload_n hx hb dX16_talk_175 rfl (lv_at hl 0 rfl) ?_
                      refine lv_iload_n hx hb dX16_talk_176 rfl (lv_at hl 1 rfl) ?_
                      refine lv_iload_n hx hb dX16_talk_177 rfl (lv_at hl 2 rfl) ?_
                      refine lv_bipush (v := 24) hx hb dX16_talk_178 (by decide) ?_
                      refine lv_irem hx hb dX16_talk_180 (by decide) ?_
                      refine cV (S := (sI S 256 0 0)) (nA := 2) (As := [.int (nI j9), .int (b - b / 24 * 24)]) (rest := []) X w hl h.v (m_X16_isOn G (sI S 256 0 0) ea ns nj nm nt nr nq h j9 hl9 (b - b / 24 * 24)) wY_X16_isOn wM_X16_61 wIn_X16_isOn wSe_X16_X16_isOn wI_X16 (by decide) rfl (by decide +kernel) rfl rfl dX16_talk_181 ⟨by decide, by decide⟩ (Nat.le_of_ble_eq_true rfl) (⟨Nat.le_of_ble_eq_true rfl, Nat.le_of_ble_eq_true rfl⟩) (fun v14 S1 H locs hp w => ?_)
                      obtain ⟨rfl, rfl⟩ := hp
                      refine lv_if_eq (tgt := 192) hx hb dX16_talk_184 (by decide) (fun hy184 => ?_) (fun hy184 => ?_)
                      · refine lv_aload_n hx hb dX16_talk_192 rfl (lv_at hl 0 rfl) ?_
                        refine lv_iconst (v := 3) hx hb dX16_talk_193 (by decide) ?_
                        refine cV (S := (sI S 256 0 0)) (nA := 1) (As := [.int 3]) (rest := []) X w hl h.v (m_X16_no G (sI S 256 0 0) ea ns nj nm nt nr nq h 3) wY_X16_no wM_X16_229 wIn_X16_no wSe_X16_X16_no wI_X16 (by decide) rfl (by decide +kernel) rfl rfl dX16_talk_194 ⟨by decide, by decide⟩ (Nat.le_of_ble_eq_true rfl) (⟨Nat.le_of_ble_eq_true rfl, Nat.le_of_ble_eq_true rfl⟩) (fun v15 S1 H locs hp w => ?_)
                        obtain ⟨rfl, rfl⟩ := hp
                        have h : RI ea (sI (sI S 256 0 0) 256 0 3) ns nj nm nt nr nq := h.stI (by decide)
                        have hK : Kq refU refB refR S (sI (sI S 256 0 0) 256 0 3) := hK.sI rfl
                        exact rI X w rfl dX16_talk_197 (by decide) (by decide) (pf_x (k := 3) (taK_3 hl9 hv9 (Nat.le_trans h0.b_st (by decide)) (taX_f (by simpa using b2i_t hy30) (by simpa using b2i_t hy40) (by simpa using b2i_t hy52) (by simpa using b2i_t hy63) (by simpa using b2i_t hy74)) (by first | exact Or.inl hn9 | exact Or.inr (Or.inl (by rw [tnI hl9 (Nat.le_trans h0.b_st (by decide)) hv9, ← (hE.1 _).2.2.2.2.1]; exact b2i_f hy184)) | exact Or.inr (Or.inr (by rw [← hE.has, hv9, ← (show k89 = nt by omega)]; exact b2i_t (by rw [← hy]; exact hy189))))) (by decide) (by decide) ⟨_, hea ▸ h, hQ, hZr, (hF.oI rfl).oI rfl, hg⟩)
                      · refine lv_iload hx hb dX16_talk_187 (lv_at hl 7 rfl) ?_
                        refine lv_if_eq (tgt := 198) hx hb dX16_talk_189 (by decide) (fun hy189 => ?_) (fun hy189 => ?_)
                        · refine lv_aload_n hx hb dX16_talk_198 rfl (lv_at hl 0 rfl) ?_
                          refine g_16_9 (S := (sI S 256 0 0)) (x := (some (gG (sI S 256 0 0) 17 9))) X w h.v wF_X16_26 (h.f_ta) dX16_talk_199 ?_
                          refine nwO (S := (sI S 256 0 0)) (t := 15) (n := 14) X w nt (h.z_ta nt (Nat.le_refl _)) (Or.inl (by decide)) (by decide) rfl in_15 tyX15 tyX15_ok (by decide +kernel) wC_X16_105 wNew_X15 wI_X15 dX16_talk_202 rfl (Nat.le_of_ble_eq_true rfl) (Nat.le_of_ble_eq_true rfl) (fun q1 S2 H hS2 w => ?_)
                          subst hS2
                          refine lv_dup hx hb dX16_talk_205 rfl ?_
                          refine lv_iload_n hx hb dX16_talk_206 rfl (lv_at hl 1 rfl) ?_
                          refine lv_iload_n hx hb dX16_talk_207 rfl (lv_at hl 2 rfl) ?_
                          refine lv_iload_n hx hb dX16_talk_208 rfl (lv_at hl 3 rfl) ?_
                          refine lv_iload hx hb dX16_talk_209 (lv_at hl 4 rfl) ?_
                          refine lv_iload hx hb dX16_talk_211 (lv_at hl 5 rfl) ?_
                          refine lv_iload hx hb dX16_talk_213 (lv_at hl 6 rfl) ?_
                          refine cI (S := (sNew (sI S 256 0 0) 15 nt q1)) (nA := 6) (As := [.int (nI j9), .int b, .int d, .int g, .int e_, .int f]) (rest := [.ref (gG (sNew (sI S 256 0 0) 15 nt q1) 15 nt), .ref (gG (sI S 256 0 0) 17 9)]) X w hl (m_X15_init G (sNew (sI S 256 0 0) 15 nt q1) nt (Or.inr ⟨rfl, rfl⟩) (nI j9) b d g e_ f) wY_X15_init wM_X16_245 wIn_X15_init wI_X15 rfl (by decide +kernel) rfl rfl dX16_talk_215 ⟨by decide, by decide⟩ (Nat.le_of_ble_eq_true rfl) (⟨Nat.le_of_ble_eq_true rfl, Nat.le_of_ble_eq_true rfl⟩) (fun v16 S1 H locs hp w => ?_)
                          obtain ⟨rfl, rfl⟩ := hp
                          refine cF (S := (sI (sI (sI (sI (sI (sI (sI (sI (sI (sNew (sI S 256 0 0) 15 nt q1) 246 nt (-1)) 247 nt (-1)) 251 nt (-1)) 240 nt (nI j9)) 241 nt b) 242 nt d) 243 nt g) 244 nt e_) 245 nt f)) (t := 17) (nA := 1) (As := [.ref (gG (sNew (sI S 256 0 0) 15 nt q1) 15 nt)]) (rest := []) X w hl (Or.inl (h.l_ta.1)) (add_T G (sI S 256 0 0) (sI (sI (sI (sI (sI (sI (sI (sI (sI (sNew (sI S 256 0 0) 15 nt q1) 246 nt (-1)) 247 nt (-1)) 251 nt (-1)) 240 nt (nI j9)) 241 nt b) 242 nt d) 243 nt g) 244 nt e_) 245 nt f) 9 nt (gG (sI (sI (sI (sI (sI (sI (sI (sI (sI (sNew (sI S 256 0 0) 15 nt q1) 246 nt (-1)) 247 nt (-1)) 251 nt (-1)) 240 nt (nI j9)) 241 nt b) 242 nt d) 243 nt g) 244 nt e_) 245 nt f) 15 nt) (hea ▸ h.l_ta) (by have := h.b_ta; omega) h.z30.2.2.2.1 (h.z31 9) h.el_ta (fun t i v => ⟨Or.inl (v), (up2_n (fun z => h.z_ta nt (Nat.le_refl _) (by rw [← z.1, ← z.2]; exact v)))⟩) (fun v => v.elim (fun v => v) (fun e => absurd e.1 (by decide))) (fun v => v.elim (fun v => v) (fun e => absurd e.1 (by decide))) rfl rfl rfl rfl (Or.inl ⟨15, nt, Or.inr ⟨rfl, rfl⟩, by decide, rfl⟩)) wY_Jx4a65c_add_9ea2d wM_X16_170 wIn_Jx4a65c_add_9ea2d wSe_Jx4a65c_Jx4a65c_add_9ea2d_of_java_util_List_add__Ljava_lang_Object__Z wI_Jx4a65c fw_add (by decide) rfl (by decide +kernel) rfl rfl dX16_talk_218 ⟨by decide, by decide⟩ (Nat.le_of_ble_eq_true rfl) (⟨Nat.le_of_ble_eq_true rfl, Nat.le_of_ble_eq_true rfl⟩) (fun v17 S1 H locs hp w => ?_)
                          obtain ⟨rfl, q9, m2, b2, rfl, hb0, hb1⟩ := hp
                          have hQ : QI s0 (addS (sI (sI (sI (sI (sI (sI (sI (sI (sI (sNew (sI S 256 0 0) 15 nt q1) 246 nt (-1)) 247 nt (-1)) 251 nt (-1)) 240 nt (nI j9)) 241 nt b) 242 nt d) 243 nt g) 244 nt e_) 245 nt f) 9 q9 (capOf (nt + 1)) m2 (nI (nt + 1)) b2) nq (nt + 1) := hQ.ta (fun j hj => by simp [mI, mR, gG, mN, mB, mA, sI, sR, sA, sArr, sNew, addS, up2, (show ¬ j = nt by omega)]) rfl
                          have hK : Kq refU refB refR S (addS (sI (sI (sI (sI (sI (sI (sI (sI (sI (sNew (sI S 256 0 0) 15 nt q1) 246 nt (-1)) 247 nt (-1)) 251 nt (-1)) 240 nt (nI j9)) 241 nt b) 242 nt d) 243 nt g) 244 nt e_) 245 nt f) 9 q9 (capOf (nt + 1)) m2 (nI (nt + 1)) b2) := hK.tr kr_add_ta
                          have h : RI ea (addS (sI (sI (sI (sI (sI (sI (sI (sI (sI (sNew (sI S 256 0 0) 15 nt q1) 246 nt (-1)) 247 nt (-1)) 251 nt (-1)) 240 nt (nI j9)) 241 nt b) 242 nt d) 243 nt g) 244 nt e_) 245 nt f) 9 q9 (capOf (nt + 1)) m2 (nI (nt + 1)) b2) ns nj nm (nt + 1) nr nq := h.add_ta hn9 ⟨j9, hl9, rfl⟩ (so_h hg9 (by rw [← eg9]; simpa using b2i_t hy30)) hb0 hb1
                          have hZr : Zr (addS (sI (sI (sI (sI (sI (sI (sI (sI (sI (sNew (sI S 256 0 0) 15 nt q1) 246 nt (-1)) 247 nt (-1)) 251 nt (-1)) 240 nt (nI j9)) 241 nt b) 242 nt d) 243 nt g) 244 nt e_) 245 nt f) 9 q9 (capOf (nt + 1)) m2 (nI (nt + 1)) b2) := hZr.of (fun t i z v => v.elim (fun v => v.elim (fun v => v) (fun e => absurd e (by omega))) (fun e => absurd e (by omega)))
                          refine lv_pop hx hb dX16_talk_223 rfl ?_
                          refine lv_aload_n hx hb dX16_talk_224 rfl (lv_at hl 0 rfl) ?_
                          refine g_16_9 (S := (addS (sI (sI (sI (sI (sI (sI (sI (sI (sI (sNew (sI S 256 0 0) 15 nt q1) 246 nt (-1)) 247 nt (-1)) 251 nt (-1)) 240 nt (nI j9)) 241 nt b) 242 nt d) 243 nt g) 244 nt e_) 245 nt f) 9 q9 (capOf (nt + 1)) m2 (nI (nt + 1)) b2)) (x := (some (gG (addS (sI (sI (sI (sI (sI (sI (sI (sI (sI (sNew (sI S 256 0 0) 15 nt q1) 246 nt (-1)) 247 nt (-1)) 251 nt (-1)) 240 nt (nI j9)) 241 nt b) 242 nt d) 243 nt g) 244 nt e_) 245 nt f) 9 q9 (capOf (nt + 1)) m2 (nI (nt + 1)) b2) 17 9))) X w h.v wF_X16_26 (h.f_ta) dX16_talk_225 ?_
                          refine cF (S := (addS (sI (sI (sI (sI (sI (sI (sI (sI (sI (sNew (sI S 256 0 0) 15 nt q1) 246 nt (-1)) 247 nt (-1)) 251 nt (-1)) 240 nt (nI j9)) 241 nt b) 242 nt d) 243 nt g) 244 nt e_) 245 nt f) 9 q9 (capOf (nt + 1)) m2 (nI (nt + 1)) b2)) (t := 17) (nA := 0) (As := []) (rest := []) X w hl h.l_ta.1 (m_size G (addS (sI (sI (sI (sI (sI (sI (sI (sI (sI (sNew (sI S 256 0 0) 15 nt q1) 246 nt (-1)) 247 nt (-1)) 251 nt (-1)) 240 nt (nI j9)) 241 nt b) 242 nt d) 243 nt g) 244 nt e_) 245 nt f) 9 q9 (capOf (nt + 1)) m2 (nI (nt + 1)) b2) ea 9 (nt + 1) h.l_ta) wY_Jx4a65c_size_8abf5 wM_X16_73 wIn_Jx4a65c_size_8abf5 wSe_Jx4a65c_Jx4a65c_size_8abf5_of_java_util_List_size___I wI_Jx4a65c fw_size (by decide) rfl (by decide +kernel) rfl rfl dX16_talk_228 ⟨by decide, by decide⟩ (Nat.le_of_ble_eq_true rfl) (⟨Nat.le_of_ble_eq_true rfl, Nat.le_of_ble_eq_true rfl⟩) (fun v18 S1 H locs hp w => ?_)
                          obtain ⟨rfl, rfl⟩ := hp
                          refine lv_iconst (v := 1) hx hb dX16_talk_233 (by decide) ?_
                          refine lv_isub hx hb dX16_talk_234 ?_
                          exact rI X w rfl dX16_talk_235 (by decide) (by decide) (Or.inr ⟨taK_0 hl9 hv9 (Nat.le_trans h0.b_st (by decide)) (taX_f (by simpa using b2i_t hy30) (by simpa using b2i_t hy40) (by simpa using b2i_t hy52) (by simpa using b2i_t hy63) (by simpa using b2i_t hy74)) hn9 (by rw [tnI hl9 (Nat.le_trans h0.b_st (by decide)) hv9, ← (hE.1 _).2.2.2.2.1]; exact b2i_t hy184) (by rw [← hE.has, hv9, ← (show k89 = nt by omega)]; exact b2i_f (by rw [← hy]; exact hy189)), by rw [nI_p1], ⟨_, hea ▸ h, hQ, hZr, (RF.ta (q2 := 0) hv9 (hF.oI (f := 256) (i := 0) (v := 0) rfl)), hg⟩, hK, by simp [mI, mR, gG, mN, mB, mA, sI, sR, sA, sArr, sNew, addS, up2]⟩)
                        · refine lv_aload_n hx hb dX16_talk_192 rfl (lv_at hl 0 rfl) ?_
                          refine lv_iconst (v := 3) hx hb dX16_talk_193 (by decide) ?_
                          refine cV (S := (sI S 256 0 0)) (nA := 1) (As := [.int 3]) (rest := []) X w hl h.v (m_X16_no G (sI S 256 0 0) ea ns nj nm nt nr nq h 3) wY_X16_no wM_X16_229 wIn_X16_no wSe_X16_X16_no wI_X16 (by decide) rfl (by decide +kernel) rfl rfl dX16_talk_194 ⟨by decide, by decide⟩ (Nat.le_of_ble_eq_true rfl) (⟨Nat.le_of_ble_eq_true rfl, Nat.le_of_ble_eq_true rfl⟩) (fun v19 S1 H locs hp w => ?_)
                          obtain ⟨rfl, rfl⟩ := hp
                          have h : RI ea (sI (sI S 256 0 0) 256 0 3) ns nj nm nt nr nq := h.stI (by decide)
                          have hK : Kq refU refB refR S (sI (sI S 256 0 0) 256 0 3) := hK.sI rfl
                          exact rI X w rfl dX16_talk_197 (by decide) (by decide) (pf_x (k := 3) (taK_3 hl9 hv9 (Nat.le_trans h0.b_st (by decide)) (taX_f (by simpa using b2i_t hy30) (by simpa using b2i_t hy40) (by simpa using b2i_t hy52) (by simpa using b2i_t hy63) (by simpa using b2i_t hy74)) (by first | exact Or.inl hn9 | exact Or.inr (Or.inl (by rw [tnI hl9 (Nat.le_trans h0.b_st (by decide)) hv9, ← (hE.1 _).2.2.2.2.1]; exact b2i_f hy184)) | exact Or.inr (Or.inr (by rw [← hE.has, hv9, ← (show k89 = nt by omega)]; exact b2i_t (by rw [← hy]; exact hy189))))) (by decide) (by decide) ⟨_, hea ▸ h, hQ, hZr, (hF.oI rfl).oI rfl, hg⟩)
                  · have hlt : k89 < nt := by
                      have hb1 := h.b_ta
                      exact Nat.lt_of_not_le (fun z => hy100 ((nI_leI (by omega) (by omega)).mpr z))
                    refine lv_iload hx hb dX16_talk_103 (lv_at hl 7 rfl) ?_
                    refine lv_aload_n hx hb dX16_talk_105 rfl (lv_at hl 0 rfl) ?_
                    refine g_16_9 (S := (sI S 256 0 0)) (x := (some (gG (sI S 256 0 0) 17 9))) X w h.v wF_X16_26 (h.f_ta) dX16_talk_106 ?_
                    refine lv_iload hx hb dX16_talk_109 (lv_at hl 8 rfl) ?_
                    refine cF (S := (sI S 256 0 0)) (t := 17) (nA := 1) (As := [.int (nI k89)]) (rest := [.int y]) X w hl h.l_ta.1 (m_get G (sI S 256 0 0) ea 9 k89 nt (some (gG (sI S 256 0 0) 15 k89)) h.l_ta hlt (h.e_ta k89 hlt).1) wY_Jx4a65c_get_915e3 wM_X16_46 wIn_Jx4a65c_get_915e3 wSe_Jx4a65c_Jx4a65c_get_915e3_of_java_util_List_get__I_Ljava_lang_Object_ wI_Jx4a65c fw_get (by decide) rfl (by decide +kernel) rfl rfl dX16_talk_111 ⟨by decide, by decide⟩ (Nat.le_of_ble_eq_true rfl) (⟨Nat.le_of_ble_eq_true rfl, Nat.le_of_ble_eq_true rfl⟩) (fun v20 S1 H locs hp w => ?_)
                    obtain ⟨rfl, rfl⟩ := hp
                    refine ckC (S := (sI S 256 0 0)) (t := 15) X w (h.e_ta k89 hlt).2 (by decide) rfl wC_X16_105 dX16_talk_116 ?_
                    refine g_15_0 (S := (sI S 256 0 0)) (x := (nI (tS (sI S 256 0 0) k89))) X w (h.e_ta k89 hlt).2 wF_X16_104 ((h.tSx k89 hlt).2) dX16_talk_119 ?_
                    refine lv_iload_n hx hb dX16_talk_122 rfl (lv_at hl 1 rfl) ?_
                    refine lv_icmp_ne (tgt := 151) hx hb dX16_talk_123 (by decide) (fun hst9 => ?_) (fun hst9 => ?_)
                    · have hs : y ||| 0 = b2i (rHas S (nI j9) b (k89 + 1)) := rHas_f hy (fun z => hst9 ((h.tSx k89 hlt).2.symm.trans z.1))
                      refine lv_iconst (v := 0) hx hb dX16_talk_151 (by decide) ?_
                      refine lv_ior hx hb dX16_talk_152 ?_
                      refine lv_istore (lv' := [(7, .int (y ||| 0)), (0, .ref (gG S 16 0)), (1, .int (nI j9)), (2, .int b), (3, .int d), (4, .int g), (5, .int e_), (6, .int f), (8, .int (nI k89))]) hx hb dX16_talk_153 hl (by decide) rfl (fun ls hl => ?_)
                      refine lv_iinc (v := nI (k89 + 1)) (lv' := [(8, .int (nI (k89 + 1))), (7, .int (y ||| 0)), (0, .ref (gG S 16 0)), (1, .int (nI j9)), (2, .int b), (3, .int d), (4, .int g), (5, .int e_), (6, .int f)]) hx hb dX16_talk_155 hl (k := 8) rfl (nI_1 _) (by decide) rfl (fun ls hl => ?_)
                      refine lv_goto (tgt := 89) hx hb dX16_talk_158 (by decide) ?_
                      exact ih89 (k89 + 1) (y ||| 0) _ _ _ (by omega) (by omega) (hs) w (lv_sub hl [2, 3, 4, 5, 6, 7, 8, 1, 0] rfl)
                    · refine lv_aload_n hx hb dX16_talk_126 rfl (lv_at hl 0 rfl) ?_
                      refine g_16_9 (S := (sI S 256 0 0)) (x := (some (gG (sI S 256 0 0) 17 9))) X w h.v wF_X16_26 (h.f_ta) dX16_talk_127 ?_
                      refine lv_iload hx hb dX16_talk_130 (lv_at hl 8 rfl) ?_
                      refine cF (S := (sI S 256 0 0)) (t := 17) (nA := 1) (As := [.int (nI k89)]) (rest := [.int y]) X w hl h.l_ta.1 (m_get G (sI S 256 0 0) ea 9 k89 nt (some (gG (sI S 256 0 0) 15 k89)) h.l_ta hlt (h.e_ta k89 hlt).1) wY_Jx4a65c_get_915e3 wM_X16_46 wIn_Jx4a65c_get_915e3 wSe_Jx4a65c_Jx4a65c_get_915e3_of_java_util_List_get__I_Ljava_lang_Object_ wI_Jx4a65c fw_get (by decide) rfl (by decide +kernel) rfl rfl dX16_talk_132 ⟨by decide, by decide⟩ (Nat.le_of_ble_eq_true rfl) (⟨Nat.le_of_ble_eq_true rfl, Nat.le_of_ble_eq_true rfl⟩) (fun v21 S1 H locs hp w => ?_)
                      obtain ⟨rfl, rfl⟩ := hp
                      refine ckC (S := (sI S 256 0 0)) (t := 15) X w (h.e_ta k89 hlt).2 (by decide) rfl wC_X16_105 dX16_talk_137 ?_
                      refine g_15_1 (S := (sI S 256 0 0)) (x := (nI (tH (sI S 256 0 0) k89))) X w (h.e_ta k89 hlt).2 wF_X16_112 ((h.tHx k89 hlt).2) dX16_talk_140 ?_
                      refine lv_iload_n hx hb dX16_talk_143 rfl (lv_at hl 2 rfl) ?_
                      refine lv_icmp_ne (tgt := 151) hx hb dX16_talk_144 (by decide) (fun hah => ?_) (fun hah => ?_)
                      · have hs : y ||| 0 = b2i (rHas S (nI j9) b (k89 + 1)) := rHas_f hy (fun z => hah ((h.tHx k89 hlt).2.symm.trans z.2))
                        refine lv_iconst (v := 0) hx hb dX16_talk_151 (by decide) ?_
                        refine lv_ior hx hb dX16_talk_152 ?_
                        refine lv_istore (lv' := [(7, .int (y ||| 0)), (0, .ref (gG S 16 0)), (1, .int (nI j9)), (2, .int b), (3, .int d), (4, .int g), (5, .int e_), (6, .int f), (8, .int (nI k89))]) hx hb dX16_talk_153 hl (by decide) rfl (fun ls hl => ?_)
                        refine lv_iinc (v := nI (k89 + 1)) (lv' := [(8, .int (nI (k89 + 1))), (7, .int (y ||| 0)), (0, .ref (gG S 16 0)), (1, .int (nI j9)), (2, .int b), (3, .int d), (4, .int g), (5, .int e_), (6, .int f)]) hx hb dX16_talk_155 hl (k := 8) rfl (nI_1 _) (by decide) rfl (fun ls hl => ?_)
                        refine lv_goto (tgt := 89) hx hb dX16_talk_158 (by decide) ?_
                        exact ih89 (k89 + 1) (y ||| 0) _ _ _ (by omega) (by omega) (hs) w (lv_sub hl [2, 3, 4, 5, 6, 7, 8, 1, 0] rfl)
                      · have hs : y ||| 1 = b2i (rHas S (nI j9) b (k89 + 1)) := rHas_t hy ((h.tSx k89 hlt).2.trans hst9) ((h.tHx k89 hlt).2.trans hah)
                        refine lv_iconst (v := 1) hx hb dX16_talk_147 (by decide) ?_
                        refine lv_goto (tgt := 152) hx hb dX16_talk_148 (by decide) ?_
                        refine lv_ior hx hb dX16_talk_152 ?_
                        refine lv_istore (lv' := [(7, .int (y ||| 1)), (0, .ref (gG S 16 0)), (1, .int (nI j9)), (2, .int b), (3, .int d), (4, .int g), (5, .int e_), (6, .int f), (8, .int (nI k89))]) hx hb dX16_talk_153 hl (by decide) rfl (fun ls hl => ?_)
                        refine lv_iinc (v := nI (k89 + 1)) (lv' := [(8, .int (nI (k89 + 1))), (7, .int (y ||| 1)), (0, .ref (gG S 16 0)), (1, .int (nI j9)), (2, .int b), (3, .int d), (4, .int g), (5, .int e_), (6, .int f)]) hx hb dX16_talk_155 hl (k := 8) rfl (nI_1 _) (by decide) rfl (fun ls hl => ?_)
                        refine lv_goto (tgt := 89) hx hb dX16_talk_158 (by decide) ?_
                        exact ih89 (k89 + 1) (y ||| 1) _ _ _ (by omega) (by omega) (hs) w (lv_sub hl [2, 3, 4, 5, 6, 7, 8, 1, 0] rfl)
              exact L89 _ 0 0 _ _ _ (Nat.lt_succ_self _) (by omega) (rfl) w (lv_sub hl [2, 3, 4, 5, 6, 7, 8, 1, 0] rfl)
            · refine lv_aload_n hx hb dX16_talk_77 rfl (lv_at hl 0 rfl) ?_
              refine lv_iconst (v := 2) hx hb dX16_talk_78 (by decide) ?_
              refine cV (S := (sI S 256 0 0)) (nA := 1) (As := [.int 2]) (rest := []) X w hl h.v (m_X16_no G (sI S 256 0 0) ea ns nj nm nt nr nq h 2) wY_X16_no wM_X16_229 wIn_X16_no wSe_X16_X16_no wI_X16 (by decide) rfl (by decide +kernel) rfl rfl dX16_talk_79 ⟨by decide, by decide⟩ (Nat.le_of_ble_eq_true rfl) (⟨Nat.le_of_ble_eq_true rfl, Nat.le_of_ble_eq_true rfl⟩) (fun v22 S1 H locs hp w => ?_)
              obtain ⟨rfl, rfl⟩ := hp
              have h : RI ea (sI (sI S 256 0 0) 256 0 2) ns nj nm nt nr nq := h.stI (by decide)
              have hK : Kq refU refB refR S (sI (sI S 256 0 0) 256 0 2) := hK.sI rfl
              exact rI X w rfl dX16_talk_82 (by decide) (by decide) (pf_x (k := 2) (taK_2 hl9 hv9 (Nat.le_trans h0.b_st (by decide)) (by first | exact taX_1 (by simpa using b2i_f hy30) | exact taX_2 (by simpa using b2i_f hy40) | exact taX_3 (by simpa using b2i_f hy52) | exact taX_4 (by simpa using b2i_f hy63) | exact taX_5 (by simpa using b2i_f hy74))) (by decide) (by decide) ⟨_, hea ▸ h, hQ, hZr, (hF.oI rfl).oI rfl, hg⟩)
  · refine lv_aload_n hx hb dX16_talk_13 rfl (lv_at hl 0 rfl) ?_
    refine lv_iconst (v := 1) hx hb dX16_talk_14 (by decide) ?_
    refine cV (S := (sI S 256 0 0)) (nA := 1) (As := [.int 1]) (rest := []) X w hl h.v (m_X16_no G (sI S 256 0 0) ea ns nj nm nt nr nq h 1) wY_X16_no wM_X16_229 wIn_X16_no wSe_X16_X16_no wI_X16 (by decide) rfl (by decide +kernel) rfl rfl dX16_talk_15 ⟨by decide, by decide⟩ (Nat.le_of_ble_eq_true rfl) (⟨Nat.le_of_ble_eq_true rfl, Nat.le_of_ble_eq_true rfl⟩) (fun v23 S1 H locs hp w => ?_)
    obtain ⟨rfl, rfl⟩ := hp
    have h : RI ea (sI (sI S 256 0 0) 256 0 1) ns nj nm nt nr nq := h.stI (by decide)
    have hK : Kq refU refB refR S (sI (sI S 256 0 0) 256 0 1) := hK.sI rfl
    exact rI X w rfl dX16_talk_18 (by decide) (by decide) (pf_x (k := 1) (taK_1 (by simpa using b2i_f hy10)) (by decide) (by decide) ⟨_, hea ▸ h, hQ, hZr, (hF.oI rfl).oI rfl, hg⟩)

