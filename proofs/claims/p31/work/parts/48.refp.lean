/-- no temporary rows, no second queue -/
def Zr (S : HS) : Prop := (¬ vV S 17 12 ∧ ¬ vV S 30 12) ∧ ∀ i, ¬ vV S 39 i ∧ ¬ vV S 40 i
/-- the reference has what is told -/
def RE (S A : HS) : Prop := (∀ j, mI S 224 j = mI A 224 j ∧ mI S 225 j = mI A 225 j ∧ mI S 226 j = mI A 226 j ∧ mI S 227 j = mI A 227 j ∧ mI S 228 j = mI A 228 j ∧ mI S 229 j = mI A 229 j) ∧
  (∀ j, mI S 240 j = mI A 240 j ∧ mI S 241 j = mI A 241 j ∧ mI S 242 j = mI A 242 j ∧ mI S 243 j = mI A 243 j ∧ mI S 244 j = mI A 244 j ∧ mI S 245 j = mI A 245 j) ∧
  (∀ j, mA S 33 j = mA A 33 j ∧ mA S 36 j = mA A 36 j ∧ mA S 37 j = mA A 37 j) ∧ mI S 259 0 = mI A 259 0
theorem RE.keepP {S T A : HS} (h : RE S A) (k : KeepRP S T) : RE T A := by
  obtain ⟨h1, h2, h3, h4⟩ := h
  refine ⟨fun j => ?_, fun j => ?_, fun j => ?_, ?_⟩
  · rw [show mI T 224 j = mI S 224 j from k.I rfl, show mI T 225 j = mI S 225 j from k.I rfl, show mI T 226 j = mI S 226 j from k.I rfl, show mI T 227 j = mI S 227 j from k.I rfl, show mI T 228 j = mI S 228 j from k.I rfl, show mI T 229 j = mI S 229 j from k.I rfl]
    exact h1 j
  · rw [show mI T 240 j = mI S 240 j from k.I rfl, show mI T 241 j = mI S 241 j from k.I rfl, show mI T 242 j = mI S 242 j from k.I rfl, show mI T 243 j = mI S 243 j from k.I rfl, show mI T 244 j = mI S 244 j from k.I rfl, show mI T 245 j = mI S 245 j from k.I rfl]
    exact h2 j
  · rw [show mA T 33 j = mA S 33 j from (k.1 33 j rfl).2.2.2.2, show mA T 36 j = mA S 36 j from (k.1 36 j rfl).2.2.2.2, show mA T 37 j = mA S 37 j from (k.1 37 j rfl).2.2.2.2]
    exact h3 j
  · rw [show mI T 259 0 = mI S 259 0 from k.I rfl]; exact h4
theorem Kq.rP {S T : HS} (k : KeepR S T) : KeepRP S T := k.le (fun _ _ z => z) (fun f i => ff_of refP_of) (fun _ _ z => z)
theorem RE.keep {S T A : HS} (h : RE S A) (k : KeepR S T) : RE T A := h.keepP (Kq.rP k)
theorem RE.comes {S A : HS} (h : RE S A) (ns nj i : Nat) (a : Int32) : rComes S ns nj i a = rComes A ns nj i a := by
  have e1 : ∀ j, mI S 224 j = mI A 224 j := fun j => (h.1 j).1
  have e2 : ∀ j, mI S 225 j = mI A 225 j := fun j => (h.1 j).2.1
  have e3 : ∀ j, mI S 228 j = mI A 228 j := fun j => (h.1 j).2.2.2.2.1
  have e4 : ∀ j, mI S 229 j = mI A 229 j := fun j => (h.1 j).2.2.2.2.2
  have e5 : ∀ j, mA S 33 j = mA A 33 j := fun j => (h.2.2.1 j).1
  unfold rComes
  simp only [e1, e2, e3, e4, e5]
theorem RE.setOf {S A : HS} (h : RE S A) (a : Nat) (mo : Int32) : rSetOf S a mo = rSetOf A a mo := by
  unfold rSetOf
  rw [(h.2.2.1 a).2.2]
theorem RE.els {S A : HS} (h : RE S A) (a b e : Int32) : rElse S a b e = rElse A a b e := by
  unfold rElse
  rw [h.setOf]
theorem RE.has {S A : HS} (h : RE S A) (a b : Int32) : ∀ n, rHas S a b n = rHas A a b n
  | 0 => rfl
  | n + 1 => by
    show (rHas S a b n || (decide (mI S 240 n = a) && decide (mI S 241 n = b))) = (rHas A a b n || (decide (mI A 240 n = a) && decide (mI A 241 n = b)))
    rw [RE.has h a b n, (h.2.1 n).1, (h.2.1 n).2.1]
theorem RF.re {s0 : State} {S A : HS} {nq nt : Nat} (h : RF s0 S A nq nt) : RE S A := ⟨fun j => ⟨h.1 224 rfl j, h.1 225 rfl j, h.1 226 rfl j, h.1 227 rfl j, h.1 228 rfl j, h.1 229 rfl j⟩, fun j => ⟨h.1 240 rfl j, h.1 241 rfl j, h.1 242 rfl j, h.1 243 rfl j, h.1 244 rfl j, h.1 245 rfl j⟩, fun j => ⟨h.2.1 33 rfl j, h.2.1 36 rfl j, h.2.1 37 rfl j⟩, h.1 259 rfl 0⟩
/-! what the telling writes on: rows of its own, and what was thrown -/
def hvTm (t _ : Nat) : Bool := t == 39 || t == 40
def hiTm (f _ : Nat) : Bool := f == 256
def hrTm (_ _ : Nat) : Bool := false
abbrev KeepT (S T : HS) : Prop := Kq hvTm hiTm hrTm S T
theorem kTR {S T : HS} (k : KeepT S T) : KeepR S T := k.le (fun t i => ff_of fun e => by
    have z : t = 39 ∨ t = 40 := by simpa [hvTm] using e
    rcases z with rfl | rfl <;> rfl) (fun f i => ff_of fun e => by
    have z : f = 256 := by simpa [hiTm] using e
    rw [z]; rfl) (fun _ _ z => ff_of (fun e => absurd e Bool.false_ne_true) z)
theorem RF.keepT {s0 : State} {S T A : HS} {nq nt : Nat} (h : RF s0 S A nq nt) (k : KeepT S T) : RF s0 T A nq nt := by
  refine ⟨fun f c j => ?_, fun t c j => ?_, h.2.2.1, fun i hi => ?_⟩
  · have e : hiTm f j = false := by
      cases z : hiTm f j with
      | false => rfl
      | true =>
        have y : f = 256 := by simpa [hiTm] using z
        rw [y] at c; exact absurd c (by decide)
    exact (k.I e).trans (h.1 f c j)
  · have e : hvTm t j = false := by
      cases z : hvTm t j with
      | false => rfl
      | true =>
        have y : t = 39 ∨ t = 40 := by simpa [hvTm] using z
        rcases y with y | y <;> (rw [y] at c; exact absurd c (by decide))
    exact (k.1 t j e).2.2.2.2.trans (h.2.1 t c j)
  · obtain ⟨g, h1, h2, h3⟩ := h.2.2.2 i hi
    exact ⟨g, h1, h2, by rw [show mB T 30 11 = mB S 30 11 from (k.1 30 11 rfl).2.2.2.1]; exact h3⟩
/-- the reference is in order -/
def RX (s0 : State) (S : HS) (cn : Cn) : Prop := ∃ nq, RI (eaOf s0) S cn.1 cn.2.1 cn.2.2.1 cn.2.2.2.2.1 cn.2.2.2.1 nq ∧ QI s0 S nq cn.2.2.2.2.1 ∧ Zr S ∧ RF s0 S cn.2.2.2.2.2.2 nq cn.2.2.2.2.1 ∧ mI S 257 0 = nI cn.2.2.2.2.2.1
theorem Zr.q1 {S T : HS} (k : Kq hvQ hiQ hrQ S T) (h : Zr S) : Zr T := ⟨by rw [show vV T 17 12 = vV S 17 12 from k.V rfl, show vV T 30 12 = vV S 30 12 from k.V rfl]; exact h.1, fun i => by rw [show vV T 39 i = vV S 39 i from k.V rfl, show vV T 40 i = vV S 40 i from k.V rfl]; exact h.2 i⟩
theorem Zr.q2 {S T : HS} (k : Kq hvH hiHr hrQ S T) (h4 : ¬ vV T 40 0) (h : Zr S) : Zr T := ⟨by rw [show vV T 17 12 = vV S 17 12 from k.V rfl, show vV T 30 12 = vV S 30 12 from k.V rfl]; exact h.1, fun i => by
  rw [show vV T 39 i = vV S 39 i from k.V rfl]
  refine ⟨(h.2 i).1, ?_⟩
  by_cases e : i = 0
  · rw [e]; exact h4
  · rw [show vV T 40 i = vV S 40 i from k.V (by simp [hvH, hvQ, e])]; exact (h.2 i).2⟩
def PRi (s0 : State) (S : HS) (cn : Cn) : Option Value → HS → Prop := fun v S' => (∃ x : Int32, some (.int x) = v) ∧ RX s0 S' cn ∧ KeepR S S'
def PRz (s0 : State) (S : HS) (cn : Cn) : Option Value → HS → Prop := fun v S' => (∃ b : Bool, some (.int (b2i b)) = v) ∧ RX s0 S' cn ∧ KeepR S S'
def PRl (s0 : State) (S : HS) (cn : Cn) : Option Value → HS → Prop := fun v S' => (∃ x : Int64, some (.long x) = v) ∧ RX s0 S' cn ∧ KeepR S S'
theorem nI_injN {a b : Nat} (ha : a < 2 ^ 31) (hb : b < 2 ^ 31) (h : nI a = nI b) : a = b := by
  have z : (nI a).toInt = (nI b).toInt := by rw [h]
  rw [nI_toInt ha, nI_toInt hb] at z
  omega
/-- K = 0, and it answers F, and the picture is N; or thrown by K, and nothing else -/
def PF (s0 : State) (S : HS) (cn : Cn) (K : Nat) (F : Int32) (N : Cn) : Option Value → HS → Prop := fun v S' => (¬ K = 0 ∧ (∃ x : Int32, some (.int x) = v) ∧ RX s0 S' cn ∧ KeepR S S' ∧ mI S' 256 0 = nI K) ∨ (K = 0 ∧ some (.int F) = v ∧ RX s0 S' N ∧ KeepRB S S' ∧ mI S' 256 0 = 0)
def PFd (s0 : State) (S : HS) (cn : Cn) (K : Nat) (F : UInt64) (N : Cn) : Option Value → HS → Prop := fun v S' => (¬ K = 0 ∧ (∃ x : UInt64, some (.double x) = v) ∧ RX s0 S' cn ∧ KeepR S S' ∧ mI S' 256 0 = nI K) ∨ (K = 0 ∧ some (.double F) = v ∧ RX s0 S' N ∧ KeepRB S S' ∧ mI S' 256 0 = 0)
theorem pfd_x {s0 : State} {S : HS} {cn : Cn} {K k : Nat} {F : UInt64} {N : Cn} {x : UInt64} {y : Int32} (e : K = k) (hk : ¬ k = 0) (hy : y = nI k) (h : RX s0 (sI (sI S 256 0 0) 256 0 y) cn) : PFd s0 S cn K F N (some (.double x)) (sI (sI S 256 0 0) 256 0 y) := Or.inl ⟨by rw [e]; exact hk, ⟨_, rfl⟩, h, (Kq.rf.sI rfl).sI rfl, by rw [e]; exact Eq.trans (show mI (sI (sI S 256 0 0) 256 0 y) 256 0 = y by simp [mI, sI, up2]) hy⟩
theorem pf_x {s0 : State} {S : HS} {cn : Cn} {K k : Nat} {F : Int32} {N : Cn} {x y : Int32} (e : K = k) (hk : ¬ k = 0) (hy : y = nI k) (h : RX s0 (sI (sI S 256 0 0) 256 0 y) cn) : PF s0 S cn K F N (some (.int x)) (sI (sI S 256 0 0) 256 0 y) := Or.inl ⟨by rw [e]; exact hk, ⟨_, rfl⟩, h, (Kq.rf.sI rfl).sI rfl, by rw [e]; exact Eq.trans (show mI (sI (sI S 256 0 0) 256 0 y) 256 0 = y by simp [mI, sI, up2]) hy⟩

theorem RE.pa {S A : HS} {a : Int32} (h : RE S A) : RE (sI (sI S 256 0 0) 259 0 a) (sI A 259 0 a) := ⟨h.1, h.2.1, h.2.2.1, rfl⟩
theorem RE.dr {S A : HS} {j : Nat} {a b : Int32} (h : RE S A) (e : a.toNatClampNeg = j) : RE (sI (sI S 256 0 0) 229 j b) (sI A 229 a.toNatClampNeg b) := by
  rw [e]
  refine ⟨fun i => ?_, h.2.1, h.2.2.1, h.2.2.2⟩
  have z := h.1 i
  by_cases c : i = j
  · subst c; simp [uI_I, uI_R, uI_A, uI_Arr, uI_N, uI_add, uR_I, uR_R, uR_A, uR_Arr, uR_N, uR_add, uG_I, uG_R, uG_A, uG_Arr, uG_N, uG_add, uA_I, uA_R, uA_A, uA_Arr, uA_N, uA_add]; exact ⟨z.1, z.2.1, z.2.2.1, z.2.2.2.1, z.2.2.2.2.1⟩
  · simp [uI_I, uI_R, uI_A, uI_Arr, uI_N, uI_add, uR_I, uR_R, uR_A, uR_Arr, uR_N, uR_add, uG_I, uG_R, uG_A, uG_Arr, uG_N, uG_add, uA_I, uA_R, uA_A, uA_Arr, uA_N, uA_add, c]; exact z
theorem RE.ja {S A : HS} {j : Nat} {a b : Int32} (h : RE S A) (e : a.toNatClampNeg = j) : RE (sA (sI S 256 0 0) 33 j (upd (mA S 33 j) 1 b)) (jaA A a.toNatClampNeg b) := by
  rw [e]
  refine ⟨h.1, h.2.1, fun i => ?_, h.2.2.2⟩
  have z := h.2.2.1 i
  by_cases c : i = j
  · subst c; simp [jaA, uI_I, uI_R, uI_A, uI_Arr, uI_N, uI_add, uR_I, uR_R, uR_A, uR_Arr, uR_N, uR_add, uG_I, uG_R, uG_A, uG_Arr, uG_N, uG_add, uA_I, uA_R, uA_A, uA_Arr, uA_N, uA_add]; exact ⟨by rw [z.1], z.2⟩
  · simp [jaA, uI_I, uI_R, uI_A, uI_Arr, uI_N, uI_add, uR_I, uR_R, uR_A, uR_Arr, uR_N, uR_add, uG_I, uG_R, uG_A, uG_Arr, uG_N, uG_add, uA_I, uA_R, uA_A, uA_Arr, uA_N, uA_add, c]; exact z

theorem dX16_partner_0 : decode cX16_partner 0 = .ok (.aload_n 0, 1) := by decide +kernel
theorem dX16_partner_1 : decode cX16_partner 1 = .ok (.iconst 0, 1) := by decide +kernel
theorem dX16_partner_2 : decode cX16_partner 2 = .ok (.putfield 43, 3) := by decide +kernel
theorem dX16_partner_5 : decode cX16_partner 5 = .ok (.iload_n 1, 1) := by decide +kernel
theorem dX16_partner_6 : decode cX16_partner 6 = .ok (.iconst 0, 1) := by decide +kernel
theorem dX16_partner_7 : decode cX16_partner 7 = .ok (.bipush 63, 2) := by decide +kernel
theorem dX16_partner_9 : decode cX16_partner 9 = .ok (.invokestatic 224, 3) := by decide +kernel
theorem dX16_partner_12 : decode cX16_partner 12 = .ok (.ifCond .ne 9, 3) := by decide +kernel
theorem dX16_partner_15 : decode cX16_partner 15 = .ok (.aload_n 0, 1) := by decide +kernel
theorem dX16_partner_16 : decode cX16_partner 16 = .ok (.iconst 1, 1) := by decide +kernel
theorem dX16_partner_17 : decode cX16_partner 17 = .ok (.invokevirtual 229, 3) := by decide +kernel
theorem dX16_partner_20 : decode cX16_partner 20 = .ok (.ireturn, 1) := by decide +kernel
theorem dX16_partner_21 : decode cX16_partner 21 = .ok (.aload_n 0, 1) := by decide +kernel
theorem dX16_partner_22 : decode cX16_partner 22 = .ok (.getfield 138, 3) := by decide +kernel
theorem dX16_partner_25 : decode cX16_partner 25 = .ok (.istore_n 2, 1) := by decide +kernel
theorem dX16_partner_26 : decode cX16_partner 26 = .ok (.aload_n 0, 1) := by decide +kernel
theorem dX16_partner_27 : decode cX16_partner 27 = .ok (.iload_n 1, 1) := by decide +kernel
theorem dX16_partner_28 : decode cX16_partner 28 = .ok (.putfield 138, 3) := by decide +kernel
theorem dX16_partner_31 : decode cX16_partner 31 = .ok (.iload_n 2, 1) := by decide +kernel
theorem dX16_partner_32 : decode cX16_partner 32 = .ok (.ireturn, 1) := by decide +kernel
abbrev rm_m_X16_partner : Room := { frames := 1, cells := 0, slots := 0, locals := 22 }
set_option maxHeartbeats 4000000 in
set_option maxRecDepth 100000 in
theorem m_X16_partner {s0 : State} {l : Launch} {D : va_G} {cy : Nat → ClassId} (G : Gl s0 l D cy) (S : HS) (ea ns nj nm nt nr nq : Nat) (h : RI ea S ns nj nm nt nr nq) (hea : ea = eaOf s0) (hQ : QI s0 S nq nt) (hZr : Zr S) (A : HS) (g0 : Nat) (hF : RF s0 S A nq nt) (hg : mI S 257 0 = nI g0) (a : Int32) : Ctr s0 l D cy yX16_partner cX16_partner 3 (some .int) rm_m_X16_partner S [.ref (gG S 16 0), .int a] (PF s0 S (ns, nj, nm, nr, nt, g0, A) (paK a) (mI A 259 0) (ns, nj, nm, nr, nt, g0, sI A 259 0 a)) := by
  refine pro "CavershamShiftModel" G rfl rfl (Nat.le_of_ble_eq_true rfl) (fun p e s m below meth c ls X w hnm hl => ?_)
  have hx := X.1
  have hb := X.2.1
  have hown := X.2.2.2.1
  have hts := X.2.2.2.2.1
  have hl : lv_has ls 3 [(0, .ref (gG S 16 0)), (1, .int a)] := hl
  have h0 := h
  have hK : Kq hvTm hiTm hrTm S S := Kq.rf
  have hE : RE S A := hF.re
  refine lv_aload_n hx hb dX16_partner_0 rfl (lv_at hl 0 rfl) ?_
  refine lv_iconst (v := 0) hx hb dX16_partner_1 (by decide) ?_
  refine p_16_0 (S := S) (x := 0) X w h.v wF_X16_43 dX16_partner_2 (fun H locs w => ?_)
  have h : RI ea (sI S 256 0 0) ns nj nm nt nr nq := h.stI (by decide)
  have hK : Kq hvTm hiTm hrTm S (sI S 256 0 0) := hK.sI rfl
  refine lv_iload_n hx hb dX16_partner_5 rfl (lv_at hl 1 rfl) ?_
  refine lv_iconst (v := 0) hx hb dX16_partner_6 (by decide) ?_
  refine lv_bipush (v := 63) hx hb dX16_partner_7 (by decide) ?_
  refine cS (S := (sI S 256 0 0)) (nA := 3) (As := [.int a, .int 0, .int 63]) (rest := []) X w hl (m_X16_in G (sI S 256 0 0) a 0 63) wY_X16_in wM_X16_224 wSt_X16_in wI_X16 (by decide +kernel) rfl rfl dX16_partner_9 ⟨by decide, by decide⟩ (Nat.le_of_ble_eq_true rfl) (⟨Nat.le_of_ble_eq_true rfl, Nat.le_of_ble_eq_true rfl⟩) (fun v1 S1 H locs hp w => ?_)
  obtain ⟨rfl, rfl⟩ := hp
  refine lv_if_ne (tgt := 21) hx hb dX16_partner_12 (by decide) (fun hy12 => ?_) (fun hy12 => ?_)
  · refine lv_aload_n hx hb dX16_partner_21 rfl (lv_at hl 0 rfl) ?_
    refine g_16_3 (S := (sI S 256 0 0)) (x := (mI S 259 0)) X w h.v wF_X16_138 (rfl) dX16_partner_22 ?_
    refine lv_istore_n (lv' := [(2, .int (mI S 259 0)), (0, .ref (gG S 16 0)), (1, .int a)]) hx hb dX16_partner_25 rfl hl (by decide) rfl (fun ls hl => ?_)
    refine lv_aload_n hx hb dX16_partner_26 rfl (lv_at hl 1 rfl) ?_
    refine lv_iload_n hx hb dX16_partner_27 rfl (lv_at hl 2 rfl) ?_
    refine p_16_3 (S := (sI S 256 0 0)) (x := a) X w h.v wF_X16_138 dX16_partner_28 (fun H locs w => ?_)
    have h : RI ea (sI (sI S 256 0 0) 259 0 a) ns nj nm nt nr nq := h.stI (by decide)
    refine lv_iload_n hx hb dX16_partner_31 rfl (lv_at hl 0 rfl) ?_
    exact rI X w rfl dX16_partner_32 (by decide) (by decide) (Or.inr ⟨by have z12 : sOut a 0 63 = false := (by simpa using b2i_t hy12); simp [paK, z12], by rw [← hE.2.2.2]; first | done | rfl, ⟨_, hea ▸ h, hQ, hZr, (hF.oI rfl).bI, hg⟩, (Kq.rf.sI rfl).sI rfl, rfl⟩)
  · refine lv_aload_n hx hb dX16_partner_15 rfl (lv_at hl 0 rfl) ?_
    refine lv_iconst (v := 1) hx hb dX16_partner_16 (by decide) ?_
    refine cV (S := (sI S 256 0 0)) (nA := 1) (As := [.int 1]) (rest := []) X w hl h.v (m_X16_no G (sI S 256 0 0) ea ns nj nm nt nr nq h 1) wY_X16_no wM_X16_229 wIn_X16_no wSe_X16_X16_no wI_X16 (by decide) rfl (by decide +kernel) rfl rfl dX16_partner_17 ⟨by decide, by decide⟩ (Nat.le_of_ble_eq_true rfl) (⟨Nat.le_of_ble_eq_true rfl, Nat.le_of_ble_eq_true rfl⟩) (fun v2 S1 H locs hp w => ?_)
    obtain ⟨rfl, rfl⟩ := hp
    have h : RI ea (sI (sI S 256 0 0) 256 0 1) ns nj nm nt nr nq := h.stI (by decide)
    have hK : Kq hvTm hiTm hrTm S (sI (sI S 256 0 0) 256 0 1) := hK.sI rfl
    exact rI X w rfl dX16_partner_20 (by decide) (by decide) (pf_x (k := 1) (by first | (have y : sOut a 0 63 = true := (by simpa using b2i_f hy12); simp [paK, y])) (by decide) (by decide) ⟨_, hea ▸ h, hQ, hZr, (hF.oI rfl).oI rfl, hg⟩)

theorem dX16_drift_0 : decode cX16_drift 0 = .ok (.aload_n 0, 1) := by decide +kernel
theorem dX16_drift_1 : decode cX16_drift 1 = .ok (.iconst 0, 1) := by decide +kernel
theorem dX16_drift_2 : decode cX16_drift 2 = .ok (.putfield 43, 3) := by decide +kernel
theorem dX16_drift_5 : decode cX16_drift 5 = .ok (.aload_n 0, 1) := by decide +kernel
theorem dX16_drift_6 : decode cX16_drift 6 = .ok (.iload_n 1, 1) := by decide +kernel
theorem dX16_drift_7 : decode cX16_drift 7 = .ok (.invokevirtual 235, 3) := by decide +kernel
theorem dX16_drift_10 : decode cX16_drift 10 = .ok (.ifCond .ne 9, 3) := by decide +kernel
theorem dX16_drift_13 : decode cX16_drift 13 = .ok (.aload_n 0, 1) := by decide +kernel
theorem dX16_drift_14 : decode cX16_drift 14 = .ok (.iconst 1, 1) := by decide +kernel
theorem dX16_drift_15 : decode cX16_drift 15 = .ok (.invokevirtual 229, 3) := by decide +kernel
theorem dX16_drift_18 : decode cX16_drift 18 = .ok (.ireturn, 1) := by decide +kernel
theorem dX16_drift_19 : decode cX16_drift 19 = .ok (.iload_n 2, 1) := by decide +kernel
theorem dX16_drift_20 : decode cX16_drift 20 = .ok (.iconst 0, 1) := by decide +kernel
theorem dX16_drift_21 : decode cX16_drift 21 = .ok (.bipush 99, 2) := by decide +kernel
theorem dX16_drift_23 : decode cX16_drift 23 = .ok (.invokestatic 224, 3) := by decide +kernel
theorem dX16_drift_26 : decode cX16_drift 26 = .ok (.ifCond .ne 9, 3) := by decide +kernel
theorem dX16_drift_29 : decode cX16_drift 29 = .ok (.aload_n 0, 1) := by decide +kernel
theorem dX16_drift_30 : decode cX16_drift 30 = .ok (.iconst 2, 1) := by decide +kernel
theorem dX16_drift_31 : decode cX16_drift 31 = .ok (.invokevirtual 229, 3) := by decide +kernel
theorem dX16_drift_34 : decode cX16_drift 34 = .ok (.ireturn, 1) := by decide +kernel
theorem dX16_drift_35 : decode cX16_drift 35 = .ok (.aload_n 0, 1) := by decide +kernel
theorem dX16_drift_36 : decode cX16_drift 36 = .ok (.getfield 16, 3) := by decide +kernel
theorem dX16_drift_39 : decode cX16_drift 39 = .ok (.iload_n 1, 1) := by decide +kernel
theorem dX16_drift_40 : decode cX16_drift 40 = .ok (.invokeinterface 46 2, 5) := by decide +kernel
theorem dX16_drift_45 : decode cX16_drift 45 = .ok (.checkcast 52, 3) := by decide +kernel
theorem dX16_drift_48 : decode cX16_drift 48 = .ok (.getfield 70, 3) := by decide +kernel
theorem dX16_drift_51 : decode cX16_drift 51 = .ok (.istore_n 3, 1) := by decide +kernel
theorem dX16_drift_52 : decode cX16_drift 52 = .ok (.aload_n 0, 1) := by decide +kernel
theorem dX16_drift_53 : decode cX16_drift 53 = .ok (.getfield 16, 3) := by decide +kernel
theorem dX16_drift_56 : decode cX16_drift 56 = .ok (.iload_n 1, 1) := by decide +kernel
theorem dX16_drift_57 : decode cX16_drift 57 = .ok (.invokeinterface 46 2, 5) := by decide +kernel
theorem dX16_drift_62 : decode cX16_drift 62 = .ok (.checkcast 52, 3) := by decide +kernel
theorem dX16_drift_65 : decode cX16_drift 65 = .ok (.iload_n 2, 1) := by decide +kernel
theorem dX16_drift_66 : decode cX16_drift 66 = .ok (.putfield 70, 3) := by decide +kernel
theorem dX16_drift_69 : decode cX16_drift 69 = .ok (.iload_n 3, 1) := by decide +kernel
theorem dX16_drift_70 : decode cX16_drift 70 = .ok (.ireturn, 1) := by decide +kernel
abbrev rm_m_X16_drift : Room := { frames := 3, cells := 0, slots := 0, locals := 64 }
set_option maxHeartbeats 4000000 in
set_option maxRecDepth 100000 in
theorem m_X16_drift {s0 : State} {l : Launch} {D : va_G} {cy : Nat → ClassId} (G : Gl s0 l D cy) (S : HS) (ea ns nj nm nt nr nq : Nat) (h : RI ea S ns nj nm nt nr nq) (hea : ea = eaOf s0) (hQ : QI s0 S nq nt) (hZr : Zr S) (A : HS) (g0 : Nat) (hF : RF s0 S A nq nt) (hg : mI S 257 0 = nI g0) (a b : Int32) : Ctr s0 l D cy yX16_drift cX16_drift 4 (some .int) rm_m_X16_drift S [.ref (gG S 16 0), .int a, .int b] (PF s0 S (ns, nj, nm, nr, nt, g0, A) (dK ns 99 a b) (mI A 229 a.toNatClampNeg) (ns, nj, nm, nr, nt, g0, sI A 229 a.toNatClampNeg b)) := by
  refine pro "CavershamShiftModel" G rfl rfl (Nat.le_of_ble_eq_true rfl) (fun p e s m below meth c ls X w hnm hl => ?_)
  have hx := X.1
  have hb := X.2.1
  have hown := X.2.2.2.1
  have hts := X.2.2.2.2.1
  have hl : lv_has ls 4 [(0, .ref (gG S 16 0)), (1, .int a), (2, .int b)] := hl
  have h0 := h
  have hK : Kq refU refB refR S S := Kq.rf
  have hE : RE S A := hF.re
  refine lv_aload_n hx hb dX16_drift_0 rfl (lv_at hl 0 rfl) ?_
  refine lv_iconst (v := 0) hx hb dX16_drift_1 (by decide) ?_
  refine p_16_0 (S := S) (x := 0) X w h.v wF_X16_43 dX16_drift_2 (fun H locs w => ?_)
  have h : RI ea (sI S 256 0 0) ns nj nm nt nr nq := h.stI (by decide)
  have hK : Kq refU refB refR S (sI S 256 0 0) := hK.sI rfl
  refine lv_aload_n hx hb dX16_drift_5 rfl (lv_at hl 0 rfl) ?_
  refine lv_iload_n hx hb dX16_drift_6 rfl (lv_at hl 1 rfl) ?_
  refine cV (S := (sI S 256 0 0)) (nA := 1) (As := [.int a]) (rest := []) X w hl h.v (m_X16_isStation G (sI S 256 0 0) ea ns nj nm nt nr nq h a) wY_X16_isStation wM_X16_235 wIn_X16_isStation wSe_X16_X16_isStation wI_X16 (by decide) rfl (by decide +kernel) rfl rfl dX16_drift_7 ⟨by decide, by decide⟩ (Nat.le_of_ble_eq_true rfl) (⟨Nat.le_of_ble_eq_true rfl, Nat.le_of_ble_eq_true rfl⟩) (fun v1 S1 H locs hp w => ?_)
  obtain ⟨rfl, rfl⟩ := hp
  refine lv_if_ne (tgt := 19) hx hb dX16_drift_10 (by decide) (fun hy10 => ?_) (fun hy10 => ?_)
  · obtain ⟨j2, hlj2, hvj2⟩ := out_in (n := ns) (by have hb1 := h.b_st; omega) ((by simpa using b2i_t hy10))
    rw [hvj2] at hl
    refine lv_iload_n hx hb dX16_drift_19 rfl (lv_at hl 2 rfl) ?_
    refine lv_iconst (v := 0) hx hb dX16_drift_20 (by decide) ?_
    refine lv_bipush (v := 99) hx hb dX16_drift_21 (by decide) ?_
    refine cS (S := (sI S 256 0 0)) (nA := 3) (As := [.int b, .int 0, .int 99]) (rest := []) X w hl (m_X16_in G (sI S 256 0 0) b 0 99) wY_X16_in wM_X16_224 wSt_X16_in wI_X16 (by decide +kernel) rfl rfl dX16_drift_23 ⟨by decide, by decide⟩ (Nat.le_of_ble_eq_true rfl) (⟨Nat.le_of_ble_eq_true rfl, Nat.le_of_ble_eq_true rfl⟩) (fun v3 S1 H locs hp w => ?_)
    obtain ⟨rfl, rfl⟩ := hp
    refine lv_if_ne (tgt := 35) hx hb dX16_drift_26 (by decide) (fun hy26 => ?_) (fun hy26 => ?_)
    · refine lv_aload_n hx hb dX16_drift_35 rfl (lv_at hl 0 rfl) ?_
      refine g_16_6 (S := (sI S 256 0 0)) (x := (some (gG (sI S 256 0 0) 17 6))) X w h.v wF_X16_16 (h.f_st) dX16_drift_36 ?_
      refine lv_iload_n hx hb dX16_drift_39 rfl (lv_at hl 1 rfl) ?_
      refine cF (S := (sI S 256 0 0)) (t := 17) (nA := 1) (As := [.int (nI j2)]) (rest := []) X w hl h.l_st.1 (m_get G (sI S 256 0 0) ea 6 j2 ns (some (gG (sI S 256 0 0) 14 j2)) h.l_st hlj2 (h.e_st j2 hlj2).1) wY_Jx4a65c_get_915e3 wM_X16_46 wIn_Jx4a65c_get_915e3 wSe_Jx4a65c_Jx4a65c_get_915e3_of_java_util_List_get__I_Ljava_lang_Object_ wI_Jx4a65c fw_get (by decide) rfl (by decide +kernel) rfl rfl dX16_drift_40 ⟨by decide, by decide⟩ (Nat.le_of_ble_eq_true rfl) (⟨Nat.le_of_ble_eq_true rfl, Nat.le_of_ble_eq_true rfl⟩) (fun v4 S1 H locs hp w => ?_)
      obtain ⟨rfl, rfl⟩ := hp
      refine ckC (S := (sI S 256 0 0)) (t := 14) X w (h.e_st j2 hlj2).2 (by decide) rfl wC_X16_52 dX16_drift_45 ?_
      refine g_14_5 (S := (sI S 256 0 0)) (x := (mI (sI S 256 0 0) 229 j2)) X w (h.e_st j2 hlj2).2 wF_X16_70 (rfl) dX16_drift_48 ?_
      refine lv_istore_n (lv' := [(3, .int (mI (sI S 256 0 0) 229 j2)), (0, .ref (gG S 16 0)), (1, .int (nI j2)), (2, .int b)]) hx hb dX16_drift_51 rfl hl (by decide) rfl (fun ls hl => ?_)
      refine lv_aload_n hx hb dX16_drift_52 rfl (lv_at hl 1 rfl) ?_
      refine g_16_6 (S := (sI S 256 0 0)) (x := (some (gG (sI S 256 0 0) 17 6))) X w h.v wF_X16_16 (h.f_st) dX16_drift_53 ?_
      refine lv_iload_n hx hb dX16_drift_56 rfl (lv_at hl 2 rfl) ?_
      refine cF (S := (sI S 256 0 0)) (t := 17) (nA := 1) (As := [.int (nI j2)]) (rest := []) X w hl h.l_st.1 (m_get G (sI S 256 0 0) ea 6 j2 ns (some (gG (sI S 256 0 0) 14 j2)) h.l_st hlj2 (h.e_st j2 hlj2).1) wY_Jx4a65c_get_915e3 wM_X16_46 wIn_Jx4a65c_get_915e3 wSe_Jx4a65c_Jx4a65c_get_915e3_of_java_util_List_get__I_Ljava_lang_Object_ wI_Jx4a65c fw_get (by decide) rfl (by decide +kernel) rfl rfl dX16_drift_57 ⟨by decide, by decide⟩ (Nat.le_of_ble_eq_true rfl) (⟨Nat.le_of_ble_eq_true rfl, Nat.le_of_ble_eq_true rfl⟩) (fun v5 S1 H locs hp w => ?_)
      obtain ⟨rfl, rfl⟩ := hp
      refine ckC (S := (sI S 256 0 0)) (t := 14) X w (h.e_st j2 hlj2).2 (by decide) rfl wC_X16_52 dX16_drift_62 ?_
      refine lv_iload_n hx hb dX16_drift_65 rfl (lv_at hl 3 rfl) ?_
      refine p_14_5 (S := (sI S 256 0 0)) (x := b) X w (h.e_st j2 hlj2).2 wF_X16_70 dX16_drift_66 (fun H locs w => ?_)
      have h : RI ea (sI (sI S 256 0 0) 229 j2 b) ns nj nm nt nr nq := h.stI (by decide)
      have hK : Kq refU refB refR S (sI (sI S 256 0 0) 229 j2 b) := hK.sI rfl
      refine lv_iload_n hx hb dX16_drift_69 rfl (lv_at hl 0 rfl) ?_
      exact rI X w rfl dX16_drift_70 (by decide) (by decide) (Or.inr ⟨by have z10 : sOut a 0 (nI ns - 1) = false := (by simpa using b2i_t hy10); have z26 : sOut b 0 99 = false := (by simpa using b2i_t hy26); simp [dK, z10, z26], by rw [tnI (a := a) (by assumption) (Nat.le_trans h.b_st (by decide)) (by assumption), ← (hE.1 _).2.2.2.2.2]; first | done | rfl, ⟨_, hea ▸ h, hQ, hZr, (by rw [tnI (a := a) (by assumption) (Nat.le_trans h.b_st (by decide)) (by assumption)]; exact (hF.oI rfl).bI), hg⟩, hK, rfl⟩)
    · refine lv_aload_n hx hb dX16_drift_29 rfl (lv_at hl 0 rfl) ?_
      refine lv_iconst (v := 2) hx hb dX16_drift_30 (by decide) ?_
      refine cV (S := (sI S 256 0 0)) (nA := 1) (As := [.int 2]) (rest := []) X w hl h.v (m_X16_no G (sI S 256 0 0) ea ns nj nm nt nr nq h 2) wY_X16_no wM_X16_229 wIn_X16_no wSe_X16_X16_no wI_X16 (by decide) rfl (by decide +kernel) rfl rfl dX16_drift_31 ⟨by decide, by decide⟩ (Nat.le_of_ble_eq_true rfl) (⟨Nat.le_of_ble_eq_true rfl, Nat.le_of_ble_eq_true rfl⟩) (fun v6 S1 H locs hp w => ?_)
      obtain ⟨rfl, rfl⟩ := hp
      have h : RI ea (sI (sI S 256 0 0) 256 0 2) ns nj nm nt nr nq := h.stI (by decide)
      have hK : Kq refU refB refR S (sI (sI S 256 0 0) 256 0 2) := hK.sI rfl
      exact rI X w rfl dX16_drift_34 (by decide) (by decide) (pf_x (k := 2) (by first | (have z10 : sOut a 0 (nI ns - 1) = false := (by simpa using b2i_t hy10); have y : sOut b 0 99 = true := (by simpa using b2i_f hy26); simp [dK, z10, y])) (by decide) (by decide) ⟨_, hea ▸ h, hQ, hZr, (hF.oI rfl).oI rfl, hg⟩)
  · refine lv_aload_n hx hb dX16_drift_13 rfl (lv_at hl 0 rfl) ?_
    refine lv_iconst (v := 1) hx hb dX16_drift_14 (by decide) ?_
    refine cV (S := (sI S 256 0 0)) (nA := 1) (As := [.int 1]) (rest := []) X w hl h.v (m_X16_no G (sI S 256 0 0) ea ns nj nm nt nr nq h 1) wY_X16_no wM_X16_229 wIn_X16_no wSe_X16_X16_no wI_X16 (by decide) rfl (by decide +kernel) rfl rfl dX16_drift_15 ⟨by decide, by decide⟩ (Nat.le_of_ble_eq_true rfl) (⟨Nat.le_of_ble_eq_true rfl, Nat.le_of_ble_eq_true rfl⟩) (fun v7 S1 H locs hp w => ?_)
    obtain ⟨rfl, rfl⟩ := hp
    have h : RI ea (sI (sI S 256 0 0) 256 0 1) ns nj nm nt nr nq := h.stI (by decide)
    have hK : Kq refU refB refR S (sI (sI S 256 0 0) 256 0 1) := hK.sI rfl
    exact rI X w rfl dX16_drift_18 (by decide) (by decide) (pf_x (k := 1) (by first | (have y : sOut a 0 (nI ns - 1) = true := (by simpa using b2i_f hy10); simp [dK, y])) (by decide) (by decide) ⟨_, hea ▸ h, hQ, hZr, (hF.oI rfl).oI rfl, hg⟩)

theorem dX16_jam_0 : decode cX16_jam 0 = .ok (.aload_n 0, 1) := by decide +kernel
theorem dX16_jam_1 : decode cX16_jam 1 = .ok (.iconst 0, 1) := by decide +kernel
theorem dX16_jam_2 : decode cX16_jam 2 = .ok (.putfield 43, 3) := by decide +kernel
theorem dX16_jam_5 : decode cX16_jam 5 = .ok (.iload_n 1, 1) := by decide +kernel
theorem dX16_jam_6 : decode cX16_jam 6 = .ok (.iconst 0, 1) := by decide +kernel
theorem dX16_jam_7 : decode cX16_jam 7 = .ok (.aload_n 0, 1) := by decide +kernel
theorem dX16_jam_8 : decode cX16_jam 8 = .ok (.getfield 20, 3) := by decide +kernel
theorem dX16_jam_11 : decode cX16_jam 11 = .ok (.invokeinterface 73 1, 5) := by decide +kernel
theorem dX16_jam_16 : decode cX16_jam 16 = .ok (.iconst 1, 1) := by decide +kernel
theorem dX16_jam_17 : decode cX16_jam 17 = .ok (.isub, 1) := by decide +kernel
theorem dX16_jam_18 : decode cX16_jam 18 = .ok (.invokestatic 224, 3) := by decide +kernel
theorem dX16_jam_21 : decode cX16_jam 21 = .ok (.ifCond .ne 9, 3) := by decide +kernel
theorem dX16_jam_24 : decode cX16_jam 24 = .ok (.aload_n 0, 1) := by decide +kernel
theorem dX16_jam_25 : decode cX16_jam 25 = .ok (.iconst 1, 1) := by decide +kernel
theorem dX16_jam_26 : decode cX16_jam 26 = .ok (.invokevirtual 229, 3) := by decide +kernel
theorem dX16_jam_29 : decode cX16_jam 29 = .ok (.ireturn, 1) := by decide +kernel
theorem dX16_jam_30 : decode cX16_jam 30 = .ok (.iload_n 2, 1) := by decide +kernel
theorem dX16_jam_31 : decode cX16_jam 31 = .ok (.iconst 0, 1) := by decide +kernel
theorem dX16_jam_32 : decode cX16_jam 32 = .ok (.bipush 9, 2) := by decide +kernel
theorem dX16_jam_34 : decode cX16_jam 34 = .ok (.invokestatic 224, 3) := by decide +kernel
theorem dX16_jam_37 : decode cX16_jam 37 = .ok (.ifCond .ne 9, 3) := by decide +kernel
theorem dX16_jam_40 : decode cX16_jam 40 = .ok (.aload_n 0, 1) := by decide +kernel
theorem dX16_jam_41 : decode cX16_jam 41 = .ok (.iconst 2, 1) := by decide +kernel
theorem dX16_jam_42 : decode cX16_jam 42 = .ok (.invokevirtual 229, 3) := by decide +kernel
theorem dX16_jam_45 : decode cX16_jam 45 = .ok (.ireturn, 1) := by decide +kernel
theorem dX16_jam_46 : decode cX16_jam 46 = .ok (.aload_n 0, 1) := by decide +kernel
theorem dX16_jam_47 : decode cX16_jam 47 = .ok (.getfield 20, 3) := by decide +kernel
theorem dX16_jam_50 : decode cX16_jam 50 = .ok (.iload_n 1, 1) := by decide +kernel
theorem dX16_jam_51 : decode cX16_jam 51 = .ok (.invokeinterface 46 2, 5) := by decide +kernel
theorem dX16_jam_56 : decode cX16_jam 56 = .ok (.checkcast 77, 3) := by decide +kernel
theorem dX16_jam_59 : decode cX16_jam 59 = .ok (.iconst 1, 1) := by decide +kernel
theorem dX16_jam_60 : decode cX16_jam 60 = .ok (.iaload, 1) := by decide +kernel
theorem dX16_jam_61 : decode cX16_jam 61 = .ok (.istore_n 3, 1) := by decide +kernel
theorem dX16_jam_62 : decode cX16_jam 62 = .ok (.aload_n 0, 1) := by decide +kernel
theorem dX16_jam_63 : decode cX16_jam 63 = .ok (.getfield 20, 3) := by decide +kernel
theorem dX16_jam_66 : decode cX16_jam 66 = .ok (.iload_n 1, 1) := by decide +kernel
theorem dX16_jam_67 : decode cX16_jam 67 = .ok (.invokeinterface 46 2, 5) := by decide +kernel
theorem dX16_jam_72 : decode cX16_jam 72 = .ok (.checkcast 77, 3) := by decide +kernel
theorem dX16_jam_75 : decode cX16_jam 75 = .ok (.iconst 1, 1) := by decide +kernel
theorem dX16_jam_76 : decode cX16_jam 76 = .ok (.iload_n 2, 1) := by decide +kernel
theorem dX16_jam_77 : decode cX16_jam 77 = .ok (.iastore, 1) := by decide +kernel
theorem dX16_jam_78 : decode cX16_jam 78 = .ok (.iload_n 3, 1) := by decide +kernel
theorem dX16_jam_79 : decode cX16_jam 79 = .ok (.ireturn, 1) := by decide +kernel
abbrev rm_m_X16_jam : Room := { frames := 3, cells := 0, slots := 0, locals := 64 }
set_option maxHeartbeats 4000000 in
set_option maxRecDepth 100000 in
theorem m_X16_jam {s0 : State} {l : Launch} {D : va_G} {cy : Nat → ClassId} (G : Gl s0 l D cy) (S : HS) (ea ns nj nm nt nr nq : Nat) (h : RI ea S ns nj nm nt nr nq) (hea : ea = eaOf s0) (hQ : QI s0 S nq nt) (hZr : Zr S) (A : HS) (g0 : Nat) (hF : RF s0 S A nq nt) (hg : mI S 257 0 = nI g0) (a b : Int32) : Ctr s0 l D cy yX16_jam cX16_jam 4 (some .int) rm_m_X16_jam S [.ref (gG S 16 0), .int a, .int b] (PF s0 S (ns, nj, nm, nr, nt, g0, A) (dK nj 9 a b) (mA A 33 a.toNatClampNeg 1) (ns, nj, nm, nr, nt, g0, jaA A a.toNatClampNeg b)) := by
  refine pro "CavershamShiftModel" G rfl rfl (Nat.le_of_ble_eq_true rfl) (fun p e s m below meth c ls X w hnm hl => ?_)
  have hx := X.1
  have hb := X.2.1
  have hown := X.2.2.2.1
  have hts := X.2.2.2.2.1
  have hl : lv_has ls 4 [(0, .ref (gG S 16 0)), (1, .int a), (2, .int b)] := hl
  have h0 := h
  have hK : Kq refU refB refR S S := Kq.rf
  have hE : RE S A := hF.re
  refine lv_aload_n hx hb dX16_jam_0 rfl (lv_at hl 0 rfl) ?_
  refine lv_iconst (v := 0) hx hb dX16_jam_1 (by decide) ?_
  refine p_16_0 (S := S) (x := 0) X w h.v wF_X16_43 dX16_jam_2 (fun H locs w => ?_)
  have h : RI ea (sI S 256 0 0) ns nj nm nt nr nq := h.stI (by decide)
  have hK : Kq refU refB refR S (sI S 256 0 0) := hK.sI rfl
  refine lv_iload_n hx hb dX16_jam_5 rfl (lv_at hl 1 rfl) ?_
  refine lv_iconst (v := 0) hx hb dX16_jam_6 (by decide) ?_
  refine lv_aload_n hx hb dX16_jam_7 rfl (lv_at hl 0 rfl) ?_
  refine g_16_7 (S := (sI S 256 0 0)) (x := (some (gG (sI S 256 0 0) 17 7))) X w h.v wF_X16_20 (h.f_jm) dX16_jam_8 ?_
  refine cF (S := (sI S 256 0 0)) (t := 17) (nA := 0) (As := []) (rest := [.int 0, .int a]) X w hl h.l_jm.1 (m_size G (sI S 256 0 0) ea 7 nj h.l_jm) wY_Jx4a65c_size_8abf5 wM_X16_73 wIn_Jx4a65c_size_8abf5 wSe_Jx4a65c_Jx4a65c_size_8abf5_of_java_util_List_size___I wI_Jx4a65c fw_size (by decide) rfl (by decide +kernel) rfl rfl dX16_jam_11 ⟨by decide, by decide⟩ (Nat.le_of_ble_eq_true rfl) (⟨Nat.le_of_ble_eq_true rfl, Nat.le_of_ble_eq_true rfl⟩) (fun v1 S1 H locs hp w => ?_)
  obtain ⟨rfl, rfl⟩ := hp
  refine lv_iconst (v := 1) hx hb dX16_jam_16 (by decide) ?_
  refine lv_isub hx hb dX16_jam_17 ?_
  refine cS (S := (sI S 256 0 0)) (nA := 3) (As := [.int a, .int 0, .int ((nI nj) - 1)]) (rest := []) X w hl (m_X16_in G (sI S 256 0 0) a 0 ((nI nj) - 1)) wY_X16_in wM_X16_224 wSt_X16_in wI_X16 (by decide +kernel) rfl rfl dX16_jam_18 ⟨by decide, by decide⟩ (Nat.le_of_ble_eq_true rfl) (⟨Nat.le_of_ble_eq_true rfl, Nat.le_of_ble_eq_true rfl⟩) (fun v2 S1 H locs hp w => ?_)
  obtain ⟨rfl, rfl⟩ := hp
  refine lv_if_ne (tgt := 30) hx hb dX16_jam_21 (by decide) (fun hy21 => ?_) (fun hy21 => ?_)
  · obtain ⟨j3, hlj3, hvj3⟩ := out_in (n := nj) (by have hb1 := h.b_jm; omega) ((by simpa using b2i_t hy21))
    rw [hvj3] at hl
    refine lv_iload_n hx hb dX16_jam_30 rfl (lv_at hl 2 rfl) ?_
    refine lv_iconst (v := 0) hx hb dX16_jam_31 (by decide) ?_
    refine lv_bipush (v := 9) hx hb dX16_jam_32 (by decide) ?_
    refine cS (S := (sI S 256 0 0)) (nA := 3) (As := [.int b, .int 0, .int 9]) (rest := []) X w hl (m_X16_in G (sI S 256 0 0) b 0 9) wY_X16_in wM_X16_224 wSt_X16_in wI_X16 (by decide +kernel) rfl rfl dX16_jam_34 ⟨by decide, by decide⟩ (Nat.le_of_ble_eq_true rfl) (⟨Nat.le_of_ble_eq_true rfl, Nat.le_of_ble_eq_true rfl⟩) (fun v4 S1 H locs hp w => ?_)
    obtain ⟨rfl, rfl⟩ := hp
    refine lv_if_ne (tgt := 46) hx hb dX16_jam_37 (by decide) (fun hy37 => ?_) (fun hy37 => ?_)
    · refine lv_aload_n hx hb dX16_jam_46 rfl (lv_at hl 0 rfl) ?_
      refine g_16_7 (S := (sI S 256 0 0)) (x := (some (gG (sI S 256 0 0) 17 7))) X w h.v wF_X16_20 (h.f_jm) dX16_jam_47 ?_
      refine lv_iload_n hx hb dX16_jam_50 rfl (lv_at hl 1 rfl) ?_
      refine cF (S := (sI S 256 0 0)) (t := 17) (nA := 1) (As := [.int (nI j3)]) (rest := []) X w hl h.l_jm.1 (m_get G (sI S 256 0 0) ea 7 j3 nj (some (gG (sI S 256 0 0) 33 j3)) h.l_jm hlj3 (h.e_jm j3 hlj3).1) wY_Jx4a65c_get_915e3 wM_X16_46 wIn_Jx4a65c_get_915e3 wSe_Jx4a65c_Jx4a65c_get_915e3_of_java_util_List_get__I_Ljava_lang_Object_ wI_Jx4a65c fw_get (by decide) rfl (by decide +kernel) rfl rfl dX16_jam_51 ⟨by decide, by decide⟩ (Nat.le_of_ble_eq_true rfl) (⟨Nat.le_of_ble_eq_true rfl, Nat.le_of_ble_eq_true rfl⟩) (fun v5 S1 H locs hp w => ?_)
      obtain ⟨rfl, rfl⟩ := hp
      refine ckI (S := (sI S 256 0 0)) (t := 33) X w (h.e_jm j3 hlj3).2.1 (by decide) rfl rfl wC_X16_77 dX16_jam_56 ?_
      refine lv_iconst (v := 1) hx hb dX16_jam_59 (by decide) ?_
      refine aLdI (S := (sI S 256 0 0)) (t := 33) (v := mA (sI S 256 0 0) 33 j3 1) X w (h.e_jm j3 hlj3).2.1 (by decide) rfl rfl (by rw [(h.e_jm j3 hlj3).2.2]; unfold vp_in; decide) (rfl) dX16_jam_60 ?_
      refine lv_istore_n (lv' := [(3, .int (mA (sI S 256 0 0) 33 j3 1)), (0, .ref (gG S 16 0)), (1, .int (nI j3)), (2, .int b)]) hx hb dX16_jam_61 rfl hl (by decide) rfl (fun ls hl => ?_)
      refine lv_aload_n hx hb dX16_jam_62 rfl (lv_at hl 1 rfl) ?_
      refine g_16_7 (S := (sI S 256 0 0)) (x := (some (gG (sI S 256 0 0) 17 7))) X w h.v wF_X16_20 (h.f_jm) dX16_jam_63 ?_
      refine lv_iload_n hx hb dX16_jam_66 rfl (lv_at hl 2 rfl) ?_
      refine cF (S := (sI S 256 0 0)) (t := 17) (nA := 1) (As := [.int (nI j3)]) (rest := []) X w hl h.l_jm.1 (m_get G (sI S 256 0 0) ea 7 j3 nj (some (gG (sI S 256 0 0) 33 j3)) h.l_jm hlj3 (h.e_jm j3 hlj3).1) wY_Jx4a65c_get_915e3 wM_X16_46 wIn_Jx4a65c_get_915e3 wSe_Jx4a65c_Jx4a65c_get_915e3_of_java_util_List_get__I_Ljava_lang_Object_ wI_Jx4a65c fw_get (by decide) rfl (by decide +kernel) rfl rfl dX16_jam_67 ⟨by decide, by decide⟩ (Nat.le_of_ble_eq_true rfl) (⟨Nat.le_of_ble_eq_true rfl, Nat.le_of_ble_eq_true rfl⟩) (fun v6 S1 H locs hp w => ?_)
      obtain ⟨rfl, rfl⟩ := hp
      refine ckI (S := (sI S 256 0 0)) (t := 33) X w (h.e_jm j3 hlj3).2.1 (by decide) rfl rfl wC_X16_77 dX16_jam_72 ?_
      refine lv_iconst (v := 1) hx hb dX16_jam_75 (by decide) ?_
      refine lv_iload_n hx hb dX16_jam_76 rfl (lv_at hl 3 rfl) ?_
      refine aStI (S := (sI S 256 0 0)) (t := 33) X w (h.e_jm j3 hlj3).2.1 (by decide) rfl rfl (by show vp_in _ (mN _ 33 j3); rw [(h.e_jm j3 hlj3).2.2]; unfold vp_in; decide) dX16_jam_77 (fun H locs w => ?_)
      have h : RI ea (sA (sI S 256 0 0) 33 j3 (upd (mA (sI S 256 0 0) 33 j3) (1 : Int32).toNatClampNeg b)) ns nj nm nt nr nq := h.a33 _ _
      have hK : Kq refU refB refR S (sA (sI S 256 0 0) 33 j3 (upd (mA (sI S 256 0 0) 33 j3) (1 : Int32).toNatClampNeg b)) := hK.sA rfl
      refine lv_iload_n hx hb dX16_jam_78 rfl (lv_at hl 0 rfl) ?_
      exact rI X w rfl dX16_jam_79 (by decide) (by decide) (Or.inr ⟨by have z21 : sOut a 0 (nI nj - 1) = false := (by simpa using b2i_t hy21); have z37 : sOut b 0 9 = false := (by simpa using b2i_t hy37); simp [dK, z21, z37], by rw [tnI (a := a) (by assumption) (Nat.le_trans h.b_jm (by decide)) (by assumption), ← (hE.2.2.1 _).1]; first | done | rfl, ⟨_, hea ▸ h, hQ, hZr, (by rw [tnI (a := a) (by assumption) (Nat.le_trans h.b_jm (by decide)) (by assumption)]; exact (hF.oI rfl).sU rfl), hg⟩, hK, rfl⟩)
    · refine lv_aload_n hx hb dX16_jam_40 rfl (lv_at hl 0 rfl) ?_
      refine lv_iconst (v := 2) hx hb dX16_jam_41 (by decide) ?_
      refine cV (S := (sI S 256 0 0)) (nA := 1) (As := [.int 2]) (rest := []) X w hl h.v (m_X16_no G (sI S 256 0 0) ea ns nj nm nt nr nq h 2) wY_X16_no wM_X16_229 wIn_X16_no wSe_X16_X16_no wI_X16 (by decide) rfl (by decide +kernel) rfl rfl dX16_jam_42 ⟨by decide, by decide⟩ (Nat.le_of_ble_eq_true rfl) (⟨Nat.le_of_ble_eq_true rfl, Nat.le_of_ble_eq_true rfl⟩) (fun v7 S1 H locs hp w => ?_)
      obtain ⟨rfl, rfl⟩ := hp
      have h : RI ea (sI (sI S 256 0 0) 256 0 2) ns nj nm nt nr nq := h.stI (by decide)
      have hK : Kq refU refB refR S (sI (sI S 256 0 0) 256 0 2) := hK.sI rfl
      exact rI X w rfl dX16_jam_45 (by decide) (by decide) (pf_x (k := 2) (by first | (have z21 : sOut a 0 (nI nj - 1) = false := (by simpa using b2i_t hy21); have y : sOut b 0 9 = true := (by simpa using b2i_f hy37); simp [dK, z21, y])) (by decide) (by decide) ⟨_, hea ▸ h, hQ, hZr, (hF.oI rfl).oI rfl, hg⟩)
  · refine lv_aload_n hx hb dX16_jam_24 rfl (lv_at hl 0 rfl) ?_
    refine lv_iconst (v := 1) hx hb dX16_jam_25 (by decide) ?_
    refine cV (S := (sI S 256 0 0)) (nA := 1) (As := [.int 1]) (rest := []) X w hl h.v (m_X16_no G (sI S 256 0 0) ea ns nj nm nt nr nq h 1) wY_X16_no wM_X16_229 wIn_X16_no wSe_X16_X16_no wI_X16 (by decide) rfl (by decide +kernel) rfl rfl dX16_jam_26 ⟨by decide, by decide⟩ (Nat.le_of_ble_eq_true rfl) (⟨Nat.le_of_ble_eq_true rfl, Nat.le_of_ble_eq_true rfl⟩) (fun v8 S1 H locs hp w => ?_)
    obtain ⟨rfl, rfl⟩ := hp
    have h : RI ea (sI (sI S 256 0 0) 256 0 1) ns nj nm nt nr nq := h.stI (by decide)
    have hK : Kq refU refB refR S (sI (sI S 256 0 0) 256 0 1) := hK.sI rfl
    exact rI X w rfl dX16_jam_29 (by decide) (by decide) (pf_x (k := 1) (by first | (have y : sOut a 0 (nI nj - 1) = true := (by simpa using b2i_f hy21); simp [dK, y])) (by decide) (by decide) ⟨_, hea ▸ h, hQ, hZr, (hF.oI rfl).oI rfl, hg⟩)

theorem dX16_print_0 : decode cX16_print 0 = .ok (.aload_n 0, 1) := by decide +kernel
theorem dX16_print_1 : decode cX16_print 1 = .ok (.iconst 0, 1) := by decide +kernel
theorem dX16_print_2 : decode cX16_print 2 = .ok (.putfield 43, 3) := by decide +kernel
theorem dX16_print_5 : decode cX16_print 5 = .ok (.aload_n 0, 1) := by decide +kernel
theorem dX16_print_6 : decode cX16_print 6 = .ok (.iload_n 1, 1) := by decide +kernel
theorem dX16_print_7 : decode cX16_print 7 = .ok (.invokevirtual 246, 3) := by decide +kernel
theorem dX16_print_10 : decode cX16_print 10 = .ok (.ifCond .ne 9, 3) := by decide +kernel
theorem dX16_print_13 : decode cX16_print 13 = .ok (.aload_n 0, 1) := by decide +kernel
theorem dX16_print_14 : decode cX16_print 14 = .ok (.iconst 1, 1) := by decide +kernel
theorem dX16_print_15 : decode cX16_print 15 = .ok (.invokevirtual 229, 3) := by decide +kernel
theorem dX16_print_18 : decode cX16_print 18 = .ok (.ireturn, 1) := by decide +kernel
theorem dX16_print_19 : decode cX16_print 19 = .ok (.iload_n 2, 1) := by decide +kernel
theorem dX16_print_20 : decode cX16_print 20 = .ok (.iconst 0, 1) := by decide +kernel
theorem dX16_print_21 : decode cX16_print 21 = .ok (.ldc 244, 2) := by decide +kernel
theorem dX16_print_23 : decode cX16_print 23 = .ok (.invokestatic 224, 3) := by decide +kernel
theorem dX16_print_26 : decode cX16_print 26 = .ok (.ifCond .ne 9, 3) := by decide +kernel
theorem dX16_print_29 : decode cX16_print 29 = .ok (.aload_n 0, 1) := by decide +kernel
theorem dX16_print_30 : decode cX16_print 30 = .ok (.iconst 2, 1) := by decide +kernel
theorem dX16_print_31 : decode cX16_print 31 = .ok (.invokevirtual 229, 3) := by decide +kernel
theorem dX16_print_34 : decode cX16_print 34 = .ok (.ireturn, 1) := by decide +kernel
theorem dX16_print_35 : decode cX16_print 35 = .ok (.aload_n 0, 1) := by decide +kernel
theorem dX16_print_36 : decode cX16_print 36 = .ok (.getfield 26, 3) := by decide +kernel
theorem dX16_print_39 : decode cX16_print 39 = .ok (.iload_n 1, 1) := by decide +kernel
theorem dX16_print_40 : decode cX16_print 40 = .ok (.invokeinterface 46 2, 5) := by decide +kernel
theorem dX16_print_45 : decode cX16_print 45 = .ok (.checkcast 105, 3) := by decide +kernel
theorem dX16_print_48 : decode cX16_print 48 = .ok (.astore_n 3, 1) := by decide +kernel
theorem dX16_print_49 : decode cX16_print 49 = .ok (.aload_n 3, 1) := by decide +kernel
theorem dX16_print_50 : decode cX16_print 50 = .ok (.getfield 249, 3) := by decide +kernel
theorem dX16_print_53 : decode cX16_print 53 = .ok (.iconst (-1), 1) := by decide +kernel
theorem dX16_print_54 : decode cX16_print 54 = .ok (.if_icmp .eq 9, 3) := by decide +kernel
theorem dX16_print_57 : decode cX16_print 57 = .ok (.aload_n 0, 1) := by decide +kernel
theorem dX16_print_58 : decode cX16_print 58 = .ok (.iconst 3, 1) := by decide +kernel
theorem dX16_print_59 : decode cX16_print 59 = .ok (.invokevirtual 229, 3) := by decide +kernel
theorem dX16_print_62 : decode cX16_print 62 = .ok (.ireturn, 1) := by decide +kernel
theorem dX16_print_63 : decode cX16_print 63 = .ok (.aload_n 3, 1) := by decide +kernel
theorem dX16_print_64 : decode cX16_print 64 = .ok (.iload_n 2, 1) := by decide +kernel
theorem dX16_print_65 : decode cX16_print 65 = .ok (.putfield 249, 3) := by decide +kernel
theorem dX16_print_68 : decode cX16_print 68 = .ok (.aload_n 0, 1) := by decide +kernel
theorem dX16_print_69 : decode cX16_print 69 = .ok (.iload_n 1, 1) := by decide +kernel
theorem dX16_print_70 : decode cX16_print 70 = .ok (.invokevirtual 200, 3) := by decide +kernel
theorem dX16_print_73 : decode cX16_print 73 = .ok (.aload_n 3, 1) := by decide +kernel
theorem dX16_print_74 : decode cX16_print 74 = .ok (.invokevirtual 252, 3) := by decide +kernel
theorem dX16_print_77 : decode cX16_print 77 = .ok (.ifCond .eq 14, 3) := by decide +kernel
theorem dX16_print_80 : decode cX16_print 80 = .ok (.iload_n 2, 1) := by decide +kernel
theorem dX16_print_81 : decode cX16_print 81 = .ok (.aload_n 3, 1) := by decide +kernel
theorem dX16_print_82 : decode cX16_print 82 = .ok (.invokevirtual 255, 3) := by decide +kernel
theorem dX16_print_85 : decode cX16_print 85 = .ok (.iconst (-1), 1) := by decide +kernel
theorem dX16_print_86 : decode cX16_print 86 = .ok (.ixor, 1) := by decide +kernel
theorem dX16_print_87 : decode cX16_print 87 = .ok (.iand, 1) := by decide +kernel
theorem dX16_print_88 : decode cX16_print 88 = .ok (.goto 4, 3) := by decide +kernel
theorem dX16_print_91 : decode cX16_print 91 = .ok (.iconst (-1), 1) := by decide +kernel
theorem dX16_print_92 : decode cX16_print 92 = .ok (.ireturn, 1) := by decide +kernel
abbrev rm_m_X16_print : Room := { frames := 8, cells := 1, slots := 49, locals := 213 }
set_option maxHeartbeats 4000000 in
set_option maxRecDepth 100000 in
theorem m_X16_print {s0 : State} {l : Launch} {D : va_G} {cy : Nat → ClassId} (G : Gl s0 l D cy) (S : HS) (ea ns nj nm nt nr nq : Nat) (h : RI ea S ns nj nm nt nr nq) (hea : ea = eaOf s0) (hQ : QI s0 S nq nt) (hZr : Zr S) (A : HS) (g0 : Nat) (hF : RF s0 S A nq nt) (hg : mI S 257 0 = nI g0) (a b : Int32) : Ctr s0 l D cy yX16_print cX16_print 4 (some .int) rm_m_X16_print S [.ref (gG S 16 0), .int a, .int b] (PF s0 S (ns, nj, nm, nr, nt, g0, A) (prK nt a b (mI A 246 a.toNatClampNeg)) (prF A a.toNatClampNeg b) (ns, nj, nm, nr, nt, g0, prA A a.toNatClampNeg b)) := by
  refine pro "CavershamShiftModel" G rfl rfl (Nat.le_of_ble_eq_true rfl) (fun p e s m below meth c ls X w hnm hl => ?_)
  have hx := X.1
  have hb := X.2.1
  have hown := X.2.2.2.1
  have hts := X.2.2.2.2.1
  have hl : lv_has ls 4 [(0, .ref (gG S 16 0)), (1, .int a), (2, .int b)] := hl
  have h0 := h
  have hK : Kq refU refB refR S S := Kq.rf
  have hE : RE S A := hF.re
  refine lv_aload_n hx hb dX16_print_0 rfl (lv_at hl 0 rfl) ?_
  refine lv_iconst (v := 0) hx hb dX16_print_1 (by decide) ?_
  refine p_16_0 (S := S) (x := 0) X w h.v wF_X16_43 dX16_print_2 (fun H locs w => ?_)
  have h : RI ea (sI S 256 0 0) ns nj nm nt nr nq := h.stI (by decide)
  have hK : Kq refU refB refR S (sI S 256 0 0) := hK.sI rfl
  refine lv_aload_n hx hb dX16_print_5 rfl (lv_at hl 0 rfl) ?_
  refine lv_iload_n hx hb dX16_print_6 rfl (lv_at hl 1 rfl) ?_
  refine cV (S := (sI S 256 0 0)) (nA := 1) (As := [.int a]) (rest := []) X w hl h.v (m_X16_isTalk G (sI S 256 0 0) ea ns nj nm nt nr nq h a) wY_X16_isTalk wM_X16_246 wIn_X16_isTalk wSe_X16_X16_isTalk wI_X16 (by decide) rfl (by decide +kernel) rfl rfl dX16_print_7 ⟨by decide, by decide⟩ (Nat.le_of_ble_eq_true rfl) (⟨Nat.le_of_ble_eq_true rfl, Nat.le_of_ble_eq_true rfl⟩) (fun v1 S1 H locs hp w => ?_)
  obtain ⟨rfl, rfl⟩ := hp
  refine lv_if_ne (tgt := 19) hx hb dX16_print_10 (by decide) (fun hy10 => ?_) (fun hy10 => ?_)
  · obtain ⟨j9, hl9, hv9⟩ := out_in (n := nt) (by have hb1 := h.b_ta; omega) (by simpa using b2i_t hy10)
    rw [hv9] at hl
    refine lv_iload_n hx hb dX16_print_19 rfl (lv_at hl 2 rfl) ?_
    refine lv_iconst (v := 0) hx hb dX16_print_20 (by decide) ?_
    refine lv_ldc hx hb hown (hts _ wK_X16_244) dX16_print_21 ?_
    refine cS (S := (sI S 256 0 0)) (nA := 3) (As := [.int b, .int 0, .int 65535]) (rest := []) X w hl (m_X16_in G (sI S 256 0 0) b 0 65535) wY_X16_in wM_X16_224 wSt_X16_in wI_X16 (by decide +kernel) rfl rfl dX16_print_23 ⟨by decide, by decide⟩ (Nat.le_of_ble_eq_true rfl) (⟨Nat.le_of_ble_eq_true rfl, Nat.le_of_ble_eq_true rfl⟩) (fun v2 S1 H locs hp w => ?_)
    obtain ⟨rfl, rfl⟩ := hp
    refine lv_if_ne (tgt := 35) hx hb dX16_print_26 (by decide) (fun hy26 => ?_) (fun hy26 => ?_)
    · refine lv_aload_n hx hb dX16_print_35 rfl (lv_at hl 0 rfl) ?_
      refine g_16_9 (S := (sI S 256 0 0)) (x := (some (gG (sI S 256 0 0) 17 9))) X w h.v wF_X16_26 (h.f_ta) dX16_print_36 ?_
      refine lv_iload_n hx hb dX16_print_39 rfl (lv_at hl 1 rfl) ?_
      refine cF (S := (sI S 256 0 0)) (t := 17) (nA := 1) (As := [.int (nI j9)]) (rest := []) X w hl h.l_ta.1 (m_get G (sI S 256 0 0) ea 9 j9 nt (some (gG (sI S 256 0 0) 15 j9)) h.l_ta hl9 (h.e_ta j9 hl9).1) wY_Jx4a65c_get_915e3 wM_X16_46 wIn_Jx4a65c_get_915e3 wSe_Jx4a65c_Jx4a65c_get_915e3_of_java_util_List_get__I_Ljava_lang_Object_ wI_Jx4a65c fw_get (by decide) rfl (by decide +kernel) rfl rfl dX16_print_40 ⟨by decide, by decide⟩ (Nat.le_of_ble_eq_true rfl) (⟨Nat.le_of_ble_eq_true rfl, Nat.le_of_ble_eq_true rfl⟩) (fun v3 S1 H locs hp w => ?_)
      obtain ⟨rfl, rfl⟩ := hp
      refine ckC (S := (sI S 256 0 0)) (t := 15) X w (h.e_ta j9 hl9).2 (by decide) rfl wC_X16_105 dX16_print_45 ?_
      refine lv_astore_n (lv' := [(3, .ref (gG (sI S 256 0 0) 15 j9)), (0, .ref (gG S 16 0)), (1, .int (nI j9)), (2, .int b)]) hx hb dX16_print_48 rfl hl (by decide) rfl (fun ls hl => ?_)
      refine lv_aload_n hx hb dX16_print_49 rfl (lv_at hl 0 rfl) ?_
      refine g_15_6 (S := (sI S 256 0 0)) (x := (mI S 246 j9)) X w (h.e_ta j9 hl9).2 wF_X16_249 (rfl) dX16_print_50 ?_
      refine lv_iconst (v := (-1)) hx hb dX16_print_53 (by decide) ?_
      refine lv_icmp_eq (tgt := 63) hx hb dX16_print_54 (by decide) (fun hy54 => ?_) (fun hy54 => ?_)
      · refine lv_aload_n hx hb dX16_print_63 rfl (lv_at hl 0 rfl) ?_
        refine lv_iload_n hx hb dX16_print_64 rfl (lv_at hl 3 rfl) ?_
        refine p_15_6 (S := (sI S 256 0 0)) (x := b) X w (h.e_ta j9 hl9).2 wF_X16_249 dX16_print_65 (fun H locs w => ?_)
        have h : RI ea (sI (sI S 256 0 0) 246 j9 b) ns nj nm nt nr nq := h.stI (by decide)
        have hK : Kq refU refB refR S (sI (sI S 256 0 0) 246 j9 b) := hK.sI rfl
        have hF1 : RF s0 (sI (sI S 256 0 0) 246 j9 b) (sI A 246 j9 b) nq nt := (hF.oI rfl).bI
        refine lv_aload_n hx hb dX16_print_68 rfl (lv_at hl 1 rfl) ?_
        refine lv_iload_n hx hb dX16_print_69 rfl (lv_at hl 2 rfl) ?_
        refine cV (S := (sI (sI S 256 0 0) 246 j9 b)) (nA := 1) (As := [.int (nI j9)]) (rest := []) X w hl h.v (r_X16_enqueue G (sI (sI S 256 0 0) 246 j9 b) ea ns nj nm nt nr nq h (sI A 246 j9 b) hF1 hea j9 hl9 hQ) wY_X16_enqueue wM_X16_200 wIn_X16_enqueue wSe_X16_X16_enqueue wI_X16 (by decide) rfl (by decide +kernel) rfl rfl dX16_print_70 ⟨by decide, by decide⟩ (Nat.le_of_ble_eq_true rfl) (⟨Nat.le_of_ble_eq_true rfl, Nat.le_of_ble_eq_true rfl⟩) (fun v6 U4 H locs hp w => ?_)
        obtain ⟨rfl, nc5, h, hkU4, hQ, hF2⟩ := hp
        have hK_U4 : Kq refU refB refR S U4 := hK.tr (Kq.rB (q1k hkU4))
        have hK := hK_U4
        have hZr : Zr U4 := Zr.q1 hkU4 hZr
        have e245 : mI U4 245 j9 = mI A 245 j9 := (hF2.1 245 rfl j9).trans (prA_I (by decide) (by decide))
        have e247 : mI U4 247 j9 = mI A 247 j9 := (hF2.1 247 rfl j9).trans (prA_I (by decide) (by decide))
        have e248 : mI U4 248 j9 = mI A 248 j9 := (hF2.1 248 rfl j9).trans (prA_I (by decide) (by decide))
        have e256 : mI U4 256 0 = 0 := hkU4.I (f := 256) (i := 0) rfl
        have e257 : mI U4 257 0 = nI g0 := (hkU4.I (f := 257) (i := 0) rfl).trans hg
        refine lv_aload_n hx hb dX16_print_73 rfl (lv_at hl 0 rfl) ?_
        refine rE0 ((rfl).trans (((hkU4.G (t := 15) (i := j9) rfl).trans (rfl))).symm) ?_
        refine cV (S := U4) (nA := 0) (As := []) (rest := []) X w hl (h.e_ta j9 hl9).2 (m_X15_isReported G U4 j9 (h.e_ta j9 hl9).2) wY_X15_isReported wM_X16_252 wIn_X15_isReported wSe_X15_X15_isReported wI_X15 (by decide) rfl (by decide +kernel) rfl rfl dX16_print_74 ⟨by decide, by decide⟩ (Nat.le_of_ble_eq_true rfl) (⟨Nat.le_of_ble_eq_true rfl, Nat.le_of_ble_eq_true rfl⟩) (fun v7 S1 H locs hp w => ?_)
        obtain ⟨rfl, rfl⟩ := hp
        refine lv_if_eq (tgt := 91) hx hb dX16_print_77 (by decide) (fun hrp => ?_) (fun hrp => ?_)
        · refine lv_iconst (v := (-1)) hx hb dX16_print_91 (by decide) ?_
          exact rI X w rfl dX16_print_92 (by decide) (by decide) (Or.inr ⟨(if_neg (by rw [show sOut a 0 (nI nt - 1) = false by simpa using b2i_t hy10]; decide)).trans ((if_neg (by rw [show sOut b 0 65535 = false by simpa using b2i_t hy26]; decide)).trans (if_neg (fun z => z (by rw [tnI hl9 (Nat.le_trans h0.b_ta (by decide)) hv9, ← hF.1 246 rfl j9]; exact hy54)))), by rw [tnI hl9 (Nat.le_trans h0.b_ta (by decide)) hv9]; unfold prF; first | (rw [if_pos (e247.symm.trans (by have z := b2i_f hrp; exact Classical.not_not.mp (of_decide_eq_false z)))]; done) | (rw [if_neg (fun z => (of_decide_eq_true (b2i_t hrp)) (e247.trans z)), ← e245, ← e248]; done), ⟨_, hea ▸ h, hQ, hZr, by rw [tnI hl9 (Nat.le_trans h0.b_ta (by decide)) hv9]; exact hF2, e257⟩, hK, e256⟩)
        · refine lv_iload_n hx hb dX16_print_80 rfl (lv_at hl 3 rfl) ?_
          refine lv_aload_n hx hb dX16_print_81 rfl (lv_at hl 0 rfl) ?_
          refine rE0 ((rfl).trans (((hkU4.G (t := 15) (i := j9) rfl).trans (rfl))).symm) ?_
          refine cV (S := U4) (nA := 0) (As := []) (rest := [.int b]) X w hl (h.e_ta j9 hl9).2 (m_X15_all G U4 j9 (h.e_ta j9 hl9).2) wY_X15_all wM_X16_255 wIn_X15_all wSe_X15_X15_all wI_X15 (by decide) rfl (by decide +kernel) rfl rfl dX16_print_82 ⟨by decide, by decide⟩ (Nat.le_of_ble_eq_true rfl) (⟨Nat.le_of_ble_eq_true rfl, Nat.le_of_ble_eq_true rfl⟩) (fun v8 S1 H locs hp w => ?_)
          obtain ⟨rfl, rfl⟩ := hp
          refine lv_iconst (v := (-1)) hx hb dX16_print_85 (by decide) ?_
          refine lv_ixor hx hb dX16_print_86 ?_
          refine lv_iand hx hb dX16_print_87 ?_
          refine lv_goto (tgt := 92) hx hb dX16_print_88 (by decide) ?_
          exact rI X w rfl dX16_print_92 (by decide) (by decide) (Or.inr ⟨(if_neg (by rw [show sOut a 0 (nI nt - 1) = false by simpa using b2i_t hy10]; decide)).trans ((if_neg (by rw [show sOut b 0 65535 = false by simpa using b2i_t hy26]; decide)).trans (if_neg (fun z => z (by rw [tnI hl9 (Nat.le_trans h0.b_ta (by decide)) hv9, ← hF.1 246 rfl j9]; exact hy54)))), by rw [tnI hl9 (Nat.le_trans h0.b_ta (by decide)) hv9]; unfold prF; first | (rw [if_pos (e247.symm.trans (by have z := b2i_f hrp; exact Classical.not_not.mp (of_decide_eq_false z)))]; done) | (rw [if_neg (fun z => (of_decide_eq_true (b2i_t hrp)) (e247.trans z)), ← e245, ← e248]; done), ⟨_, hea ▸ h, hQ, hZr, by rw [tnI hl9 (Nat.le_trans h0.b_ta (by decide)) hv9]; exact hF2, e257⟩, hK, e256⟩)
      · refine lv_aload_n hx hb dX16_print_57 rfl (lv_at hl 1 rfl) ?_
        refine lv_iconst (v := 3) hx hb dX16_print_58 (by decide) ?_
        refine cV (S := (sI S 256 0 0)) (nA := 1) (As := [.int 3]) (rest := []) X w hl h.v (m_X16_no G (sI S 256 0 0) ea ns nj nm nt nr nq h 3) wY_X16_no wM_X16_229 wIn_X16_no wSe_X16_X16_no wI_X16 (by decide) rfl (by decide +kernel) rfl rfl dX16_print_59 ⟨by decide, by decide⟩ (Nat.le_of_ble_eq_true rfl) (⟨Nat.le_of_ble_eq_true rfl, Nat.le_of_ble_eq_true rfl⟩) (fun v9 S1 H locs hp w => ?_)
        obtain ⟨rfl, rfl⟩ := hp
        have h : RI ea (sI (sI S 256 0 0) 256 0 3) ns nj nm nt nr nq := h.stI (by decide)
        have hK : Kq refU refB refR S (sI (sI S 256 0 0) 256 0 3) := hK.sI rfl
        exact rI X w rfl dX16_print_62 (by decide) (by decide) (pf_x (k := 3) ((if_neg (by rw [show sOut a 0 (nI nt - 1) = false by simpa using b2i_t hy10]; decide)).trans ((if_neg (by rw [show sOut b 0 65535 = false by simpa using b2i_t hy26]; decide)).trans (if_pos (by rw [tnI hl9 (Nat.le_trans h0.b_ta (by decide)) hv9, ← hF.1 246 rfl j9]; exact hy54)))) (by decide) (by decide) ⟨_, hea ▸ h, hQ, hZr, (hF.oI rfl).oI rfl, hg⟩)
    · refine lv_aload_n hx hb dX16_print_29 rfl (lv_at hl 0 rfl) ?_
      refine lv_iconst (v := 2) hx hb dX16_print_30 (by decide) ?_
      refine cV (S := (sI S 256 0 0)) (nA := 1) (As := [.int 2]) (rest := []) X w hl h.v (m_X16_no G (sI S 256 0 0) ea ns nj nm nt nr nq h 2) wY_X16_no wM_X16_229 wIn_X16_no wSe_X16_X16_no wI_X16 (by decide) rfl (by decide +kernel) rfl rfl dX16_print_31 ⟨by decide, by decide⟩ (Nat.le_of_ble_eq_true rfl) (⟨Nat.le_of_ble_eq_true rfl, Nat.le_of_ble_eq_true rfl⟩) (fun v10 S1 H locs hp w => ?_)
      obtain ⟨rfl, rfl⟩ := hp
      have h : RI ea (sI (sI S 256 0 0) 256 0 2) ns nj nm nt nr nq := h.stI (by decide)
      have hK : Kq refU refB refR S (sI (sI S 256 0 0) 256 0 2) := hK.sI rfl
      exact rI X w rfl dX16_print_34 (by decide) (by decide) (pf_x (k := 2) ((if_neg (by rw [show sOut a 0 (nI nt - 1) = false by simpa using b2i_t hy10]; decide)).trans (if_pos (by simpa using b2i_f hy26))) (by decide) (by decide) ⟨_, hea ▸ h, hQ, hZr, (hF.oI rfl).oI rfl, hg⟩)
  · refine lv_aload_n hx hb dX16_print_13 rfl (lv_at hl 0 rfl) ?_
    refine lv_iconst (v := 1) hx hb dX16_print_14 (by decide) ?_
    refine cV (S := (sI S 256 0 0)) (nA := 1) (As := [.int 1]) (rest := []) X w hl h.v (m_X16_no G (sI S 256 0 0) ea ns nj nm nt nr nq h 1) wY_X16_no wM_X16_229 wIn_X16_no wSe_X16_X16_no wI_X16 (by decide) rfl (by decide +kernel) rfl rfl dX16_print_15 ⟨by decide, by decide⟩ (Nat.le_of_ble_eq_true rfl) (⟨Nat.le_of_ble_eq_true rfl, Nat.le_of_ble_eq_true rfl⟩) (fun v11 S1 H locs hp w => ?_)
    obtain ⟨rfl, rfl⟩ := hp
    have h : RI ea (sI (sI S 256 0 0) 256 0 1) ns nj nm nt nr nq := h.stI (by decide)
    have hK : Kq refU refB refR S (sI (sI S 256 0 0) 256 0 1) := hK.sI rfl
    exact rI X w rfl dX16_print_18 (by decide) (by decide) (pf_x (k := 1) (if_pos (by simpa using b2i_f hy10)) (by decide) (by decide) ⟨_, hea ▸ h, hQ, hZr, (hF.oI rfl).oI rfl, hg⟩)

theorem dX16_ask_0 : decode cX16_ask 0 = .ok (.aload_n 0, 1) := by decide +kernel
theorem dX16_ask_1 : decode cX16_ask 1 = .ok (.iconst 0, 1) := by decide +kernel
theorem dX16_ask_2 : decode cX16_ask 2 = .ok (.putfield 43, 3) := by decide +kernel
theorem dX16_ask_5 : decode cX16_ask 5 = .ok (.aload_n 0, 1) := by decide +kernel
theorem dX16_ask_6 : decode cX16_ask 6 = .ok (.iload_n 1, 1) := by decide +kernel
theorem dX16_ask_7 : decode cX16_ask 7 = .ok (.invokevirtual 259, 3) := by decide +kernel
theorem dX16_ask_10 : decode cX16_ask 10 = .ok (.ifCond .ne 9, 3) := by decide +kernel
theorem dX16_ask_13 : decode cX16_ask 13 = .ok (.aload_n 0, 1) := by decide +kernel
theorem dX16_ask_14 : decode cX16_ask 14 = .ok (.iconst 1, 1) := by decide +kernel
theorem dX16_ask_15 : decode cX16_ask 15 = .ok (.invokevirtual 229, 3) := by decide +kernel
theorem dX16_ask_18 : decode cX16_ask 18 = .ok (.ireturn, 1) := by decide +kernel
theorem dX16_ask_19 : decode cX16_ask 19 = .ok (.iload_n 2, 1) := by decide +kernel
theorem dX16_ask_20 : decode cX16_ask 20 = .ok (.iconst 0, 1) := by decide +kernel
theorem dX16_ask_21 : decode cX16_ask 21 = .ok (.bipush 63, 2) := by decide +kernel
theorem dX16_ask_23 : decode cX16_ask 23 = .ok (.invokestatic 224, 3) := by decide +kernel
theorem dX16_ask_26 : decode cX16_ask 26 = .ok (.ifCond .eq 13, 3) := by decide +kernel
theorem dX16_ask_29 : decode cX16_ask 29 = .ok (.iload_n 3, 1) := by decide +kernel
theorem dX16_ask_30 : decode cX16_ask 30 = .ok (.iconst 0, 1) := by decide +kernel
theorem dX16_ask_31 : decode cX16_ask 31 = .ok (.ldc 244, 2) := by decide +kernel
theorem dX16_ask_33 : decode cX16_ask 33 = .ok (.invokestatic 224, 3) := by decide +kernel
theorem dX16_ask_36 : decode cX16_ask 36 = .ok (.ifCond .ne 9, 3) := by decide +kernel
theorem dX16_ask_39 : decode cX16_ask 39 = .ok (.aload_n 0, 1) := by decide +kernel
theorem dX16_ask_40 : decode cX16_ask 40 = .ok (.iconst 2, 1) := by decide +kernel
theorem dX16_ask_41 : decode cX16_ask 41 = .ok (.invokevirtual 229, 3) := by decide +kernel
theorem dX16_ask_44 : decode cX16_ask 44 = .ok (.ireturn, 1) := by decide +kernel
theorem dX16_ask_45 : decode cX16_ask 45 = .ok (.aload_n 0, 1) := by decide +kernel
theorem dX16_ask_46 : decode cX16_ask 46 = .ok (.getfield 29, 3) := by decide +kernel
theorem dX16_ask_49 : decode cX16_ask 49 = .ok (.iload_n 1, 1) := by decide +kernel
theorem dX16_ask_50 : decode cX16_ask 50 = .ok (.invokeinterface 46 2, 5) := by decide +kernel
theorem dX16_ask_55 : decode cX16_ask 55 = .ok (.checkcast 177, 3) := by decide +kernel
theorem dX16_ask_58 : decode cX16_ask 58 = .ok (.iload_n 2, 1) := by decide +kernel
theorem dX16_ask_59 : decode cX16_ask 59 = .ok (.putfield 191, 3) := by decide +kernel
theorem dX16_ask_62 : decode cX16_ask 62 = .ok (.aload_n 0, 1) := by decide +kernel
theorem dX16_ask_63 : decode cX16_ask 63 = .ok (.getfield 29, 3) := by decide +kernel
theorem dX16_ask_66 : decode cX16_ask 66 = .ok (.iload_n 1, 1) := by decide +kernel
theorem dX16_ask_67 : decode cX16_ask 67 = .ok (.invokeinterface 46 2, 5) := by decide +kernel
theorem dX16_ask_72 : decode cX16_ask 72 = .ok (.checkcast 177, 3) := by decide +kernel
theorem dX16_ask_75 : decode cX16_ask 75 = .ok (.iload_n 3, 1) := by decide +kernel
theorem dX16_ask_76 : decode cX16_ask 76 = .ok (.putfield 194, 3) := by decide +kernel
theorem dX16_ask_79 : decode cX16_ask 79 = .ok (.iconst 0, 1) := by decide +kernel
theorem dX16_ask_80 : decode cX16_ask 80 = .ok (.istore 4, 2) := by decide +kernel
theorem dX16_ask_82 : decode cX16_ask 82 = .ok (.iconst 0, 1) := by decide +kernel
theorem dX16_ask_83 : decode cX16_ask 83 = .ok (.istore 5, 2) := by decide +kernel
theorem dX16_ask_85 : decode cX16_ask 85 = .ok (.iload 5, 2) := by decide +kernel
theorem dX16_ask_87 : decode cX16_ask 87 = .ok (.aload_n 0, 1) := by decide +kernel
theorem dX16_ask_88 : decode cX16_ask 88 = .ok (.getfield 26, 3) := by decide +kernel
theorem dX16_ask_91 : decode cX16_ask 91 = .ok (.invokeinterface 73 1, 5) := by decide +kernel
theorem dX16_ask_96 : decode cX16_ask 96 = .ok (.if_icmp .ge 88, 3) := by decide +kernel
theorem dX16_ask_99 : decode cX16_ask 99 = .ok (.iload 4, 2) := by decide +kernel
theorem dX16_ask_101 : decode cX16_ask 101 = .ok (.aload_n 0, 1) := by decide +kernel
theorem dX16_ask_102 : decode cX16_ask 102 = .ok (.getfield 26, 3) := by decide +kernel
theorem dX16_ask_105 : decode cX16_ask 105 = .ok (.iload 5, 2) := by decide +kernel
theorem dX16_ask_107 : decode cX16_ask 107 = .ok (.invokeinterface 46 2, 5) := by decide +kernel
theorem dX16_ask_112 : decode cX16_ask 112 = .ok (.checkcast 105, 3) := by decide +kernel
theorem dX16_ask_115 : decode cX16_ask 115 = .ok (.getfield 144, 3) := by decide +kernel
theorem dX16_ask_118 : decode cX16_ask 118 = .ok (.ifCond .ne 56, 3) := by decide +kernel
theorem dX16_ask_121 : decode cX16_ask 121 = .ok (.iload_n 2, 1) := by decide +kernel
theorem dX16_ask_122 : decode cX16_ask 122 = .ok (.aload_n 0, 1) := by decide +kernel
theorem dX16_ask_123 : decode cX16_ask 123 = .ok (.aload_n 0, 1) := by decide +kernel
theorem dX16_ask_124 : decode cX16_ask 124 = .ok (.getfield 26, 3) := by decide +kernel
theorem dX16_ask_127 : decode cX16_ask 127 = .ok (.iload 5, 2) := by decide +kernel
theorem dX16_ask_129 : decode cX16_ask 129 = .ok (.invokeinterface 46 2, 5) := by decide +kernel
theorem dX16_ask_134 : decode cX16_ask 134 = .ok (.checkcast 105, 3) := by decide +kernel
theorem dX16_ask_137 : decode cX16_ask 137 = .ok (.invokevirtual 141, 3) := by decide +kernel
theorem dX16_ask_140 : decode cX16_ask 140 = .ok (.invokestatic 57, 3) := by decide +kernel
theorem dX16_ask_143 : decode cX16_ask 143 = .ok (.ifCond .eq 31, 3) := by decide +kernel
theorem dX16_ask_146 : decode cX16_ask 146 = .ok (.iload_n 3, 1) := by decide +kernel
theorem dX16_ask_147 : decode cX16_ask 147 = .ok (.aload_n 0, 1) := by decide +kernel
theorem dX16_ask_148 : decode cX16_ask 148 = .ok (.getfield 26, 3) := by decide +kernel
theorem dX16_ask_151 : decode cX16_ask 151 = .ok (.iload 5, 2) := by decide +kernel
theorem dX16_ask_153 : decode cX16_ask 153 = .ok (.invokeinterface 46 2, 5) := by decide +kernel
theorem dX16_ask_158 : decode cX16_ask 158 = .ok (.checkcast 105, 3) := by decide +kernel
theorem dX16_ask_161 : decode cX16_ask 161 = .ok (.getfield 197, 3) := by decide +kernel
theorem dX16_ask_164 : decode cX16_ask 164 = .ok (.invokestatic 57, 3) := by decide +kernel
theorem dX16_ask_167 : decode cX16_ask 167 = .ok (.ifCond .eq 7, 3) := by decide +kernel
theorem dX16_ask_170 : decode cX16_ask 170 = .ok (.iconst 1, 1) := by decide +kernel
theorem dX16_ask_171 : decode cX16_ask 171 = .ok (.goto 4, 3) := by decide +kernel
theorem dX16_ask_174 : decode cX16_ask 174 = .ok (.iconst 0, 1) := by decide +kernel
theorem dX16_ask_175 : decode cX16_ask 175 = .ok (.iadd, 1) := by decide +kernel
theorem dX16_ask_176 : decode cX16_ask 176 = .ok (.istore 4, 2) := by decide +kernel
theorem dX16_ask_178 : decode cX16_ask 178 = .ok (.iinc 5 1, 3) := by decide +kernel
theorem dX16_ask_181 : decode cX16_ask 181 = .ok (.goto (-96), 3) := by decide +kernel
theorem dX16_ask_184 : decode cX16_ask 184 = .ok (.iload 4, 2) := by decide +kernel
theorem dX16_ask_186 : decode cX16_ask 186 = .ok (.ireturn, 1) := by decide +kernel
abbrev rm_m_X16_ask : Room := { frames := 4, cells := 0, slots := 0, locals := 85 }
set_option maxHeartbeats 4000000 in
set_option maxRecDepth 100000 in
theorem m_X16_ask {s0 : State} {l : Launch} {D : va_G} {cy : Nat → ClassId} (G : Gl s0 l D cy) (S : HS) (ea ns nj nm nt nr nq : Nat) (h : RI ea S ns nj nm nt nr nq) (hea : ea = eaOf s0) (hQ : QI s0 S nq nt) (hZr : Zr S) (A : HS) (g0 : Nat) (hF : RF s0 S A nq nt) (hg : mI S 257 0 = nI g0) (a b d : Int32) : Ctr s0 l D cy yX16_ask cX16_ask 6 (some .int) rm_m_X16_ask S [.ref (gG S 16 0), .int a, .int b, .int d] (PF s0 S (ns, nj, nm, nr, nt, g0, A) (asK nr a b d) (asF (asA A a.toNatClampNeg b d) a.toNatClampNeg nt) (ns, nj, nm, nr, nt, g0, asA A a.toNatClampNeg b d)) := by
  refine pro "CavershamShiftModel" G rfl rfl (Nat.le_of_ble_eq_true rfl) (fun p e s m below meth c ls X w hnm hl => ?_)
  have hx := X.1
  have hb := X.2.1
  have hown := X.2.2.2.1
  have hts := X.2.2.2.2.1
  have hl : lv_has ls 6 [(0, .ref (gG S 16 0)), (1, .int a), (2, .int b), (3, .int d)] := hl
  have h0 := h
  have hK : Kq refU refB refR S S := Kq.rf
  have hE : RE S A := hF.re
  refine lv_aload_n hx hb dX16_ask_0 rfl (lv_at hl 0 rfl) ?_
  refine lv_iconst (v := 0) hx hb dX16_ask_1 (by decide) ?_
  refine p_16_0 (S := S) (x := 0) X w h.v wF_X16_43 dX16_ask_2 (fun H locs w => ?_)
  have h : RI ea (sI S 256 0 0) ns nj nm nt nr nq := h.stI (by decide)
  have hK : Kq refU refB refR S (sI S 256 0 0) := hK.sI rfl
  refine lv_aload_n hx hb dX16_ask_5 rfl (lv_at hl 0 rfl) ?_
  refine lv_iload_n hx hb dX16_ask_6 rfl (lv_at hl 1 rfl) ?_
  refine cV (S := (sI S 256 0 0)) (nA := 1) (As := [.int a]) (rest := []) X w hl h.v (m_X16_isReader G (sI S 256 0 0) ea ns nj nm nt nr nq h a) wY_X16_isReader wM_X16_259 wIn_X16_isReader wSe_X16_X16_isReader wI_X16 (by decide) rfl (by decide +kernel) rfl rfl dX16_ask_7 ⟨by decide, by decide⟩ (Nat.le_of_ble_eq_true rfl) (⟨Nat.le_of_ble_eq_true rfl, Nat.le_of_ble_eq_true rfl⟩) (fun v1 S1 H locs hp w => ?_)
  obtain ⟨rfl, rfl⟩ := hp
  refine lv_if_ne (tgt := 19) hx hb dX16_ask_10 (by decide) (fun hy10 => ?_) (fun hy10 => ?_)
  · obtain ⟨j9, hl9, hv9⟩ := out_in (n := nr) (by have hb1 := h.b_re; omega) (by simpa using b2i_t hy10)
    rw [hv9] at hl
    refine lv_iload_n hx hb dX16_ask_19 rfl (lv_at hl 2 rfl) ?_
    refine lv_iconst (v := 0) hx hb dX16_ask_20 (by decide) ?_
    refine lv_bipush (v := 63) hx hb dX16_ask_21 (by decide) ?_
    refine cS (S := (sI S 256 0 0)) (nA := 3) (As := [.int b, .int 0, .int 63]) (rest := []) X w hl (m_X16_in G (sI S 256 0 0) b 0 63) wY_X16_in wM_X16_224 wSt_X16_in wI_X16 (by decide +kernel) rfl rfl dX16_ask_23 ⟨by decide, by decide⟩ (Nat.le_of_ble_eq_true rfl) (⟨Nat.le_of_ble_eq_true rfl, Nat.le_of_ble_eq_true rfl⟩) (fun v2 S1 H locs hp w => ?_)
    obtain ⟨rfl, rfl⟩ := hp
    refine lv_if_eq (tgt := 39) hx hb dX16_ask_26 (by decide) (fun hy26 => ?_) (fun hy26 => ?_)
    · refine lv_aload_n hx hb dX16_ask_39 rfl (lv_at hl 0 rfl) ?_
      refine lv_iconst (v := 2) hx hb dX16_ask_40 (by decide) ?_
      refine cV (S := (sI S 256 0 0)) (nA := 1) (As := [.int 2]) (rest := []) X w hl h.v (m_X16_no G (sI S 256 0 0) ea ns nj nm nt nr nq h 2) wY_X16_no wM_X16_229 wIn_X16_no wSe_X16_X16_no wI_X16 (by decide) rfl (by decide +kernel) rfl rfl dX16_ask_41 ⟨by decide, by decide⟩ (Nat.le_of_ble_eq_true rfl) (⟨Nat.le_of_ble_eq_true rfl, Nat.le_of_ble_eq_true rfl⟩) (fun v3 S1 H locs hp w => ?_)
      obtain ⟨rfl, rfl⟩ := hp
      have h : RI ea (sI (sI S 256 0 0) 256 0 2) ns nj nm nt nr nq := h.stI (by decide)
      have hK : Kq refU refB refR S (sI (sI S 256 0 0) 256 0 2) := hK.sI rfl
      exact rI X w rfl dX16_ask_44 (by decide) (by decide) (pf_x (k := 2) ((if_neg (by rw [show sOut a 0 (nI nr - 1) = false by simpa using b2i_t hy10]; decide)).trans (if_pos (by first | (rw [show sOut b 0 63 = true by simpa using b2i_f hy26]; rfl) | (rw [show sOut d 0 65535 = true by simpa using b2i_f hy36, Bool.or_true])))) (by decide) (by decide) ⟨_, hea ▸ h, hQ, hZr, (hF.oI rfl).oI rfl, hg⟩)
    · refine lv_iload_n hx hb dX16_ask_29 rfl (lv_at hl 3 rfl) ?_
      refine lv_iconst (v := 0) hx hb dX16_ask_30 (by decide) ?_
      refine lv_ldc hx hb hown (hts _ wK_X16_244) dX16_ask_31 ?_
      refine cS (S := (sI S 256 0 0)) (nA := 3) (As := [.int d, .int 0, .int 65535]) (rest := []) X w hl (m_X16_in G (sI S 256 0 0) d 0 65535) wY_X16_in wM_X16_224 wSt_X16_in wI_X16 (by decide +kernel) rfl rfl dX16_ask_33 ⟨by decide, by decide⟩ (Nat.le_of_ble_eq_true rfl) (⟨Nat.le_of_ble_eq_true rfl, Nat.le_of_ble_eq_true rfl⟩) (fun v4 S1 H locs hp w => ?_)
      obtain ⟨rfl, rfl⟩ := hp
      refine lv_if_ne (tgt := 45) hx hb dX16_ask_36 (by decide) (fun hy36 => ?_) (fun hy36 => ?_)
      · refine lv_aload_n hx hb dX16_ask_45 rfl (lv_at hl 0 rfl) ?_
        refine g_16_10 (S := (sI S 256 0 0)) (x := (some (gG (sI S 256 0 0) 17 10))) X w h.v wF_X16_29 (h.f_re) dX16_ask_46 ?_
        refine lv_iload_n hx hb dX16_ask_49 rfl (lv_at hl 1 rfl) ?_
        refine cF (S := (sI S 256 0 0)) (t := 17) (nA := 1) (As := [.int (nI j9)]) (rest := []) X w hl h.l_re.1 (m_get G (sI S 256 0 0) ea 10 j9 nr (some (gG (sI S 256 0 0) 13 j9)) h.l_re hl9 (h.e_re j9 hl9).1) wY_Jx4a65c_get_915e3 wM_X16_46 wIn_Jx4a65c_get_915e3 wSe_Jx4a65c_Jx4a65c_get_915e3_of_java_util_List_get__I_Ljava_lang_Object_ wI_Jx4a65c fw_get (by decide) rfl (by decide +kernel) rfl rfl dX16_ask_50 ⟨by decide, by decide⟩ (Nat.le_of_ble_eq_true rfl) (⟨Nat.le_of_ble_eq_true rfl, Nat.le_of_ble_eq_true rfl⟩) (fun v5 S1 H locs hp w => ?_)
        obtain ⟨rfl, rfl⟩ := hp
        refine ckC (S := (sI S 256 0 0)) (t := 13) X w (h.e_re j9 hl9).2.1 (by decide) rfl wC_X16_177 dX16_ask_55 ?_
        refine lv_iload_n hx hb dX16_ask_58 rfl (lv_at hl 2 rfl) ?_
        refine p_13_0 (S := (sI S 256 0 0)) (x := b) X w (h.e_re j9 hl9).2.1 wF_X16_191 dX16_ask_59 (fun H locs w => ?_)
        have h : RI ea (sI (sI S 256 0 0) 208 j9 b) ns nj nm nt nr nq := h.stI (by decide)
        have hK : Kq refU refB refR S (sI (sI S 256 0 0) 208 j9 b) := hK.sI rfl
        have hF2 : RF s0 (sI (sI S 256 0 0) 208 j9 b) (sI A 208 j9 b) nq nt := (hF.oI rfl).bI
        refine lv_aload_n hx hb dX16_ask_62 rfl (lv_at hl 0 rfl) ?_
        refine g_16_10 (S := (sI (sI S 256 0 0) 208 j9 b)) (x := (some (gG (sI (sI S 256 0 0) 208 j9 b) 17 10))) X w h.v wF_X16_29 (h.f_re) dX16_ask_63 ?_
        refine lv_iload_n hx hb dX16_ask_66 rfl (lv_at hl 1 rfl) ?_
        refine cF (S := (sI (sI S 256 0 0) 208 j9 b)) (t := 17) (nA := 1) (As := [.int (nI j9)]) (rest := []) X w hl h.l_re.1 (m_get G (sI (sI S 256 0 0) 208 j9 b) ea 10 j9 nr (some (gG (sI (sI S 256 0 0) 208 j9 b) 13 j9)) h.l_re hl9 (h.e_re j9 hl9).1) wY_Jx4a65c_get_915e3 wM_X16_46 wIn_Jx4a65c_get_915e3 wSe_Jx4a65c_Jx4a65c_get_915e3_of_java_util_List_get__I_Ljava_lang_Object_ wI_Jx4a65c fw_get (by decide) rfl (by decide +kernel) rfl rfl dX16_ask_67 ⟨by decide, by decide⟩ (Nat.le_of_ble_eq_true rfl) (⟨Nat.le_of_ble_eq_true rfl, Nat.le_of_ble_eq_true rfl⟩) (fun v6 S1 H locs hp w => ?_)
        obtain ⟨rfl, rfl⟩ := hp
        refine ckC (S := (sI (sI S 256 0 0) 208 j9 b)) (t := 13) X w (h.e_re j9 hl9).2.1 (by decide) rfl wC_X16_177 dX16_ask_72 ?_
        refine lv_iload_n hx hb dX16_ask_75 rfl (lv_at hl 3 rfl) ?_
        refine p_13_1 (S := (sI (sI S 256 0 0) 208 j9 b)) (x := d) X w (h.e_re j9 hl9).2.1 wF_X16_194 dX16_ask_76 (fun H locs w => ?_)
        have h : RI ea (sI (sI (sI S 256 0 0) 208 j9 b) 209 j9 d) ns nj nm nt nr nq := h.stI (by decide)
        have hK : Kq refU refB refR S (sI (sI (sI S 256 0 0) 208 j9 b) 209 j9 d) := hK.sI rfl
        have hF3 : RF s0 (sI (sI (sI S 256 0 0) 208 j9 b) 209 j9 d) (asA A j9 b d) nq nt := hF2.bI
        refine lv_iconst (v := 0) hx hb dX16_ask_79 (by decide) ?_
        refine lv_istore (lv' := [(4, .int 0), (0, .ref (gG S 16 0)), (1, .int (nI j9)), (2, .int b), (3, .int d)]) hx hb dX16_ask_80 hl (by decide) rfl (fun ls hl => ?_)
        refine lv_iconst (v := 0) hx hb dX16_ask_82 (by decide) ?_
        refine lv_istore (lv' := [(5, .int 0), (4, .int 0), (0, .ref (gG S 16 0)), (1, .int (nI j9)), (2, .int b), (3, .int d)]) hx hb dX16_ask_83 hl (by decide) rfl (fun ls hl => ?_)
        have L85 : ∀ (N : Nat) (k85 : Nat) (y : Int32) (H : Heap) (locs : List Loc) (ls : Array Slot), nt - k85 < N → (k85 ≤ nt) → (y = rCnt (fun k => decide (mI A 247 k = 0) && (sIn b (mI A 226 (tS A k)) && sIn d (mI A 242 k))) k85) → Wd s0 D cy (sI (sI (sI S 256 0 0) 208 j9 b) 209 j9 d) s.heap H locs → lv_has ls 6 [(0, .ref (gG S 16 0)), (1, .int (nI j9)), (2, .int b), (3, .int d), (4, .int y), (5, .int (nI k85))] → W p l e rm_m_X16_ask s m ([.ref (gG S 16 0), .int a, .int b, .int d] : List Value).toArray below meth c H locs 0 0 (MQ below (GQ s0 D cy (PF s0 S (ns, nj, nm, nr, nt, g0, A) (asK nr a b d) (asF (asA A a.toNatClampNeg b d) a.toNatClampNeg nt) (ns, nj, nm, nr, nt, g0, asA A a.toNatClampNeg b d))) ([.ref (gG S 16 0), .int a, .int b, .int d] : List Value).toArray s rm_m_X16_ask.cells rm_m_X16_ask.slots (A0 s0)) (F0 m 85 ls []) := by
          intro N
          induction N with
          | zero => intros; omega
          | succ N ih85 =>
            intro k85 y H locs ls hmu hk hy w hl
            refine lv_iload hx hb dX16_ask_85 (lv_at hl 5 rfl) ?_
            refine lv_aload_n hx hb dX16_ask_87 rfl (lv_at hl 0 rfl) ?_
            refine g_16_9 (S := (sI (sI (sI S 256 0 0) 208 j9 b) 209 j9 d)) (x := (some (gG (sI (sI (sI S 256 0 0) 208 j9 b) 209 j9 d) 17 9))) X w h.v wF_X16_26 (h.f_ta) dX16_ask_88 ?_
            refine cF (S := (sI (sI (sI S 256 0 0) 208 j9 b) 209 j9 d)) (t := 17) (nA := 0) (As := []) (rest := [.int (nI k85)]) X w hl h.l_ta.1 (m_size G (sI (sI (sI S 256 0 0) 208 j9 b) 209 j9 d) ea 9 nt h.l_ta) wY_Jx4a65c_size_8abf5 wM_X16_73 wIn_Jx4a65c_size_8abf5 wSe_Jx4a65c_Jx4a65c_size_8abf5_of_java_util_List_size___I wI_Jx4a65c fw_size (by decide) rfl (by decide +kernel) rfl rfl dX16_ask_91 ⟨by decide, by decide⟩ (Nat.le_of_ble_eq_true rfl) (⟨Nat.le_of_ble_eq_true rfl, Nat.le_of_ble_eq_true rfl⟩) (fun v7 S1 H locs hp w => ?_)
            obtain ⟨rfl, rfl⟩ := hp
            refine lv_icmp_ge (tgt := 184) hx hb dX16_ask_96 (by decide) (fun hy96 => ?_) (fun hy96 => ?_)
            · have hge : nt ≤ k85 := by
                have hb1 := h.b_ta
                exact (nI_leI (by omega) (by omega)).mp hy96
              refine lv_iload hx hb dX16_ask_184 (lv_at hl 4 rfl) ?_
              exact rI X w rfl dX16_ask_186 (by decide) (by decide) (Or.inr ⟨(if_neg (by rw [show sOut a 0 (nI nr - 1) = false by simpa using b2i_t hy10]; decide)).trans (if_neg (by rw [show sOut b 0 63 = false by simpa using b2i_t hy26, show sOut d 0 65535 = false by simpa using b2i_t hy36]; decide)), by rw [tnI hl9 (Nat.le_trans h0.b_re (by decide)) hv9, as_c, hy, show k85 = nt by omega], ⟨_, hea ▸ h, hQ, hZr, (by rw [tnI hl9 (Nat.le_trans h0.b_re (by decide)) hv9]; exact hF3), hg⟩, hK, rfl⟩)
            · have hlt : k85 < nt := by
                have hb1 := h.b_ta
                exact Nat.lt_of_not_le (fun z => hy96 ((nI_leI (by omega) (by omega)).mpr z))
              refine lv_iload hx hb dX16_ask_99 (lv_at hl 4 rfl) ?_
              refine lv_aload_n hx hb dX16_ask_101 rfl (lv_at hl 0 rfl) ?_
              refine g_16_9 (S := (sI (sI (sI S 256 0 0) 208 j9 b) 209 j9 d)) (x := (some (gG (sI (sI (sI S 256 0 0) 208 j9 b) 209 j9 d) 17 9))) X w h.v wF_X16_26 (h.f_ta) dX16_ask_102 ?_
              refine lv_iload hx hb dX16_ask_105 (lv_at hl 5 rfl) ?_
              refine cF (S := (sI (sI (sI S 256 0 0) 208 j9 b) 209 j9 d)) (t := 17) (nA := 1) (As := [.int (nI k85)]) (rest := [.int y]) X w hl h.l_ta.1 (m_get G (sI (sI (sI S 256 0 0) 208 j9 b) 209 j9 d) ea 9 k85 nt (some (gG (sI (sI (sI S 256 0 0) 208 j9 b) 209 j9 d) 15 k85)) h.l_ta hlt (h.e_ta k85 hlt).1) wY_Jx4a65c_get_915e3 wM_X16_46 wIn_Jx4a65c_get_915e3 wSe_Jx4a65c_Jx4a65c_get_915e3_of_java_util_List_get__I_Ljava_lang_Object_ wI_Jx4a65c fw_get (by decide) rfl (by decide +kernel) rfl rfl dX16_ask_107 ⟨by decide, by decide⟩ (Nat.le_of_ble_eq_true rfl) (⟨Nat.le_of_ble_eq_true rfl, Nat.le_of_ble_eq_true rfl⟩) (fun v8 S1 H locs hp w => ?_)
              obtain ⟨rfl, rfl⟩ := hp
              refine ckC (S := (sI (sI (sI S 256 0 0) 208 j9 b) 209 j9 d)) (t := 15) X w (h.e_ta k85 hlt).2 (by decide) rfl wC_X16_105 dX16_ask_112 ?_
              refine g_15_7 (S := (sI (sI (sI S 256 0 0) 208 j9 b) 209 j9 d)) (x := (mI A 247 k85)) X w (h.e_ta k85 hlt).2 wF_X16_144 (hF.1 247 rfl k85) dX16_ask_115 ?_
              refine lv_if_ne (tgt := 174) hx hb dX16_ask_118 (by decide) (fun h118 => ?_) (fun h118 => ?_)
              · have hs : y + 0 = rCnt (fun k => decide (mI A 247 k = 0) && (sIn b (mI A 226 (tS A k)) && sIn d (mI A 242 k))) (k85 + 1) := cnt_s0 (fun k => decide (mI A 247 k = 0) && (sIn b (mI A 226 (tS A k)) && sIn d (mI A 242 k))) hy (by show (_ && (_ && _)) = false; rw [decide_eq_false h118]; rfl)
                refine lv_iconst (v := 0) hx hb dX16_ask_174 (by decide) ?_
                refine lv_iadd hx hb dX16_ask_175 ?_
                refine lv_istore (lv' := [(4, .int (y + 0)), (0, .ref (gG S 16 0)), (1, .int (nI j9)), (2, .int b), (3, .int d), (5, .int (nI k85))]) hx hb dX16_ask_176 hl (by decide) rfl (fun ls hl => ?_)
                refine lv_iinc (v := nI (k85 + 1)) (lv' := [(5, .int (nI (k85 + 1))), (4, .int (y + 0)), (0, .ref (gG S 16 0)), (1, .int (nI j9)), (2, .int b), (3, .int d)]) hx hb dX16_ask_178 hl (k := 5) rfl (nI_1 _) (by decide) rfl (fun ls hl => ?_)
                refine lv_goto (tgt := 85) hx hb dX16_ask_181 (by decide) ?_
                exact ih85 (k85 + 1) (y + 0) _ _ _ (by omega) (by omega) (hs) w (lv_sub hl [2, 3, 4, 5, 1, 0] rfl)
              · refine lv_iload_n hx hb dX16_ask_121 rfl (lv_at hl 2 rfl) ?_
                refine lv_aload_n hx hb dX16_ask_122 rfl (lv_at hl 0 rfl) ?_
                refine lv_aload_n hx hb dX16_ask_123 rfl (lv_at hl 0 rfl) ?_
                refine g_16_9 (S := (sI (sI (sI S 256 0 0) 208 j9 b) 209 j9 d)) (x := (some (gG (sI (sI (sI S 256 0 0) 208 j9 b) 209 j9 d) 17 9))) X w h.v wF_X16_26 (h.f_ta) dX16_ask_124 ?_
                refine lv_iload hx hb dX16_ask_127 (lv_at hl 5 rfl) ?_
                refine cF (S := (sI (sI (sI S 256 0 0) 208 j9 b) 209 j9 d)) (t := 17) (nA := 1) (As := [.int (nI k85)]) (rest := [.ref (gG S 16 0), .int b, .int y]) X w hl h.l_ta.1 (m_get G (sI (sI (sI S 256 0 0) 208 j9 b) 209 j9 d) ea 9 k85 nt (some (gG (sI (sI (sI S 256 0 0) 208 j9 b) 209 j9 d) 15 k85)) h.l_ta hlt (h.e_ta k85 hlt).1) wY_Jx4a65c_get_915e3 wM_X16_46 wIn_Jx4a65c_get_915e3 wSe_Jx4a65c_Jx4a65c_get_915e3_of_java_util_List_get__I_Ljava_lang_Object_ wI_Jx4a65c fw_get (by decide) rfl (by decide +kernel) rfl rfl dX16_ask_129 ⟨by decide, by decide⟩ (Nat.le_of_ble_eq_true rfl) (⟨Nat.le_of_ble_eq_true rfl, Nat.le_of_ble_eq_true rfl⟩) (fun v9 S1 H locs hp w => ?_)
                obtain ⟨rfl, rfl⟩ := hp
                refine ckC (S := (sI (sI (sI S 256 0 0) 208 j9 b) 209 j9 d)) (t := 15) X w (h.e_ta k85 hlt).2 (by decide) rfl wC_X16_105 dX16_ask_134 ?_
                refine cV (S := (sI (sI (sI S 256 0 0) 208 j9 b) 209 j9 d)) (nA := 1) (As := [.ref (gG (sI (sI (sI S 256 0 0) 208 j9 b) 209 j9 d) 15 k85)]) (rest := [.int b, .int y]) X w hl h.v (m_X16_landOf G (sI (sI (sI S 256 0 0) 208 j9 b) 209 j9 d) ea ns nj nm nt nr nq h k85 hlt) wY_X16_landOf wM_X16_141 wIn_X16_landOf wSe_X16_X16_landOf wI_X16 (by decide) rfl (by decide +kernel) rfl rfl dX16_ask_137 ⟨by decide, by decide⟩ (Nat.le_of_ble_eq_true rfl) (⟨Nat.le_of_ble_eq_true rfl, Nat.le_of_ble_eq_true rfl⟩) (fun v10 S1 H locs hp w => ?_)
                obtain ⟨rfl, rfl⟩ := hp
                refine lv_topi (fun z11 ez11 => ?_)
                obtain rfl : z11 = (mI A 226 (tS A k85)) := ez11.trans (by show mI S 226 (tS S k85) = _; rw [hF.tSq]; exact hF.1 226 rfl _)
                refine cS (S := (sI (sI (sI S 256 0 0) 208 j9 b) 209 j9 d)) (nA := 2) (As := [.int b, .int (mI A 226 (tS A k85))]) (rest := [.int y]) X w hl (m_X16_has G (sI (sI (sI S 256 0 0) 208 j9 b) 209 j9 d) b (mI A 226 (tS A k85))) wY_X16_has wM_X16_57 wSt_X16_has wI_X16 (by decide +kernel) rfl rfl dX16_ask_140 ⟨by decide, by decide⟩ (Nat.le_of_ble_eq_true rfl) (⟨Nat.le_of_ble_eq_true rfl, Nat.le_of_ble_eq_true rfl⟩) (fun v12 S1 H locs hp w => ?_)
                obtain ⟨rfl, rfl⟩ := hp
                refine lv_if_eq (tgt := 174) hx hb dX16_ask_143 (by decide) (fun h143 => ?_) (fun h143 => ?_)
                · have hs : y + 0 = rCnt (fun k => decide (mI A 247 k = 0) && (sIn b (mI A 226 (tS A k)) && sIn d (mI A 242 k))) (k85 + 1) := cnt_s0 (fun k => decide (mI A 247 k = 0) && (sIn b (mI A 226 (tS A k)) && sIn d (mI A 242 k))) hy (by show (_ && (_ && _)) = false; rw [b2i_f h143, Bool.false_and, Bool.and_false])
                  refine lv_iconst (v := 0) hx hb dX16_ask_174 (by decide) ?_
                  refine lv_iadd hx hb dX16_ask_175 ?_
                  refine lv_istore (lv' := [(4, .int (y + 0)), (0, .ref (gG S 16 0)), (1, .int (nI j9)), (2, .int b), (3, .int d), (5, .int (nI k85))]) hx hb dX16_ask_176 hl (by decide) rfl (fun ls hl => ?_)
                  refine lv_iinc (v := nI (k85 + 1)) (lv' := [(5, .int (nI (k85 + 1))), (4, .int (y + 0)), (0, .ref (gG S 16 0)), (1, .int (nI j9)), (2, .int b), (3, .int d)]) hx hb dX16_ask_178 hl (k := 5) rfl (nI_1 _) (by decide) rfl (fun ls hl => ?_)
                  refine lv_goto (tgt := 85) hx hb dX16_ask_181 (by decide) ?_
                  exact ih85 (k85 + 1) (y + 0) _ _ _ (by omega) (by omega) (hs) w (lv_sub hl [2, 3, 4, 5, 1, 0] rfl)
                · refine lv_iload_n hx hb dX16_ask_146 rfl (lv_at hl 3 rfl) ?_
                  refine lv_aload_n hx hb dX16_ask_147 rfl (lv_at hl 0 rfl) ?_
                  refine g_16_9 (S := (sI (sI (sI S 256 0 0) 208 j9 b) 209 j9 d)) (x := (some (gG (sI (sI (sI S 256 0 0) 208 j9 b) 209 j9 d) 17 9))) X w h.v wF_X16_26 (h.f_ta) dX16_ask_148 ?_
                  refine lv_iload hx hb dX16_ask_151 (lv_at hl 5 rfl) ?_
                  refine cF (S := (sI (sI (sI S 256 0 0) 208 j9 b) 209 j9 d)) (t := 17) (nA := 1) (As := [.int (nI k85)]) (rest := [.int d, .int y]) X w hl h.l_ta.1 (m_get G (sI (sI (sI S 256 0 0) 208 j9 b) 209 j9 d) ea 9 k85 nt (some (gG (sI (sI (sI S 256 0 0) 208 j9 b) 209 j9 d) 15 k85)) h.l_ta hlt (h.e_ta k85 hlt).1) wY_Jx4a65c_get_915e3 wM_X16_46 wIn_Jx4a65c_get_915e3 wSe_Jx4a65c_Jx4a65c_get_915e3_of_java_util_List_get__I_Ljava_lang_Object_ wI_Jx4a65c fw_get (by decide) rfl (by decide +kernel) rfl rfl dX16_ask_153 ⟨by decide, by decide⟩ (Nat.le_of_ble_eq_true rfl) (⟨Nat.le_of_ble_eq_true rfl, Nat.le_of_ble_eq_true rfl⟩) (fun v13 S1 H locs hp w => ?_)
                  obtain ⟨rfl, rfl⟩ := hp
                  refine ckC (S := (sI (sI (sI S 256 0 0) 208 j9 b) 209 j9 d)) (t := 15) X w (h.e_ta k85 hlt).2 (by decide) rfl wC_X16_105 dX16_ask_158 ?_
                  refine g_15_2 (S := (sI (sI (sI S 256 0 0) 208 j9 b) 209 j9 d)) (x := (mI A 242 k85)) X w (h.e_ta k85 hlt).2 wF_X16_197 (hF.1 242 rfl k85) dX16_ask_161 ?_
                  refine cS (S := (sI (sI (sI S 256 0 0) 208 j9 b) 209 j9 d)) (nA := 2) (As := [.int d, .int (mI A 242 k85)]) (rest := [.int y]) X w hl (m_X16_has G (sI (sI (sI S 256 0 0) 208 j9 b) 209 j9 d) d (mI A 242 k85)) wY_X16_has wM_X16_57 wSt_X16_has wI_X16 (by decide +kernel) rfl rfl dX16_ask_164 ⟨by decide, by decide⟩ (Nat.le_of_ble_eq_true rfl) (⟨Nat.le_of_ble_eq_true rfl, Nat.le_of_ble_eq_true rfl⟩) (fun v14 S1 H locs hp w => ?_)
                  obtain ⟨rfl, rfl⟩ := hp
                  refine lv_if_eq (tgt := 174) hx hb dX16_ask_167 (by decide) (fun h167 => ?_) (fun h167 => ?_)
                  · have hs : y + 0 = rCnt (fun k => decide (mI A 247 k = 0) && (sIn b (mI A 226 (tS A k)) && sIn d (mI A 242 k))) (k85 + 1) := cnt_s0 (fun k => decide (mI A 247 k = 0) && (sIn b (mI A 226 (tS A k)) && sIn d (mI A 242 k))) hy (by show (_ && (_ && _)) = false; rw [b2i_f h167, Bool.and_false, Bool.and_false])
                    refine lv_iconst (v := 0) hx hb dX16_ask_174 (by decide) ?_
                    refine lv_iadd hx hb dX16_ask_175 ?_
                    refine lv_istore (lv' := [(4, .int (y + 0)), (0, .ref (gG S 16 0)), (1, .int (nI j9)), (2, .int b), (3, .int d), (5, .int (nI k85))]) hx hb dX16_ask_176 hl (by decide) rfl (fun ls hl => ?_)
                    refine lv_iinc (v := nI (k85 + 1)) (lv' := [(5, .int (nI (k85 + 1))), (4, .int (y + 0)), (0, .ref (gG S 16 0)), (1, .int (nI j9)), (2, .int b), (3, .int d)]) hx hb dX16_ask_178 hl (k := 5) rfl (nI_1 _) (by decide) rfl (fun ls hl => ?_)
                    refine lv_goto (tgt := 85) hx hb dX16_ask_181 (by decide) ?_
                    exact ih85 (k85 + 1) (y + 0) _ _ _ (by omega) (by omega) (hs) w (lv_sub hl [2, 3, 4, 5, 1, 0] rfl)
                  · have hs : y + 1 = rCnt (fun k => decide (mI A 247 k = 0) && (sIn b (mI A 226 (tS A k)) && sIn d (mI A 242 k))) (k85 + 1) := cnt_s1 (fun k => decide (mI A 247 k = 0) && (sIn b (mI A 226 (tS A k)) && sIn d (mI A 242 k))) hy (by show (_ && (_ && _)) = true; rw [decide_eq_true h118, b2i_t h143, b2i_t h167]; rfl)
                    refine lv_iconst (v := 1) hx hb dX16_ask_170 (by decide) ?_
                    refine lv_goto (tgt := 175) hx hb dX16_ask_171 (by decide) ?_
                    refine lv_iadd hx hb dX16_ask_175 ?_
                    refine lv_istore (lv' := [(4, .int (y + 1)), (0, .ref (gG S 16 0)), (1, .int (nI j9)), (2, .int b), (3, .int d), (5, .int (nI k85))]) hx hb dX16_ask_176 hl (by decide) rfl (fun ls hl => ?_)
                    refine lv_iinc (v := nI (k85 + 1)) (lv' := [(5, .int (nI (k85 + 1))), (4, .int (y + 1)), (0, .ref (gG S 16 0)), (1, .int (nI j9)), (2, .int b), (3, .int d)]) hx hb dX16_ask_178 hl (k := 5) rfl (nI_1 _) (by decide) rfl (fun ls hl => ?_)
                    refine lv_goto (tgt := 85) hx hb dX16_ask_181 (by decide) ?_
                    exact ih85 (k85 + 1) (y + 1) _ _ _ (by omega) (by omega) (hs) w (lv_sub hl [2, 3, 4, 5, 1, 0] rfl)
        exact L85 _ 0 0 _ _ _ (Nat.lt_succ_self _) (by omega) (rfl) w (lv_sub hl [2, 3, 4, 5, 1, 0] rfl)
      · refine lv_aload_n hx hb dX16_ask_39 rfl (lv_at hl 0 rfl) ?_
        refine lv_iconst (v := 2) hx hb dX16_ask_40 (by decide) ?_
        refine cV (S := (sI S 256 0 0)) (nA := 1) (As := [.int 2]) (rest := []) X w hl h.v (m_X16_no G (sI S 256 0 0) ea ns nj nm nt nr nq h 2) wY_X16_no wM_X16_229 wIn_X16_no wSe_X16_X16_no wI_X16 (by decide) rfl (by decide +kernel) rfl rfl dX16_ask_41 ⟨by decide, by decide⟩ (Nat.le_of_ble_eq_true rfl) (⟨Nat.le_of_ble_eq_true rfl, Nat.le_of_ble_eq_true rfl⟩) (fun v15 S1 H locs hp w => ?_)
        obtain ⟨rfl, rfl⟩ := hp
        have h : RI ea (sI (sI S 256 0 0) 256 0 2) ns nj nm nt nr nq := h.stI (by decide)
        have hK : Kq refU refB refR S (sI (sI S 256 0 0) 256 0 2) := hK.sI rfl
        exact rI X w rfl dX16_ask_44 (by decide) (by decide) (pf_x (k := 2) ((if_neg (by rw [show sOut a 0 (nI nr - 1) = false by simpa using b2i_t hy10]; decide)).trans (if_pos (by first | (rw [show sOut b 0 63 = true by simpa using b2i_f hy26]; rfl) | (rw [show sOut d 0 65535 = true by simpa using b2i_f hy36, Bool.or_true])))) (by decide) (by decide) ⟨_, hea ▸ h, hQ, hZr, (hF.oI rfl).oI rfl, hg⟩)
  · refine lv_aload_n hx hb dX16_ask_13 rfl (lv_at hl 0 rfl) ?_
    refine lv_iconst (v := 1) hx hb dX16_ask_14 (by decide) ?_
    refine cV (S := (sI S 256 0 0)) (nA := 1) (As := [.int 1]) (rest := []) X w hl h.v (m_X16_no G (sI S 256 0 0) ea ns nj nm nt nr nq h 1) wY_X16_no wM_X16_229 wIn_X16_no wSe_X16_X16_no wI_X16 (by decide) rfl (by decide +kernel) rfl rfl dX16_ask_15 ⟨by decide, by decide⟩ (Nat.le_of_ble_eq_true rfl) (⟨Nat.le_of_ble_eq_true rfl, Nat.le_of_ble_eq_true rfl⟩) (fun v16 S1 H locs hp w => ?_)
    obtain ⟨rfl, rfl⟩ := hp
    have h : RI ea (sI (sI S 256 0 0) 256 0 1) ns nj nm nt nr nq := h.stI (by decide)
    have hK : Kq refU refB refR S (sI (sI S 256 0 0) 256 0 1) := hK.sI rfl
    exact rI X w rfl dX16_ask_18 (by decide) (by decide) (pf_x (k := 1) (if_pos (by simpa using b2i_f hy10)) (by decide) (by decide) ⟨_, hea ▸ h, hQ, hZr, (hF.oI rfl).oI rfl, hg⟩)

theorem dX16_call_0 : decode cX16_call 0 = .ok (.aload_n 0, 1) := by decide +kernel
theorem dX16_call_1 : decode cX16_call 1 = .ok (.iconst 0, 1) := by decide +kernel
theorem dX16_call_2 : decode cX16_call 2 = .ok (.putfield 43, 3) := by decide +kernel
theorem dX16_call_5 : decode cX16_call 5 = .ok (.aload_n 0, 1) := by decide +kernel
theorem dX16_call_6 : decode cX16_call 6 = .ok (.dup, 1) := by decide +kernel
theorem dX16_call_7 : decode cX16_call 7 = .ok (.getfield 264, 3) := by decide +kernel
theorem dX16_call_10 : decode cX16_call 10 = .ok (.iconst 1, 1) := by decide +kernel
theorem dX16_call_11 : decode cX16_call 11 = .ok (.iadd, 1) := by decide +kernel
theorem dX16_call_12 : decode cX16_call 12 = .ok (.putfield 264, 3) := by decide +kernel
theorem dX16_call_15 : decode cX16_call 15 = .ok (.aload_n 0, 1) := by decide +kernel
theorem dX16_call_16 : decode cX16_call 16 = .ok (.getfield 264, 3) := by decide +kernel
theorem dX16_call_19 : decode cX16_call 19 = .ok (.ireturn, 1) := by decide +kernel
abbrev rm_m_X16_call : Room := { frames := 0, cells := 0, slots := 0, locals := 0 }
set_option maxHeartbeats 4000000 in
set_option maxRecDepth 100000 in
theorem m_X16_call {s0 : State} {l : Launch} {D : va_G} {cy : Nat → ClassId} (G : Gl s0 l D cy) (S : HS) (ea ns nj nm nt nr nq : Nat) (h : RI ea S ns nj nm nt nr nq)  : Ctr s0 l D cy yX16_call cX16_call 1 (some .int) rm_m_X16_call S [.ref (gG S 16 0)] (fun v S' => some (.int (mI S 260 0 + 1)) = v ∧ S' = sI (sI S 256 0 0) 260 0 (mI S 260 0 + 1)) := by
  refine pro "CavershamShiftModel" G rfl rfl (Nat.le_of_ble_eq_true rfl) (fun p e s m below meth c ls X w hnm hl => ?_)
  have hx := X.1
  have hb := X.2.1
  have hown := X.2.2.2.1
  have hts := X.2.2.2.2.1
  have hl : lv_has ls 1 [(0, .ref (gG S 16 0))] := hl
  have h0 := h
  have hK : Kq refV refI refR S S := Kq.rf
  refine lv_aload_n hx hb dX16_call_0 rfl (lv_at hl 0 rfl) ?_
  refine lv_iconst (v := 0) hx hb dX16_call_1 (by decide) ?_
  refine p_16_0 (S := S) (x := 0) X w h.v wF_X16_43 dX16_call_2 (fun H locs w => ?_)
  have h : RI ea (sI S 256 0 0) ns nj nm nt nr nq := h.stI (by decide)
  have hK : Kq refV refI refR S (sI S 256 0 0) := hK.sI rfl
  refine lv_aload_n hx hb dX16_call_5 rfl (lv_at hl 0 rfl) ?_
  refine lv_dup hx hb dX16_call_6 rfl ?_
  refine g_16_4 (S := (sI S 256 0 0)) (x := (mI S 260 0)) X w h.v wF_X16_264 (rfl) dX16_call_7 ?_
  refine lv_iconst (v := 1) hx hb dX16_call_10 (by decide) ?_
  refine lv_iadd hx hb dX16_call_11 ?_
  refine p_16_4 (S := (sI S 256 0 0)) (x := ((mI S 260 0) + 1)) X w h.v wF_X16_264 dX16_call_12 (fun H locs w => ?_)
  refine lv_aload_n hx hb dX16_call_15 rfl (lv_at hl 0 rfl) ?_
  refine g_16_4 (S := (sI (sI S 256 0 0) 260 0 ((mI S 260 0) + 1))) (x := (mI S 260 0 + 1)) X w h.v wF_X16_264 (rfl) dX16_call_16 ?_
  exact rI X w rfl dX16_call_19 (by decide) (by decide) (⟨rfl, rfl⟩)

theorem dX16_pass_0 : decode cX16_pass 0 = .ok (.aload_n 0, 1) := by decide +kernel
theorem dX16_pass_1 : decode cX16_pass 1 = .ok (.iconst 0, 1) := by decide +kernel
theorem dX16_pass_2 : decode cX16_pass 2 = .ok (.putfield 43, 3) := by decide +kernel
theorem dX16_pass_5 : decode cX16_pass 5 = .ok (.iload_n 1, 1) := by decide +kernel
theorem dX16_pass_6 : decode cX16_pass 6 = .ok (.iconst 1, 1) := by decide +kernel
theorem dX16_pass_7 : decode cX16_pass 7 = .ok (.bipush 48, 2) := by decide +kernel
theorem dX16_pass_9 : decode cX16_pass 9 = .ok (.invokestatic 224, 3) := by decide +kernel
theorem dX16_pass_12 : decode cX16_pass 12 = .ok (.ifCond .ne 9, 3) := by decide +kernel
theorem dX16_pass_15 : decode cX16_pass 15 = .ok (.aload_n 0, 1) := by decide +kernel
theorem dX16_pass_16 : decode cX16_pass 16 = .ok (.iconst 1, 1) := by decide +kernel
theorem dX16_pass_17 : decode cX16_pass 17 = .ok (.invokevirtual 229, 3) := by decide +kernel
theorem dX16_pass_20 : decode cX16_pass 20 = .ok (.ireturn, 1) := by decide +kernel
theorem dX16_pass_21 : decode cX16_pass 21 = .ok (.aload_n 0, 1) := by decide +kernel
theorem dX16_pass_22 : decode cX16_pass 22 = .ok (.getfield 125, 3) := by decide +kernel
theorem dX16_pass_25 : decode cX16_pass 25 = .ok (.iload_n 1, 1) := by decide +kernel
theorem dX16_pass_26 : decode cX16_pass 26 = .ok (.iadd, 1) := by decide +kernel
theorem dX16_pass_27 : decode cX16_pass 27 = .ok (.sipush 720, 3) := by decide +kernel
theorem dX16_pass_30 : decode cX16_pass 30 = .ok (.if_icmp .le 9, 3) := by decide +kernel
theorem dX16_pass_33 : decode cX16_pass 33 = .ok (.aload_n 0, 1) := by decide +kernel
theorem dX16_pass_34 : decode cX16_pass 34 = .ok (.iconst 2, 1) := by decide +kernel
theorem dX16_pass_35 : decode cX16_pass 35 = .ok (.invokevirtual 229, 3) := by decide +kernel
theorem dX16_pass_38 : decode cX16_pass 38 = .ok (.ireturn, 1) := by decide +kernel
abbrev rm_m_X16_pass_x : Room := { frames := 1, cells := 0, slots := 0, locals := 22 }
set_option maxHeartbeats 4000000 in
set_option maxRecDepth 100000 in
theorem m_X16_pass_x {s0 : State} {l : Launch} {D : va_G} {cy : Nat → ClassId} (G : Gl s0 l D cy) (S : HS) (ea ns nj nm nt nr nq : Nat) (h : RI ea S ns nj nm nt nr nq) (hea : ea = eaOf s0) (hQ : QI s0 S nq nt) (hZr : Zr S) (A : HS) (g0 : Nat) (hF : RF s0 S A nq nt) (hg : mI S 257 0 = nI g0) (a : Int32) (hbad0 : ¬ psK (nI g0) a = 0) : Ctr s0 l D cy yX16_pass cX16_pass 3 (some .int) rm_m_X16_pass_x S [.ref (gG S 16 0), .int a] (PF s0 S (ns, nj, nm, nr, nt, g0, A) (psK (nI g0) a) 0 (ns, nj, nm, nr, nt, g0, A)) := by
  refine pro "CavershamShiftModel" G rfl rfl (Nat.le_of_ble_eq_true rfl) (fun p e s m below meth c ls X w hnm hl => ?_)
  have hx := X.1
  have hb := X.2.1
  have hown := X.2.2.2.1
  have hts := X.2.2.2.2.1
  have hl : lv_has ls 3 [(0, .ref (gG S 16 0)), (1, .int a)] := hl
  have h0 := h
  have hK : Kq hvTm hiTm hrTm S S := Kq.rf
  have hbad : ¬ psK (mI S 257 0) a = 0 := by rw [hg]; exact hbad0
  refine lv_aload_n hx hb dX16_pass_0 rfl (lv_at hl 0 rfl) ?_
  refine lv_iconst (v := 0) hx hb dX16_pass_1 (by decide) ?_
  refine p_16_0 (S := S) (x := 0) X w h.v wF_X16_43 dX16_pass_2 (fun H locs w => ?_)
  have h : RI ea (sI S 256 0 0) ns nj nm nt nr nq := h.stI (by decide)
  have hK : Kq hvTm hiTm hrTm S (sI S 256 0 0) := hK.sI rfl
  refine lv_iload_n hx hb dX16_pass_5 rfl (lv_at hl 1 rfl) ?_
  refine lv_iconst (v := 1) hx hb dX16_pass_6 (by decide) ?_
  refine lv_bipush (v := 48) hx hb dX16_pass_7 (by decide) ?_
  refine cS (S := (sI S 256 0 0)) (nA := 3) (As := [.int a, .int 1, .int 48]) (rest := []) X w hl (m_X16_in G (sI S 256 0 0) a 1 48) wY_X16_in wM_X16_224 wSt_X16_in wI_X16 (by decide +kernel) rfl rfl dX16_pass_9 ⟨by decide, by decide⟩ (Nat.le_of_ble_eq_true rfl) (⟨Nat.le_of_ble_eq_true rfl, Nat.le_of_ble_eq_true rfl⟩) (fun v1 S1 H locs hp w => ?_)
  obtain ⟨rfl, rfl⟩ := hp
  refine lv_if_ne (tgt := 21) hx hb dX16_pass_12 (by decide) (fun hy12 => ?_) (fun hy12 => ?_)
  · refine lv_aload_n hx hb dX16_pass_21 rfl (lv_at hl 0 rfl) ?_
    refine g_16_1 (S := (sI S 256 0 0)) (x := (mI S 257 0)) X w h.v wF_X16_125 (rfl) dX16_pass_22 ?_
    refine lv_iload_n hx hb dX16_pass_25 rfl (lv_at hl 1 rfl) ?_
    refine lv_iadd hx hb dX16_pass_26 ?_
    refine lv_sipush (v := 720) hx hb dX16_pass_27 (by decide) ?_
    refine lv_icmp_le (tgt := 39) hx hb dX16_pass_30 (by decide) (fun hy30 => ?_) (fun hy30 => ?_)
    · exact absurd (psK_0 (by simpa using b2i_t hy12) (Int32.not_lt.mpr hy30)) hbad
    · refine lv_aload_n hx hb dX16_pass_33 rfl (lv_at hl 0 rfl) ?_
      refine lv_iconst (v := 2) hx hb dX16_pass_34 (by decide) ?_
      refine cV (S := (sI S 256 0 0)) (nA := 1) (As := [.int 2]) (rest := []) X w hl h.v (m_X16_no G (sI S 256 0 0) ea ns nj nm nt nr nq h 2) wY_X16_no wM_X16_229 wIn_X16_no wSe_X16_X16_no wI_X16 (by decide) rfl (by decide +kernel) rfl rfl dX16_pass_35 ⟨by decide, by decide⟩ (Nat.le_of_ble_eq_true rfl) (⟨Nat.le_of_ble_eq_true rfl, Nat.le_of_ble_eq_true rfl⟩) (fun v2 S1 H locs hp w => ?_)
      obtain ⟨rfl, rfl⟩ := hp
      have h : RI ea (sI (sI S 256 0 0) 256 0 2) ns nj nm nt nr nq := h.stI (by decide)
      have hK : Kq hvTm hiTm hrTm S (sI (sI S 256 0 0) 256 0 2) := hK.sI rfl
      exact rI X w rfl dX16_pass_38 (by decide) (by decide) (pf_x (k := 2) (psK_2 (by simpa using b2i_t hy12) (by rw [← hg]; exact Int32.not_le.mp hy30)) (by decide) (by decide) ⟨_, hea ▸ h, hQ, hZr, (hF.oI rfl).oI rfl, hg⟩)
  · refine lv_aload_n hx hb dX16_pass_15 rfl (lv_at hl 0 rfl) ?_
    refine lv_iconst (v := 1) hx hb dX16_pass_16 (by decide) ?_
    refine cV (S := (sI S 256 0 0)) (nA := 1) (As := [.int 1]) (rest := []) X w hl h.v (m_X16_no G (sI S 256 0 0) ea ns nj nm nt nr nq h 1) wY_X16_no wM_X16_229 wIn_X16_no wSe_X16_X16_no wI_X16 (by decide) rfl (by decide +kernel) rfl rfl dX16_pass_17 ⟨by decide, by decide⟩ (Nat.le_of_ble_eq_true rfl) (⟨Nat.le_of_ble_eq_true rfl, Nat.le_of_ble_eq_true rfl⟩) (fun v3 S1 H locs hp w => ?_)
    obtain ⟨rfl, rfl⟩ := hp
    have h : RI ea (sI (sI S 256 0 0) 256 0 1) ns nj nm nt nr nq := h.stI (by decide)
    have hK : Kq hvTm hiTm hrTm S (sI (sI S 256 0 0) 256 0 1) := hK.sI rfl
    exact rI X w rfl dX16_pass_20 (by decide) (by decide) (pf_x (k := 1) (psK_1 (by simpa using b2i_f hy12)) (by decide) (by decide) ⟨_, hea ▸ h, hQ, hZr, (hF.oI rfl).oI rfl, hg⟩)

theorem dX16_pass_39 : decode cX16_pass 39 = .ok (.iconst 0, 1) := by decide +kernel
theorem dX16_pass_40 : decode cX16_pass 40 = .ok (.istore_n 2, 1) := by decide +kernel
theorem dX16_pass_41 : decode cX16_pass 41 = .ok (.iload_n 2, 1) := by decide +kernel
theorem dX16_pass_42 : decode cX16_pass 42 = .ok (.iload_n 1, 1) := by decide +kernel
theorem dX16_pass_43 : decode cX16_pass 43 = .ok (.if_icmp .ge 13, 3) := by decide +kernel
theorem dX16_pass_46 : decode cX16_pass 46 = .ok (.aload_n 0, 1) := by decide +kernel
theorem dX16_pass_47 : decode cX16_pass 47 = .ok (.invokevirtual 262, 3) := by decide +kernel
theorem dX16_pass_50 : decode cX16_pass 50 = .ok (.iinc 2 1, 3) := by decide +kernel
theorem dX16_pass_53 : decode cX16_pass 53 = .ok (.goto (-12), 3) := by decide +kernel
theorem dX16_pass_56 : decode cX16_pass 56 = .ok (.aload_n 0, 1) := by decide +kernel
theorem dX16_pass_57 : decode cX16_pass 57 = .ok (.getfield 125, 3) := by decide +kernel
theorem dX16_pass_60 : decode cX16_pass 60 = .ok (.ireturn, 1) := by decide +kernel
abbrev rm_m_X16_pass_n (n : Nat) : Room := { frames := 10, cells := 12 * n, slots := 455 * n, locals := 259 }
set_option maxHeartbeats 4000000 in
set_option maxRecDepth 100000 in
theorem m_X16_pass_n {s0 : State} {l : Launch} {D : va_G} {cy : Nat → ClassId} (G : Gl s0 l D cy) (S : HS) (ea ns nj nm nt nr nq : Nat) (h : RI ea S ns nj nm nt nr nq) (A : HS) (hE : RF s0 S A nq nt) (hea : ea = eaOf s0) (hQ : QI s0 S nq nt) (hZr : Zr S) (n g : Nat) (hn1 : 1 ≤ n) (hn : n ≤ 48) (hg : mI S 257 0 = nI g) (hgn : g + n ≤ 720) : Ctr s0 l D cy yX16_pass cX16_pass 3 (some .int) (rm_m_X16_pass_n n) S [.ref (gG S 16 0), .int (nI n)] (fun v S' => some (.int (nI (g + n))) = v ∧ RX s0 S' (ns, nj, nm, nr, nt, g + n, hoN A ns nj nm nt nr g n) ∧ KeepRB S S' ∧ mI S' 256 0 = 0) := by
  refine pro "CavershamShiftModel" G rfl rfl (Nat.le_of_ble_eq_true rfl) (fun p e s m below meth c ls X w hnm hl => ?_)
  have hx := X.1
  have hb := X.2.1
  have hown := X.2.2.2.1
  have hts := X.2.2.2.2.1
  have hl : lv_has ls 3 [(0, .ref (gG S 16 0)), (1, .int (nI n))] := hl
  have h0 := h
  have hK : Kq hvH hiHp hrQ S S := Kq.rf
  refine lv_aload_n hx hb dX16_pass_0 rfl (lv_at hl 0 rfl) ?_
  refine lv_iconst (v := 0) hx hb dX16_pass_1 (by decide) ?_
  refine p_16_0 (S := S) (x := 0) X w h.v wF_X16_43 dX16_pass_2 (fun H locs w => ?_)
  have h : RI ea (sI S 256 0 0) ns nj nm nt nr nq := h.stI (by decide)
  have hK : Kq hvH hiHp hrQ S (sI S 256 0 0) := hK.sI rfl
  have hE : RF s0 (sI S 256 0 0) A nq nt := hE.oI rfl
  refine lv_iload_n hx hb dX16_pass_5 rfl (lv_at hl 1 rfl) ?_
  refine lv_iconst (v := 1) hx hb dX16_pass_6 (by decide) ?_
  refine lv_bipush (v := 48) hx hb dX16_pass_7 (by decide) ?_
  refine cS (S := (sI S 256 0 0)) (nA := 3) (As := [.int (nI n), .int 1, .int 48]) (rest := []) X w hl (m_X16_in G (sI S 256 0 0) (nI n) 1 48) wY_X16_in wM_X16_224 wSt_X16_in wI_X16 (by decide +kernel) rfl rfl dX16_pass_9 ⟨Nat.le_of_ble_eq_true rfl, Nat.le_of_ble_eq_true rfl⟩ (Nat.le_of_ble_eq_true rfl) (⟨Nat.le_of_ble_eq_true rfl, Nat.le_of_ble_eq_true rfl⟩) (fun v1 S1 H locs hp w => ?_)
  obtain ⟨rfl, rfl⟩ := hp
  refine lv_if_ne (tgt := 21) hx hb dX16_pass_12 (by decide) (fun hy12 => ?_) (fun hy12 => ?_)
  · refine lv_aload_n hx hb dX16_pass_21 rfl (lv_at hl 0 rfl) ?_
    refine g_16_1 (S := (sI S 256 0 0)) (x := (nI g)) X w h.v wF_X16_125 (hg) dX16_pass_22 ?_
    refine lv_iload_n hx hb dX16_pass_25 rfl (lv_at hl 1 rfl) ?_
    refine lv_iadd hx hb dX16_pass_26 ?_
    refine lv_topi (fun z2 ez2 => ?_)
    obtain rfl : z2 = nI (g + n) := ez2.trans (nI_add _ _)
    refine lv_sipush (v := 720) hx hb dX16_pass_27 (by decide) ?_
    refine lv_icmp_le (tgt := 39) hx hb dX16_pass_30 (by decide) (fun hy30 => ?_) (fun hy30 => ?_)
    · refine lv_iconst (v := 0) hx hb dX16_pass_39 (by decide) ?_
      refine lv_istore_n (lv' := [(2, .int 0), (0, .ref (gG S 16 0)), (1, .int (nI n))]) hx hb dX16_pass_40 rfl hl (by decide) rfl (fun ls hl => ?_)
      have L41 : ∀ (N : Nat) (k41 : Nat) (T41 : HS) (nc41 : Nat) (H : Heap) (locs : List Loc) (ls : Array Slot), n - k41 < N → (k41 ≤ n) → (RF s0 T41 (hoN A ns nj nm nt nr g k41) nc41 nt) → (RI ea T41 ns nj nm nt nr nc41) → (Kq hvH hiHp hrQ S T41) → (QI s0 T41 nc41 nt) → (Zr T41) → (mI T41 257 0 = nI (g + k41)) → (mI T41 256 0 = 0) → Wd s0 D cy T41 s.heap H locs → lv_has ls 3 [(2, .int (nI k41)), (0, .ref (gG S 16 0)), (1, .int (nI n))] → W p l e (rm_m_X16_pass_n n) s m ([.ref (gG S 16 0), .int (nI n)] : List Value).toArray below meth c H locs (12 * k41) (455 * k41) (MQ below (GQ s0 D cy (fun v S' => some (.int (nI (g + n))) = v ∧ RX s0 S' (ns, nj, nm, nr, nt, g + n, hoN A ns nj nm nt nr g n) ∧ KeepRB S S' ∧ mI S' 256 0 = 0)) ([.ref (gG S 16 0), .int (nI n)] : List Value).toArray s (rm_m_X16_pass_n n).cells (rm_m_X16_pass_n n).slots (A0 s0)) (F0 m 41 ls []) := by
        intro N
        induction N with
        | zero => intros; omega
        | succ N ih41 =>
          intro k41 T41 nc41 H locs ls hmu hk_k41 hE h hK_T41 hQ hZr e257 e256 w hl
          have hK := hK_T41
          refine lv_iload_n hx hb dX16_pass_41 rfl (lv_at hl 0 rfl) ?_
          refine lv_iload_n hx hb dX16_pass_42 rfl (lv_at hl 2 rfl) ?_
          refine lv_icmp_ge (tgt := 56) hx hb dX16_pass_43 (by decide) (fun hc_k41 => ?_) (fun hc_k41 => ?_)
          · have hge_k41 : n ≤ k41 := by
              skip
              exact (nI_leI (a := n) (b := k41) (by omega) (by omega)).mp hc_k41
            refine lv_aload_n hx hb dX16_pass_56 rfl (lv_at hl 1 rfl) ?_
            refine rE0 ((rfl).trans ((hK_T41.G (t := 16) (i := 0) rfl)).symm) ?_
            refine g_16_1 (S := T41) (x := (nI (g + k41))) X w h.v wF_X16_125 (e257) dX16_pass_57 ?_
            exact rI X w rfl dX16_pass_60 (show 12 * k41 ≤ 12 * n by omega) (show 455 * k41 ≤ 455 * n by omega) (⟨by rw [show k41 = n by omega], ⟨_, hea ▸ h, hQ, hZr, by rw [show k41 = n by omega] at hE; exact hE, by rw [e257, show k41 = n by omega]⟩, Kq.rpB (qpk hK), e256⟩)
          · have hlt_k41 : k41 < n := by
              skip
              exact Nat.lt_of_not_le (fun z => hc_k41 ((nI_leI (a := n) (b := k41) (by omega) (by omega)).mpr z))
            refine lv_aload_n hx hb dX16_pass_46 rfl (lv_at hl 1 rfl) ?_
            refine rE0 ((rfl).trans ((hK_T41.G (t := 16) (i := 0) rfl)).symm) ?_
            refine cV (S := T41) (nA := 0) (As := []) (rest := []) X w hl h.v (r_X16_hour G T41 ea ns nj nm nt nr nc41 h (hoN A ns nj nm nt nr g k41) hE (g + k41) e257 (by omega) hea hZr.1 (hZr.2 0).2 hQ) wY_X16_hour wM_X16_262 wIn_X16_hour wSe_X16_X16_hour wI_X16 (by decide) rfl (by decide +kernel) rfl rfl dX16_pass_47 ⟨Nat.le_of_ble_eq_true rfl, Nat.le_of_ble_eq_true rfl⟩ (Nat.le_of_ble_eq_true rfl) (⟨(show 12 * k41 + 12 ≤ 12 * n by omega), (show 455 * k41 + 455 ≤ 455 * n by omega)⟩) (fun v5 U3 H locs hp w => ?_)
            obtain ⟨rfl, nc4, h, hkU3, hQ, hE, h49, e29⟩ := hp
            have hK_U3 : Kq hvH hiHp hrQ S U3 := hK.tr (q2p hkU3)
            have hK := hK_U3
            have hZr : Zr U3 := Zr.q2 hkU3 h49 hZr
            have e256 : mI U3 256 0 = 0 := (hkU3.I (f := 256) (i := 0) rfl).trans e256
            have e257 : mI U3 257 0 = nI (g + k41 + 1) := e29
            refine lv_iinc (v := nI (k41 + 1)) (lv' := [(2, .int (nI (k41 + 1))), (0, .ref (gG S 16 0)), (1, .int (nI n))]) hx hb dX16_pass_50 hl (k := 0) rfl (nI_1 _) (by decide) rfl (fun ls hl => ?_)
            refine lv_goto (tgt := 41) hx hb dX16_pass_53 (by decide) ?_
            refine W.widen (k := 12 * (k41 + 1)) (n := 455 * (k41 + 1)) (show 12 * k41 + 12 ≤ 12 * (k41 + 1) by omega) (show 455 * k41 + 455 ≤ 455 * (k41 + 1) by omega) ?_
            have hE : RF s0 U3 (hoN A ns nj nm nt nr g (k41 + 1)) nc4 nt := hE
            exact ih41 (k41 + 1) U3 nc4 _ _ _ (by omega) (hlt_k41) (hE) (h) (hK) (hQ) (hZr) (e257) (e256) w (lv_sub hl [0, 1, 2] rfl)
      refine W.widen (k := 12 * 0) (n := 455 * 0) (Nat.zero_le _) (Nat.zero_le _) ?_
      exact L41 _ 0 (sI S 256 0 0) nq _ _ _ (Nat.lt_succ_self _) (Nat.zero_le _) (hE) (h) (hK) (⟨hQ.1, hQ.2⟩) (⟨hZr.1, hZr.2⟩) (hg) (rfl) w (lv_sub hl [0, 1, 2] rfl)
    · exact absurd ((nI_leI (a := g + n) (b := 720) (by omega) (by decide)).mpr hgn) hy30
  · exact absurd (b2i_f hy12) (by rw [so_148 hn1 hn]; decide)

theorem RI.shift {ea : Nat} {S : HS} {ns nj nm nt nr nq : Nat} (h : RI ea S ns nj nm nt nr nq) {a k : Nat} {x y : Int32} (ha : a < 24) (hk : k < 3) (v1 : x = -1 ∨ ∃ g, g < ns ∧ x = nI g) (v2 : y = -1 ∨ ∃ g, g < nm ∧ y = nI g) (v3 : x = -1 ↔ y = -1) : RI ea (sA (sA S 36 a (upd (mA S 36 a) (nI k).toNatClampNeg x)) 37 a (upd (mA S 37 a) (nI k).toNatClampNeg y)) ns nj nm nt nr nq := by
  have ek : (nI k).toNatClampNeg = k := nI_clamp (by omega)
  rw [ek]
  have u : ∀ (f : Nat → Int32) (z : Int32) q, upd f k z q = if q = k then z else f q := fun f z q => rfl
  have e36 : ∀ b q, mA (sA (sA S 36 a (upd (mA S 36 a) k x)) 37 a (upd (mA S 37 a) k y)) 36 b q = if b = a ∧ q = k then x else mA S 36 b q := fun b q => by
    by_cases e : b = a
    · rw [e, show mA (sA (sA S 36 a (upd (mA S 36 a) k x)) 37 a (upd (mA S 37 a) k y)) 36 a = upd (mA S 36 a) k x by simp [mA, sA, up2], u]; simp
    · rw [show mA (sA (sA S 36 a (upd (mA S 36 a) k x)) 37 a (upd (mA S 37 a) k y)) 36 b = mA S 36 b by simp [mA, sA, up2, e], if_neg (fun z => e z.1)]
  have e37 : ∀ b q, mA (sA (sA S 36 a (upd (mA S 36 a) k x)) 37 a (upd (mA S 37 a) k y)) 37 b q = if b = a ∧ q = k then y else mA S 37 b q := fun b q => by
    by_cases e : b = a
    · rw [e, show mA (sA (sA S 36 a (upd (mA S 36 a) k x)) 37 a (upd (mA S 37 a) k y)) 37 a = upd (mA S 37 a) k y by simp [mA, sA, up2], u]; simp
    · rw [show mA (sA (sA S 36 a (upd (mA S 36 a) k x)) 37 a (upd (mA S 37 a) k y)) 37 b = mA S 37 b by simp [mA, sA, up2, e], if_neg (fun z => e z.1)]
  exact ⟨h.v, h.f_st, h.f_jm, h.f_mo, h.f_ta, h.f_re, h.f_qu, h.l_st, h.l_jm, h.l_mo, h.l_ta, h.l_re, h.l_qu, h.b_st, h.b_jm, h.b_mo, h.b_ta, h.b_re, h.b_qu, h.e_st, h.e_jm, h.e_mo, h.e_ta, h.e_re, h.h1, h.h2, h.s1, h.s2, h.x_st, h.x_ts, h.x_th, h.x_tt, (fun b q hb hq => by
    rw [e36]
    by_cases e : b = a ∧ q = k
    · rw [if_pos e]; exact v1
    · rw [if_neg e]; exact h.x_he b q hb hq), (fun b q hb hq => by
    rw [e37]
    by_cases e : b = a ∧ q = k
    · rw [if_pos e]; exact v2
    · rw [if_neg e]; exact h.x_si b q hb hq), (fun b q hb hq => by
    rw [e36, e37]
    by_cases e : b = a ∧ q = k
    · rw [if_pos e, if_pos e]; exact v3
    · rw [if_neg e, if_neg e]; exact h.x_hs b q hb hq), h.x_ho, h.z_st, h.z_jm, h.z_mo, h.z_ta, h.z_re, h.z30, h.z12, h.z31⟩
theorem v3_of {x y : Int32} (h : (x = -1 ∧ y = -1) ∨ (¬ x = -1 ∧ ¬ y = -1) ∨ (x = -1 ∧ y = -1)) : x = -1 ↔ y = -1 := by
  rcases h with h | h | h
  · exact ⟨fun _ => h.2, fun _ => h.1⟩
  · exact ⟨fun z => absurd z h.1, fun z => absurd z h.2⟩
  · exact ⟨fun _ => h.2, fun _ => h.1⟩

theorem rElse_t {S : HS} {x : Nat} {a b b2 e e2 : Int32} (hx : x < 24) (ex : a = nI x) (ee : e = e2) (eb : b = b2) (h1 : ¬ rSetOf S x e2 = -1) (h2 : ¬ rSetOf S x e2 = b2) : rElse S a b e = true := by
  unfold rElse
  rw [tnI hx (by decide) ex, ee, eb, decide_eq_true h1, decide_eq_true h2]; rfl
theorem rElse_f1 {S : HS} {x : Nat} {a b e e2 : Int32} (hx : x < 24) (ex : a = nI x) (ee : e = e2) (h1 : rSetOf S x e2 = -1) : rElse S a b e = false := by
  unfold rElse
  rw [tnI hx (by decide) ex, ee, decide_eq_false (fun z => z h1)]; rfl
theorem rElse_f2 {S : HS} {x : Nat} {a b b2 e e2 : Int32} (hx : x < 24) (ex : a = nI x) (ee : e = e2) (eb : b = b2) (h1 : rSetOf S x e2 = b2) : rElse S a b e = false := by
  unfold rElse
  have q : decide (¬ rSetOf S x e2 = b2) = false := decide_eq_false (fun z => z h1)
  rw [tnI hx (by decide) ex, ee, eb, q, Bool.and_false]
theorem RF.sh {s0 : State} {S A : HS} {nq nt x k : Nat} {a b d d2 e e2 : Int32} (h : RF s0 S A nq nt) (ea : a.toNatClampNeg = x) (eb : b.toNatClampNeg = k) (ek : (nI k).toNatClampNeg = k) (ed : d = d2) (ee : e = e2) : RF s0 (sA (sA (sI S 256 0 0) 36 x (upd (mA S 36 x) (nI k).toNatClampNeg d2)) 37 x (upd (mA S 37 x) (nI k).toNatClampNeg e2)) (shA A a.toNatClampNeg b.toNatClampNeg d e) nq nt := by
  rw [ea, eb, ek, ed, ee]
  exact ((h.oI (f := 256) (i := 0) (v := 0) rfl).sU (t := 36) rfl).sU (t := 37) rfl

theorem dX16_shift_0 : decode cX16_shift 0 = .ok (.aload_n 0, 1) := by decide +kernel
theorem dX16_shift_1 : decode cX16_shift 1 = .ok (.iconst 0, 1) := by decide +kernel
theorem dX16_shift_2 : decode cX16_shift 2 = .ok (.putfield 43, 3) := by decide +kernel
theorem dX16_shift_5 : decode cX16_shift 5 = .ok (.iload_n 1, 1) := by decide +kernel
theorem dX16_shift_6 : decode cX16_shift 6 = .ok (.iconst 0, 1) := by decide +kernel
theorem dX16_shift_7 : decode cX16_shift 7 = .ok (.bipush 23, 2) := by decide +kernel
theorem dX16_shift_9 : decode cX16_shift 9 = .ok (.invokestatic 224, 3) := by decide +kernel
theorem dX16_shift_12 : decode cX16_shift 12 = .ok (.ifCond .eq 40, 3) := by decide +kernel
theorem dX16_shift_15 : decode cX16_shift 15 = .ok (.iload_n 2, 1) := by decide +kernel
theorem dX16_shift_16 : decode cX16_shift 16 = .ok (.iconst 0, 1) := by decide +kernel
theorem dX16_shift_17 : decode cX16_shift 17 = .ok (.iconst 2, 1) := by decide +kernel
theorem dX16_shift_18 : decode cX16_shift 18 = .ok (.invokestatic 224, 3) := by decide +kernel
theorem dX16_shift_21 : decode cX16_shift 21 = .ok (.ifCond .eq 31, 3) := by decide +kernel
theorem dX16_shift_24 : decode cX16_shift 24 = .ok (.iload_n 3, 1) := by decide +kernel
theorem dX16_shift_25 : decode cX16_shift 25 = .ok (.iconst (-1), 1) := by decide +kernel
theorem dX16_shift_26 : decode cX16_shift 26 = .ok (.if_icmp .eq 11, 3) := by decide +kernel
theorem dX16_shift_29 : decode cX16_shift 29 = .ok (.aload_n 0, 1) := by decide +kernel
theorem dX16_shift_30 : decode cX16_shift 30 = .ok (.iload_n 3, 1) := by decide +kernel
theorem dX16_shift_31 : decode cX16_shift 31 = .ok (.invokevirtual 235, 3) := by decide +kernel
theorem dX16_shift_34 : decode cX16_shift 34 = .ok (.ifCond .eq 18, 3) := by decide +kernel
theorem dX16_shift_37 : decode cX16_shift 37 = .ok (.iload 4, 2) := by decide +kernel
theorem dX16_shift_39 : decode cX16_shift 39 = .ok (.iconst (-1), 1) := by decide +kernel
theorem dX16_shift_40 : decode cX16_shift 40 = .ok (.if_icmp .eq 18, 3) := by decide +kernel
theorem dX16_shift_43 : decode cX16_shift 43 = .ok (.aload_n 0, 1) := by decide +kernel
theorem dX16_shift_44 : decode cX16_shift 44 = .ok (.iload 4, 2) := by decide +kernel
theorem dX16_shift_46 : decode cX16_shift 46 = .ok (.invokevirtual 241, 3) := by decide +kernel
theorem dX16_shift_49 : decode cX16_shift 49 = .ok (.ifCond .ne 9, 3) := by decide +kernel
theorem dX16_shift_52 : decode cX16_shift 52 = .ok (.aload_n 0, 1) := by decide +kernel
theorem dX16_shift_53 : decode cX16_shift 53 = .ok (.iconst 1, 1) := by decide +kernel
theorem dX16_shift_54 : decode cX16_shift 54 = .ok (.invokevirtual 229, 3) := by decide +kernel
theorem dX16_shift_57 : decode cX16_shift 57 = .ok (.ireturn, 1) := by decide +kernel
theorem dX16_shift_58 : decode cX16_shift 58 = .ok (.iload_n 3, 1) := by decide +kernel
theorem dX16_shift_59 : decode cX16_shift 59 = .ok (.iconst (-1), 1) := by decide +kernel
theorem dX16_shift_60 : decode cX16_shift 60 = .ok (.if_icmp .ne 7, 3) := by decide +kernel
theorem dX16_shift_63 : decode cX16_shift 63 = .ok (.iconst 1, 1) := by decide +kernel
theorem dX16_shift_64 : decode cX16_shift 64 = .ok (.goto 4, 3) := by decide +kernel
theorem dX16_shift_67 : decode cX16_shift 67 = .ok (.iconst 0, 1) := by decide +kernel
theorem dX16_shift_68 : decode cX16_shift 68 = .ok (.iload 4, 2) := by decide +kernel
theorem dX16_shift_70 : decode cX16_shift 70 = .ok (.iconst (-1), 1) := by decide +kernel
theorem dX16_shift_71 : decode cX16_shift 71 = .ok (.if_icmp .ne 7, 3) := by decide +kernel
theorem dX16_shift_74 : decode cX16_shift 74 = .ok (.iconst 1, 1) := by decide +kernel
theorem dX16_shift_75 : decode cX16_shift 75 = .ok (.goto 4, 3) := by decide +kernel
theorem dX16_shift_78 : decode cX16_shift 78 = .ok (.iconst 0, 1) := by decide +kernel
theorem dX16_shift_79 : decode cX16_shift 79 = .ok (.if_icmp .eq 9, 3) := by decide +kernel
theorem dX16_shift_82 : decode cX16_shift 82 = .ok (.aload_n 0, 1) := by decide +kernel
theorem dX16_shift_83 : decode cX16_shift 83 = .ok (.iconst 2, 1) := by decide +kernel
theorem dX16_shift_84 : decode cX16_shift 84 = .ok (.invokevirtual 229, 3) := by decide +kernel
theorem dX16_shift_87 : decode cX16_shift 87 = .ok (.ireturn, 1) := by decide +kernel
theorem dX16_shift_88 : decode cX16_shift 88 = .ok (.iload 4, 2) := by decide +kernel
theorem dX16_shift_90 : decode cX16_shift 90 = .ok (.iconst (-1), 1) := by decide +kernel
theorem dX16_shift_91 : decode cX16_shift 91 = .ok (.if_icmp .eq 31, 3) := by decide +kernel
theorem dX16_shift_94 : decode cX16_shift 94 = .ok (.aload_n 0, 1) := by decide +kernel
theorem dX16_shift_95 : decode cX16_shift 95 = .ok (.iload 4, 2) := by decide +kernel
theorem dX16_shift_97 : decode cX16_shift 97 = .ok (.iload_n 1, 1) := by decide +kernel
theorem dX16_shift_98 : decode cX16_shift 98 = .ok (.invokevirtual 208, 3) := by decide +kernel
theorem dX16_shift_101 : decode cX16_shift 101 = .ok (.iconst (-1), 1) := by decide +kernel
theorem dX16_shift_102 : decode cX16_shift 102 = .ok (.if_icmp .eq 20, 3) := by decide +kernel
theorem dX16_shift_105 : decode cX16_shift 105 = .ok (.aload_n 0, 1) := by decide +kernel
theorem dX16_shift_106 : decode cX16_shift 106 = .ok (.iload 4, 2) := by decide +kernel
theorem dX16_shift_108 : decode cX16_shift 108 = .ok (.iload_n 1, 1) := by decide +kernel
theorem dX16_shift_109 : decode cX16_shift 109 = .ok (.invokevirtual 208, 3) := by decide +kernel
theorem dX16_shift_112 : decode cX16_shift 112 = .ok (.iload_n 2, 1) := by decide +kernel
theorem dX16_shift_113 : decode cX16_shift 113 = .ok (.if_icmp .eq 9, 3) := by decide +kernel
theorem dX16_shift_116 : decode cX16_shift 116 = .ok (.aload_n 0, 1) := by decide +kernel
theorem dX16_shift_117 : decode cX16_shift 117 = .ok (.iconst 3, 1) := by decide +kernel
theorem dX16_shift_118 : decode cX16_shift 118 = .ok (.invokevirtual 229, 3) := by decide +kernel
theorem dX16_shift_121 : decode cX16_shift 121 = .ok (.ireturn, 1) := by decide +kernel
theorem dX16_shift_122 : decode cX16_shift 122 = .ok (.aload_n 0, 1) := by decide +kernel
theorem dX16_shift_123 : decode cX16_shift 123 = .ok (.getfield 37, 3) := by decide +kernel
theorem dX16_shift_126 : decode cX16_shift 126 = .ok (.iload_n 1, 1) := by decide +kernel
theorem dX16_shift_127 : decode cX16_shift 127 = .ok (.aaload, 1) := by decide +kernel
theorem dX16_shift_128 : decode cX16_shift 128 = .ok (.iload_n 2, 1) := by decide +kernel
theorem dX16_shift_129 : decode cX16_shift 129 = .ok (.iaload, 1) := by decide +kernel
theorem dX16_shift_130 : decode cX16_shift 130 = .ok (.istore 5, 2) := by decide +kernel
theorem dX16_shift_132 : decode cX16_shift 132 = .ok (.aload_n 0, 1) := by decide +kernel
theorem dX16_shift_133 : decode cX16_shift 133 = .ok (.getfield 37, 3) := by decide +kernel
theorem dX16_shift_136 : decode cX16_shift 136 = .ok (.iload_n 1, 1) := by decide +kernel
theorem dX16_shift_137 : decode cX16_shift 137 = .ok (.aaload, 1) := by decide +kernel
theorem dX16_shift_138 : decode cX16_shift 138 = .ok (.iload_n 2, 1) := by decide +kernel
theorem dX16_shift_139 : decode cX16_shift 139 = .ok (.iload_n 3, 1) := by decide +kernel
theorem dX16_shift_140 : decode cX16_shift 140 = .ok (.iastore, 1) := by decide +kernel
theorem dX16_shift_141 : decode cX16_shift 141 = .ok (.aload_n 0, 1) := by decide +kernel
theorem dX16_shift_142 : decode cX16_shift 142 = .ok (.getfield 40, 3) := by decide +kernel
theorem dX16_shift_145 : decode cX16_shift 145 = .ok (.iload_n 1, 1) := by decide +kernel
theorem dX16_shift_146 : decode cX16_shift 146 = .ok (.aaload, 1) := by decide +kernel
theorem dX16_shift_147 : decode cX16_shift 147 = .ok (.iload_n 2, 1) := by decide +kernel
theorem dX16_shift_148 : decode cX16_shift 148 = .ok (.iload 4, 2) := by decide +kernel
theorem dX16_shift_150 : decode cX16_shift 150 = .ok (.iastore, 1) := by decide +kernel
theorem dX16_shift_151 : decode cX16_shift 151 = .ok (.iload 5, 2) := by decide +kernel
theorem dX16_shift_153 : decode cX16_shift 153 = .ok (.ireturn, 1) := by decide +kernel
abbrev rm_m_X16_shift : Room := { frames := 2, cells := 0, slots := 0, locals := 43 }
set_option maxHeartbeats 4000000 in
set_option maxRecDepth 100000 in
theorem m_X16_shift {s0 : State} {l : Launch} {D : va_G} {cy : Nat → ClassId} (G : Gl s0 l D cy) (S : HS) (ea ns nj nm nt nr nq : Nat) (h : RI ea S ns nj nm nt nr nq) (hea : ea = eaOf s0) (hQ : QI s0 S nq nt) (hZr : Zr S) (A : HS) (g0 : Nat) (hF : RF s0 S A nq nt) (hg : mI S 257 0 = nI g0) (a b d e_ : Int32) : Ctr s0 l D cy yX16_shift cX16_shift 6 (some .int) rm_m_X16_shift S [.ref (gG S 16 0), .int a, .int b, .int d, .int e_] (PF s0 S (ns, nj, nm, nr, nt, g0, A) (shK ns nm a b d e_ (rElse A a b e_)) (mA A 36 a.toNatClampNeg b.toNatClampNeg) (ns, nj, nm, nr, nt, g0, shA A a.toNatClampNeg b.toNatClampNeg d e_)) := by
  refine pro "CavershamShiftModel" G rfl rfl (Nat.le_of_ble_eq_true rfl) (fun p e s m below meth c ls X w hnm hl => ?_)
  have hx := X.1
  have hb := X.2.1
  have hown := X.2.2.2.1
  have hts := X.2.2.2.2.1
  have hl : lv_has ls 6 [(0, .ref (gG S 16 0)), (1, .int a), (2, .int b), (3, .int d), (4, .int e_)] := hl
  have h0 := h
  have hK : Kq refU refB refR S S := Kq.rf
  have hE : RE S A := hF.re
  refine lv_aload_n hx hb dX16_shift_0 rfl (lv_at hl 0 rfl) ?_
  refine lv_iconst (v := 0) hx hb dX16_shift_1 (by decide) ?_
  refine p_16_0 (S := S) (x := 0) X w h.v wF_X16_43 dX16_shift_2 (fun H locs w => ?_)
  have h : RI ea (sI S 256 0 0) ns nj nm nt nr nq := h.stI (by decide)
  have hK : Kq refU refB refR S (sI S 256 0 0) := hK.sI rfl
  refine lv_iload_n hx hb dX16_shift_5 rfl (lv_at hl 1 rfl) ?_
  refine lv_iconst (v := 0) hx hb dX16_shift_6 (by decide) ?_
  refine lv_bipush (v := 23) hx hb dX16_shift_7 (by decide) ?_
  refine cS (S := (sI S 256 0 0)) (nA := 3) (As := [.int a, .int 0, .int 23]) (rest := []) X w hl (m_X16_in G (sI S 256 0 0) a 0 23) wY_X16_in wM_X16_224 wSt_X16_in wI_X16 (by decide +kernel) rfl rfl dX16_shift_9 ⟨by decide, by decide⟩ (Nat.le_of_ble_eq_true rfl) (⟨Nat.le_of_ble_eq_true rfl, Nat.le_of_ble_eq_true rfl⟩) (fun v1 S1 H locs hp w => ?_)
  obtain ⟨rfl, rfl⟩ := hp
  refine lv_if_eq (tgt := 52) hx hb dX16_shift_12 (by decide) (fun hy12 => ?_) (fun hy12 => ?_)
  · refine lv_aload_n hx hb dX16_shift_52 rfl (lv_at hl 0 rfl) ?_
    refine lv_iconst (v := 1) hx hb dX16_shift_53 (by decide) ?_
    refine cV (S := (sI S 256 0 0)) (nA := 1) (As := [.int 1]) (rest := []) X w hl h.v (m_X16_no G (sI S 256 0 0) ea ns nj nm nt nr nq h 1) wY_X16_no wM_X16_229 wIn_X16_no wSe_X16_X16_no wI_X16 (by decide) rfl (by decide +kernel) rfl rfl dX16_shift_54 ⟨by decide, by decide⟩ (Nat.le_of_ble_eq_true rfl) (⟨Nat.le_of_ble_eq_true rfl, Nat.le_of_ble_eq_true rfl⟩) (fun v2 S1 H locs hp w => ?_)
    obtain ⟨rfl, rfl⟩ := hp
    have h : RI ea (sI (sI S 256 0 0) 256 0 1) ns nj nm nt nr nq := h.stI (by decide)
    have hK : Kq refU refB refR S (sI (sI S 256 0 0) 256 0 1) := hK.sI rfl
    exact rI X w rfl dX16_shift_57 (by decide) (by decide) (pf_x (k := 1) (by first | exact shK_1a (by simpa using b2i_f hy12) | exact shK_1b (by simpa using b2i_f hy21) | exact shK_1c hst (by simpa using b2i_f hy34) | exact shK_1d hmo (by simpa using b2i_f hy49)) (by decide) (by decide) ⟨_, hea ▸ h, hQ, hZr, (hF.oI rfl).oI rfl, hg⟩)
  · obtain ⟨j3, hlj3, hvj3⟩ := out_in (n := 24) (by decide) (by rw [show (nI 24 - 1 : Int32) = 23 by decide]; exact (by simpa using b2i_t hy12))
    rw [hvj3] at hl
    refine lv_iload_n hx hb dX16_shift_15 rfl (lv_at hl 2 rfl) ?_
    refine lv_iconst (v := 0) hx hb dX16_shift_16 (by decide) ?_
    refine lv_iconst (v := 2) hx hb dX16_shift_17 (by decide) ?_
    refine cS (S := (sI S 256 0 0)) (nA := 3) (As := [.int b, .int 0, .int 2]) (rest := []) X w hl (m_X16_in G (sI S 256 0 0) b 0 2) wY_X16_in wM_X16_224 wSt_X16_in wI_X16 (by decide +kernel) rfl rfl dX16_shift_18 ⟨by decide, by decide⟩ (Nat.le_of_ble_eq_true rfl) (⟨Nat.le_of_ble_eq_true rfl, Nat.le_of_ble_eq_true rfl⟩) (fun v4 S1 H locs hp w => ?_)
    obtain ⟨rfl, rfl⟩ := hp
    refine lv_if_eq (tgt := 52) hx hb dX16_shift_21 (by decide) (fun hy21 => ?_) (fun hy21 => ?_)
    · refine lv_aload_n hx hb dX16_shift_52 rfl (lv_at hl 0 rfl) ?_
      refine lv_iconst (v := 1) hx hb dX16_shift_53 (by decide) ?_
      refine cV (S := (sI S 256 0 0)) (nA := 1) (As := [.int 1]) (rest := []) X w hl h.v (m_X16_no G (sI S 256 0 0) ea ns nj nm nt nr nq h 1) wY_X16_no wM_X16_229 wIn_X16_no wSe_X16_X16_no wI_X16 (by decide) rfl (by decide +kernel) rfl rfl dX16_shift_54 ⟨by decide, by decide⟩ (Nat.le_of_ble_eq_true rfl) (⟨Nat.le_of_ble_eq_true rfl, Nat.le_of_ble_eq_true rfl⟩) (fun v5 S1 H locs hp w => ?_)
      obtain ⟨rfl, rfl⟩ := hp
      have h : RI ea (sI (sI S 256 0 0) 256 0 1) ns nj nm nt nr nq := h.stI (by decide)
      have hK : Kq refU refB refR S (sI (sI S 256 0 0) 256 0 1) := hK.sI rfl
      exact rI X w rfl dX16_shift_57 (by decide) (by decide) (pf_x (k := 1) (by first | exact shK_1a (by simpa using b2i_f hy12) | exact shK_1b (by simpa using b2i_f hy21) | exact shK_1c hst (by simpa using b2i_f hy34) | exact shK_1d hmo (by simpa using b2i_f hy49)) (by decide) (by decide) ⟨_, hea ▸ h, hQ, hZr, (hF.oI rfl).oI rfl, hg⟩)
    · obtain ⟨j6, hlj6, hvj6⟩ := out_in (n := 3) (by decide) (by rw [show (nI 3 - 1 : Int32) = 2 by decide]; exact (by simpa using b2i_t hy21))
      rw [hvj6] at hl
      refine lv_iload_n hx hb dX16_shift_24 rfl (lv_at hl 3 rfl) ?_
      refine lv_iconst (v := (-1)) hx hb dX16_shift_25 (by decide) ?_
      refine lv_icmp_eq (tgt := 37) hx hb dX16_shift_26 (by decide) (fun hst => ?_) (fun hst => ?_)
      · obtain rfl : d = -1 := hst
        refine lv_iload hx hb dX16_shift_37 (lv_at hl 4 rfl) ?_
        refine lv_iconst (v := (-1)) hx hb dX16_shift_39 (by decide) ?_
        refine lv_icmp_eq (tgt := 58) hx hb dX16_shift_40 (by decide) (fun hmo => ?_) (fun hmo => ?_)
        · obtain rfl : e_ = -1 := hmo
          refine lv_iload_n hx hb dX16_shift_58 rfl (lv_at hl 3 rfl) ?_
          refine lv_iconst (v := (-1)) hx hb dX16_shift_59 (by decide) ?_
          refine lv_icmp_ne (tgt := 67) hx hb dX16_shift_60 (by decide) (fun hc7 => ?_) (fun hc7 => ?_)
          · exact absurd hc7 (by decide)
          · refine lv_iconst (v := 1) hx hb dX16_shift_63 (by decide) ?_
            refine lv_goto (tgt := 68) hx hb dX16_shift_64 (by decide) ?_
            refine lv_iload hx hb dX16_shift_68 (lv_at hl 4 rfl) ?_
            refine lv_iconst (v := (-1)) hx hb dX16_shift_70 (by decide) ?_
            refine lv_icmp_ne (tgt := 78) hx hb dX16_shift_71 (by decide) (fun hc8 => ?_) (fun hc8 => ?_)
            · exact absurd hc8 (by decide)
            · refine lv_iconst (v := 1) hx hb dX16_shift_74 (by decide) ?_
              refine lv_goto (tgt := 79) hx hb dX16_shift_75 (by decide) ?_
              refine lv_icmp_eq (tgt := 88) hx hb dX16_shift_79 (by decide) (fun hc9 => ?_) (fun hc9 => ?_)
              · refine lv_iload hx hb dX16_shift_88 (lv_at hl 4 rfl) ?_
                refine lv_iconst (v := (-1)) hx hb dX16_shift_90 (by decide) ?_
                refine lv_icmp_eq (tgt := 122) hx hb dX16_shift_91 (by decide) (fun hc10 => ?_) (fun hc10 => ?_)
                · refine lv_aload_n hx hb dX16_shift_122 rfl (lv_at hl 0 rfl) ?_
                  refine g_16_12 (S := (sI S 256 0 0)) (x := (some (gG (sI S 256 0 0) 38 0))) X w h.v wF_X16_37 (h.h1.2.2) dX16_shift_123 ?_
                  refine lv_iload_n hx hb dX16_shift_126 rfl (lv_at hl 1 rfl) ?_
                  refine aLdR (S := (sI S 256 0 0)) (t := 38) (v := (some (gG (sI S 256 0 0) 36 j3))) X w h.h1.1 (by decide) rfl rfl (Or.inr ⟨_, rfl⟩) (by rw [show mN (sI S 256 0 0) 38 0 = 24 from h.h1.2.1]; exact nI_vp hlj3 (by decide)) (by rw [cl_nI (n := 24) hlj3 (by decide)]; exact (h.h2 j3 hlj3).1) dX16_shift_127 ?_
                  refine lv_iload_n hx hb dX16_shift_128 rfl (lv_at hl 2 rfl) ?_
                  refine aLdI (S := (sI S 256 0 0)) (t := 36) (v := mA (sI S 256 0 0) 36 j3 j6) X w (h.h2 j3 hlj3).2.1 (by decide) rfl rfl (by rw [show mN (sI S 256 0 0) 36 j3 = 3 from (h.h2 j3 hlj3).2.2]; exact nI_vp hlj6 (by decide)) (by rw [cl_nI (n := 3) hlj6 (by decide)]) dX16_shift_129 ?_
                  refine lv_istore (lv' := [(5, .int (mA (sI S 256 0 0) 36 j3 j6)), (0, .ref (gG S 16 0)), (1, .int (nI j3)), (2, .int (nI j6)), (3, .int (-1)), (4, .int (-1))]) hx hb dX16_shift_130 hl (by decide) rfl (fun ls hl => ?_)
                  refine lv_aload_n hx hb dX16_shift_132 rfl (lv_at hl 1 rfl) ?_
                  refine g_16_12 (S := (sI S 256 0 0)) (x := (some (gG (sI S 256 0 0) 38 0))) X w h.v wF_X16_37 (h.h1.2.2) dX16_shift_133 ?_
                  refine lv_iload_n hx hb dX16_shift_136 rfl (lv_at hl 2 rfl) ?_
                  refine aLdR (S := (sI S 256 0 0)) (t := 38) (v := (some (gG (sI S 256 0 0) 36 j3))) X w h.h1.1 (by decide) rfl rfl (Or.inr ⟨_, rfl⟩) (by rw [show mN (sI S 256 0 0) 38 0 = 24 from h.h1.2.1]; exact nI_vp hlj3 (by decide)) (by rw [cl_nI (n := 24) hlj3 (by decide)]; exact (h.h2 j3 hlj3).1) dX16_shift_137 ?_
                  refine lv_iload_n hx hb dX16_shift_138 rfl (lv_at hl 3 rfl) ?_
                  refine lv_iload_n hx hb dX16_shift_139 rfl (lv_at hl 4 rfl) ?_
                  refine aStI (S := (sI S 256 0 0)) (t := 36) X w (h.h2 j3 hlj3).2.1 (by decide) rfl rfl (by rw [show mN (sI S 256 0 0) 36 j3 = 3 from (h.h2 j3 hlj3).2.2]; exact nI_vp hlj6 (by decide)) dX16_shift_140 (fun H locs w => ?_)
                  refine lv_aload_n hx hb dX16_shift_141 rfl (lv_at hl 1 rfl) ?_
                  refine g_16_13 (S := (sA (sI S 256 0 0) 36 j3 (upd (mA (sI S 256 0 0) 36 j3) (nI j6).toNatClampNeg (-1)))) (x := (some (gG (sA (sI S 256 0 0) 36 j3 (upd (mA (sI S 256 0 0) 36 j3) (nI j6).toNatClampNeg (-1))) 38 1))) X w h.v wF_X16_40 (h.s1.2.2) dX16_shift_142 ?_
                  refine lv_iload_n hx hb dX16_shift_145 rfl (lv_at hl 2 rfl) ?_
                  refine aLdR (S := (sA (sI S 256 0 0) 36 j3 (upd (mA (sI S 256 0 0) 36 j3) (nI j6).toNatClampNeg (-1)))) (t := 38) (v := (some (gG (sA (sI S 256 0 0) 36 j3 (upd (mA (sI S 256 0 0) 36 j3) (nI j6).toNatClampNeg (-1))) 37 j3))) X w h.s1.1 (by decide) rfl rfl (Or.inr ⟨_, rfl⟩) (by rw [show mN (sA (sI S 256 0 0) 36 j3 (upd (mA (sI S 256 0 0) 36 j3) (nI j6).toNatClampNeg (-1))) 38 1 = 24 from h.s1.2.1]; exact nI_vp hlj3 (by decide)) (by rw [cl_nI (n := 24) hlj3 (by decide)]; exact (h.s2 j3 hlj3).1) dX16_shift_146 ?_
                  refine lv_iload_n hx hb dX16_shift_147 rfl (lv_at hl 3 rfl) ?_
                  refine lv_iload hx hb dX16_shift_148 (lv_at hl 5 rfl) ?_
                  refine aStI (S := (sA (sI S 256 0 0) 36 j3 (upd (mA (sI S 256 0 0) 36 j3) (nI j6).toNatClampNeg (-1)))) (t := 37) X w (h.s2 j3 hlj3).2.1 (by decide) rfl rfl (by rw [show mN (sA (sI S 256 0 0) 36 j3 (upd (mA (sI S 256 0 0) 36 j3) (nI j6).toNatClampNeg (-1))) 37 j3 = 3 from (h.s2 j3 hlj3).2.2]; exact nI_vp hlj6 (by decide)) dX16_shift_150 (fun H locs w => ?_)
                  have h : RI ea (sA (sA (sI S 256 0 0) 36 j3 (upd (mA (sI S 256 0 0) 36 j3) (nI j6).toNatClampNeg (-1))) 37 j3 (upd (mA (sA (sI S 256 0 0) 36 j3 (upd (mA (sI S 256 0 0) 36 j3) (nI j6).toNatClampNeg (-1))) 37 j3) (nI j6).toNatClampNeg (-1))) ns nj nm nt nr nq := h.shift hlj3 hlj6 (by first | exact Or.inl rfl | exact Or.inr ⟨_, by assumption, rfl⟩) (by first | exact Or.inl rfl | exact Or.inr ⟨_, by assumption, rfl⟩) (v3_of (by have := h.b_st; have := h.b_mo; first | exact Or.inl ⟨rfl, rfl⟩ | exact Or.inr (Or.inl ⟨nI_neg1 (by omega), nI_neg1 (by omega)⟩) | exact Or.inr (Or.inr ⟨by first | rfl | assumption, by first | rfl | assumption⟩)))
                  have hK : Kq refU refB refR S (sA (sA (sI S 256 0 0) 36 j3 (upd (mA (sI S 256 0 0) 36 j3) (nI j6).toNatClampNeg (-1))) 37 j3 (upd (mA (sA (sI S 256 0 0) 36 j3 (upd (mA (sI S 256 0 0) 36 j3) (nI j6).toNatClampNeg (-1))) 37 j3) (nI j6).toNatClampNeg (-1))) := (hK.sA rfl).sA rfl
                  refine lv_iload hx hb dX16_shift_151 (lv_at hl 0 rfl) ?_
                  exact rI X w rfl dX16_shift_153 (by decide) (by decide) (Or.inr ⟨shK_0 (by simpa using b2i_t hy12) (by simpa using b2i_t hy21) (by first | exact Or.inl rfl | exact Or.inr ⟨_, by assumption, by assumption⟩) (by first | exact Or.inl rfl | exact Or.inr ⟨_, by assumption, by assumption⟩) (Nat.le_trans h.b_st (by decide)) (Nat.le_trans h.b_mo (by decide)) (by first | exact ⟨fun _ => rfl, fun _ => rfl⟩ | exact ⟨fun z => absurd z hst, fun z => absurd z hmo⟩) (by first | exact Or.inl rfl | exact Or.inr ((hE.els a b e_).symm.trans (rElse_f1 (by assumption) (by assumption) (by assumption) hs1)) | exact Or.inr ((hE.els a b e_).symm.trans (rElse_f2 (by assumption) (by assumption) (by assumption) (by assumption) hs2))), by rw [tnI (n := 24) (a := a) (by assumption) (by decide) (by assumption), tnI (n := 3) (a := b) (by assumption) (by decide) (by assumption), ← (hE.2.2.1 _).2.1]; first | done | rfl, ⟨_, hea ▸ h, hQ, hZr, RF.sh hF (tnI (n := 24) (a := a) (by assumption) (by decide) (by assumption)) (tnI (n := 3) (a := b) (by assumption) (by decide) (by assumption)) (nI_clamp (by omega)) (by first | rfl | assumption) (by first | rfl | assumption), hg⟩, hK, rfl⟩)
                · exact absurd hc10 (by decide)
              · exact absurd hc9 (by decide)
        · refine lv_aload_n hx hb dX16_shift_43 rfl (lv_at hl 0 rfl) ?_
          refine lv_iload hx hb dX16_shift_44 (lv_at hl 4 rfl) ?_
          refine cV (S := (sI S 256 0 0)) (nA := 1) (As := [.int e_]) (rest := []) X w hl h.v (m_X16_isMonitor G (sI S 256 0 0) ea ns nj nm nt nr nq h e_) wY_X16_isMonitor wM_X16_241 wIn_X16_isMonitor wSe_X16_X16_isMonitor wI_X16 (by decide) rfl (by decide +kernel) rfl rfl dX16_shift_46 ⟨by decide, by decide⟩ (Nat.le_of_ble_eq_true rfl) (⟨Nat.le_of_ble_eq_true rfl, Nat.le_of_ble_eq_true rfl⟩) (fun v11 S1 H locs hp w => ?_)
          obtain ⟨rfl, rfl⟩ := hp
          refine lv_if_ne (tgt := 58) hx hb dX16_shift_49 (by decide) (fun hy49 => ?_) (fun hy49 => ?_)
          · obtain ⟨j12, hlj12, hvj12⟩ := out_in (n := nm) (by have hb1 := h.b_mo; omega) ((by simpa using b2i_t hy49))
            rw [hvj12] at hl
            refine lv_iload_n hx hb dX16_shift_58 rfl (lv_at hl 3 rfl) ?_
            refine lv_iconst (v := (-1)) hx hb dX16_shift_59 (by decide) ?_
            refine lv_icmp_ne (tgt := 67) hx hb dX16_shift_60 (by decide) (fun hc13 => ?_) (fun hc13 => ?_)
            · exact absurd hc13 (by decide)
            · refine lv_iconst (v := 1) hx hb dX16_shift_63 (by decide) ?_
              refine lv_goto (tgt := 68) hx hb dX16_shift_64 (by decide) ?_
              refine lv_iload hx hb dX16_shift_68 (lv_at hl 4 rfl) ?_
              refine lv_iconst (v := (-1)) hx hb dX16_shift_70 (by decide) ?_
              refine lv_icmp_ne (tgt := 78) hx hb dX16_shift_71 (by decide) (fun hd71 => ?_) (fun hd71 => ?_)
              · refine lv_iconst (v := 0) hx hb dX16_shift_78 (by decide) ?_
                refine lv_icmp_eq (tgt := 88) hx hb dX16_shift_79 (by decide) (fun hc14 => ?_) (fun hc14 => ?_)
                · exact absurd hc14 (by decide)
                · refine lv_aload_n hx hb dX16_shift_82 rfl (lv_at hl 0 rfl) ?_
                  refine lv_iconst (v := 2) hx hb dX16_shift_83 (by decide) ?_
                  refine cV (S := (sI S 256 0 0)) (nA := 1) (As := [.int 2]) (rest := []) X w hl h.v (m_X16_no G (sI S 256 0 0) ea ns nj nm nt nr nq h 2) wY_X16_no wM_X16_229 wIn_X16_no wSe_X16_X16_no wI_X16 (by decide) rfl (by decide +kernel) rfl rfl dX16_shift_84 ⟨by decide, by decide⟩ (Nat.le_of_ble_eq_true rfl) (⟨Nat.le_of_ble_eq_true rfl, Nat.le_of_ble_eq_true rfl⟩) (fun v15 S1 H locs hp w => ?_)
                  obtain ⟨rfl, rfl⟩ := hp
                  have h : RI ea (sI (sI S 256 0 0) 256 0 2) ns nj nm nt nr nq := h.stI (by decide)
                  have hK : Kq refU refB refR S (sI (sI S 256 0 0) 256 0 2) := hK.sI rfl
                  exact rI X w rfl dX16_shift_87 (by decide) (by decide) (pf_x (k := 2) (shK_2 (by simpa using b2i_t hy12) (by simpa using b2i_t hy21) (by first | exact Or.inl rfl | exact Or.inr ⟨_, by assumption, by assumption⟩) (by first | exact Or.inl rfl | exact Or.inr ⟨_, by assumption, by assumption⟩) (Nat.le_trans h.b_st (by decide)) (Nat.le_trans h.b_mo (by decide)) (by first | exact fun z => hmo (z.mp rfl) | exact fun z => hst (z.mpr rfl))) (by decide) (by decide) ⟨_, hea ▸ h, hQ, hZr, (hF.oI rfl).oI rfl, hg⟩)
              · exact absurd hd71 (nI_neg1 (by have := h.b_mo; omega))
          · refine lv_aload_n hx hb dX16_shift_52 rfl (lv_at hl 0 rfl) ?_
            refine lv_iconst (v := 1) hx hb dX16_shift_53 (by decide) ?_
            refine cV (S := (sI S 256 0 0)) (nA := 1) (As := [.int 1]) (rest := []) X w hl h.v (m_X16_no G (sI S 256 0 0) ea ns nj nm nt nr nq h 1) wY_X16_no wM_X16_229 wIn_X16_no wSe_X16_X16_no wI_X16 (by decide) rfl (by decide +kernel) rfl rfl dX16_shift_54 ⟨by decide, by decide⟩ (Nat.le_of_ble_eq_true rfl) (⟨Nat.le_of_ble_eq_true rfl, Nat.le_of_ble_eq_true rfl⟩) (fun v16 S1 H locs hp w => ?_)
            obtain ⟨rfl, rfl⟩ := hp
            have h : RI ea (sI (sI S 256 0 0) 256 0 1) ns nj nm nt nr nq := h.stI (by decide)
            have hK : Kq refU refB refR S (sI (sI S 256 0 0) 256 0 1) := hK.sI rfl
            exact rI X w rfl dX16_shift_57 (by decide) (by decide) (pf_x (k := 1) (by first | exact shK_1a (by simpa using b2i_f hy12) | exact shK_1b (by simpa using b2i_f hy21) | exact shK_1c hst (by simpa using b2i_f hy34) | exact shK_1d hmo (by simpa using b2i_f hy49)) (by decide) (by decide) ⟨_, hea ▸ h, hQ, hZr, (hF.oI rfl).oI rfl, hg⟩)
      · refine lv_aload_n hx hb dX16_shift_29 rfl (lv_at hl 0 rfl) ?_
        refine lv_iload_n hx hb dX16_shift_30 rfl (lv_at hl 3 rfl) ?_
        refine cV (S := (sI S 256 0 0)) (nA := 1) (As := [.int d]) (rest := []) X w hl h.v (m_X16_isStation G (sI S 256 0 0) ea ns nj nm nt nr nq h d) wY_X16_isStation wM_X16_235 wIn_X16_isStation wSe_X16_X16_isStation wI_X16 (by decide) rfl (by decide +kernel) rfl rfl dX16_shift_31 ⟨by decide, by decide⟩ (Nat.le_of_ble_eq_true rfl) (⟨Nat.le_of_ble_eq_true rfl, Nat.le_of_ble_eq_true rfl⟩) (fun v17 S1 H locs hp w => ?_)
        obtain ⟨rfl, rfl⟩ := hp
        refine lv_if_eq (tgt := 52) hx hb dX16_shift_34 (by decide) (fun hy34 => ?_) (fun hy34 => ?_)
        · refine lv_aload_n hx hb dX16_shift_52 rfl (lv_at hl 0 rfl) ?_
          refine lv_iconst (v := 1) hx hb dX16_shift_53 (by decide) ?_
          refine cV (S := (sI S 256 0 0)) (nA := 1) (As := [.int 1]) (rest := []) X w hl h.v (m_X16_no G (sI S 256 0 0) ea ns nj nm nt nr nq h 1) wY_X16_no wM_X16_229 wIn_X16_no wSe_X16_X16_no wI_X16 (by decide) rfl (by decide +kernel) rfl rfl dX16_shift_54 ⟨by decide, by decide⟩ (Nat.le_of_ble_eq_true rfl) (⟨Nat.le_of_ble_eq_true rfl, Nat.le_of_ble_eq_true rfl⟩) (fun v18 S1 H locs hp w => ?_)
          obtain ⟨rfl, rfl⟩ := hp
          have h : RI ea (sI (sI S 256 0 0) 256 0 1) ns nj nm nt nr nq := h.stI (by decide)
          have hK : Kq refU refB refR S (sI (sI S 256 0 0) 256 0 1) := hK.sI rfl
          exact rI X w rfl dX16_shift_57 (by decide) (by decide) (pf_x (k := 1) (by first | exact shK_1a (by simpa using b2i_f hy12) | exact shK_1b (by simpa using b2i_f hy21) | exact shK_1c hst (by simpa using b2i_f hy34) | exact shK_1d hmo (by simpa using b2i_f hy49)) (by decide) (by decide) ⟨_, hea ▸ h, hQ, hZr, (hF.oI rfl).oI rfl, hg⟩)
        · obtain ⟨j19, hlj19, hvj19⟩ := out_in (n := ns) (by have hb1 := h.b_st; omega) ((by simpa using b2i_t hy34))
          rw [hvj19] at hl
          refine lv_iload hx hb dX16_shift_37 (lv_at hl 4 rfl) ?_
          refine lv_iconst (v := (-1)) hx hb dX16_shift_39 (by decide) ?_
          refine lv_icmp_eq (tgt := 58) hx hb dX16_shift_40 (by decide) (fun hmo => ?_) (fun hmo => ?_)
          · obtain rfl : e_ = -1 := hmo
            refine lv_iload_n hx hb dX16_shift_58 rfl (lv_at hl 3 rfl) ?_
            refine lv_iconst (v := (-1)) hx hb dX16_shift_59 (by decide) ?_
            refine lv_icmp_ne (tgt := 67) hx hb dX16_shift_60 (by decide) (fun hd60 => ?_) (fun hd60 => ?_)
            · refine lv_iconst (v := 0) hx hb dX16_shift_67 (by decide) ?_
              refine lv_iload hx hb dX16_shift_68 (lv_at hl 4 rfl) ?_
              refine lv_iconst (v := (-1)) hx hb dX16_shift_70 (by decide) ?_
              refine lv_icmp_ne (tgt := 78) hx hb dX16_shift_71 (by decide) (fun hc20 => ?_) (fun hc20 => ?_)
              · exact absurd hc20 (by decide)
              · refine lv_iconst (v := 1) hx hb dX16_shift_74 (by decide) ?_
                refine lv_goto (tgt := 79) hx hb dX16_shift_75 (by decide) ?_
                refine lv_icmp_eq (tgt := 88) hx hb dX16_shift_79 (by decide) (fun hc21 => ?_) (fun hc21 => ?_)
                · exact absurd hc21 (by decide)
                · refine lv_aload_n hx hb dX16_shift_82 rfl (lv_at hl 0 rfl) ?_
                  refine lv_iconst (v := 2) hx hb dX16_shift_83 (by decide) ?_
                  refine cV (S := (sI S 256 0 0)) (nA := 1) (As := [.int 2]) (rest := []) X w hl h.v (m_X16_no G (sI S 256 0 0) ea ns nj nm nt nr nq h 2) wY_X16_no wM_X16_229 wIn_X16_no wSe_X16_X16_no wI_X16 (by decide) rfl (by decide +kernel) rfl rfl dX16_shift_84 ⟨by decide, by decide⟩ (Nat.le_of_ble_eq_true rfl) (⟨Nat.le_of_ble_eq_true rfl, Nat.le_of_ble_eq_true rfl⟩) (fun v22 S1 H locs hp w => ?_)
                  obtain ⟨rfl, rfl⟩ := hp
                  have h : RI ea (sI (sI S 256 0 0) 256 0 2) ns nj nm nt nr nq := h.stI (by decide)
                  have hK : Kq refU refB refR S (sI (sI S 256 0 0) 256 0 2) := hK.sI rfl
                  exact rI X w rfl dX16_shift_87 (by decide) (by decide) (pf_x (k := 2) (shK_2 (by simpa using b2i_t hy12) (by simpa using b2i_t hy21) (by first | exact Or.inl rfl | exact Or.inr ⟨_, by assumption, by assumption⟩) (by first | exact Or.inl rfl | exact Or.inr ⟨_, by assumption, by assumption⟩) (Nat.le_trans h.b_st (by decide)) (Nat.le_trans h.b_mo (by decide)) (by first | exact fun z => hmo (z.mp rfl) | exact fun z => hst (z.mpr rfl))) (by decide) (by decide) ⟨_, hea ▸ h, hQ, hZr, (hF.oI rfl).oI rfl, hg⟩)
            · exact absurd hd60 (nI_neg1 (by have := h.b_st; omega))
          · refine lv_aload_n hx hb dX16_shift_43 rfl (lv_at hl 0 rfl) ?_
            refine lv_iload hx hb dX16_shift_44 (lv_at hl 4 rfl) ?_
            refine cV (S := (sI S 256 0 0)) (nA := 1) (As := [.int e_]) (rest := []) X w hl h.v (m_X16_isMonitor G (sI S 256 0 0) ea ns nj nm nt nr nq h e_) wY_X16_isMonitor wM_X16_241 wIn_X16_isMonitor wSe_X16_X16_isMonitor wI_X16 (by decide) rfl (by decide +kernel) rfl rfl dX16_shift_46 ⟨by decide, by decide⟩ (Nat.le_of_ble_eq_true rfl) (⟨Nat.le_of_ble_eq_true rfl, Nat.le_of_ble_eq_true rfl⟩) (fun v23 S1 H locs hp w => ?_)
            obtain ⟨rfl, rfl⟩ := hp
            refine lv_if_ne (tgt := 58) hx hb dX16_shift_49 (by decide) (fun hy49 => ?_) (fun hy49 => ?_)
            · obtain ⟨j24, hlj24, hvj24⟩ := out_in (n := nm) (by have hb1 := h.b_mo; omega) ((by simpa using b2i_t hy49))
              rw [hvj24] at hl
              refine lv_iload_n hx hb dX16_shift_58 rfl (lv_at hl 3 rfl) ?_
              refine lv_iconst (v := (-1)) hx hb dX16_shift_59 (by decide) ?_
              refine lv_icmp_ne (tgt := 67) hx hb dX16_shift_60 (by decide) (fun hd60 => ?_) (fun hd60 => ?_)
              · refine lv_iconst (v := 0) hx hb dX16_shift_67 (by decide) ?_
                refine lv_iload hx hb dX16_shift_68 (lv_at hl 4 rfl) ?_
                refine lv_iconst (v := (-1)) hx hb dX16_shift_70 (by decide) ?_
                refine lv_icmp_ne (tgt := 78) hx hb dX16_shift_71 (by decide) (fun hd71 => ?_) (fun hd71 => ?_)
                · refine lv_iconst (v := 0) hx hb dX16_shift_78 (by decide) ?_
                  refine lv_icmp_eq (tgt := 88) hx hb dX16_shift_79 (by decide) (fun hc25 => ?_) (fun hc25 => ?_)
                  · refine lv_iload hx hb dX16_shift_88 (lv_at hl 4 rfl) ?_
                    refine lv_iconst (v := (-1)) hx hb dX16_shift_90 (by decide) ?_
                    refine lv_icmp_eq (tgt := 122) hx hb dX16_shift_91 (by decide) (fun hd91 => ?_) (fun hd91 => ?_)
                    · exact absurd hd91 (nI_neg1 (by have := h.b_mo; omega))
                    · refine lv_aload_n hx hb dX16_shift_94 rfl (lv_at hl 0 rfl) ?_
                      refine lv_iload hx hb dX16_shift_95 (lv_at hl 4 rfl) ?_
                      refine lv_iload_n hx hb dX16_shift_97 rfl (lv_at hl 1 rfl) ?_
                      refine cV (S := (sI S 256 0 0)) (nA := 2) (As := [.int (nI j24), .int (nI j3)]) (rest := []) X w hl h.v (m_X16_setOf G (sI S 256 0 0) ea ns nj nm nt nr nq h (nI j24) j3 hlj3) wY_X16_setOf wM_X16_208 wIn_X16_setOf wSe_X16_X16_setOf wI_X16 (by decide) rfl (by decide +kernel) rfl rfl dX16_shift_98 ⟨by decide, by decide⟩ (Nat.le_of_ble_eq_true rfl) (⟨Nat.le_of_ble_eq_true rfl, Nat.le_of_ble_eq_true rfl⟩) (fun v26 S1 H locs hp w => ?_)
                      obtain ⟨rfl, rfl⟩ := hp
                      refine lv_iconst (v := (-1)) hx hb dX16_shift_101 (by decide) ?_
                      refine lv_icmp_eq (tgt := 122) hx hb dX16_shift_102 (by decide) (fun hs1 => ?_) (fun hs1 => ?_)
                      · refine lv_aload_n hx hb dX16_shift_122 rfl (lv_at hl 0 rfl) ?_
                        refine g_16_12 (S := (sI S 256 0 0)) (x := (some (gG (sI S 256 0 0) 38 0))) X w h.v wF_X16_37 (h.h1.2.2) dX16_shift_123 ?_
                        refine lv_iload_n hx hb dX16_shift_126 rfl (lv_at hl 1 rfl) ?_
                        refine aLdR (S := (sI S 256 0 0)) (t := 38) (v := (some (gG (sI S 256 0 0) 36 j3))) X w h.h1.1 (by decide) rfl rfl (Or.inr ⟨_, rfl⟩) (by rw [show mN (sI S 256 0 0) 38 0 = 24 from h.h1.2.1]; exact nI_vp hlj3 (by decide)) (by rw [cl_nI (n := 24) hlj3 (by decide)]; exact (h.h2 j3 hlj3).1) dX16_shift_127 ?_
                        refine lv_iload_n hx hb dX16_shift_128 rfl (lv_at hl 2 rfl) ?_
                        refine aLdI (S := (sI S 256 0 0)) (t := 36) (v := mA (sI S 256 0 0) 36 j3 j6) X w (h.h2 j3 hlj3).2.1 (by decide) rfl rfl (by rw [show mN (sI S 256 0 0) 36 j3 = 3 from (h.h2 j3 hlj3).2.2]; exact nI_vp hlj6 (by decide)) (by rw [cl_nI (n := 3) hlj6 (by decide)]) dX16_shift_129 ?_
                        refine lv_istore (lv' := [(5, .int (mA (sI S 256 0 0) 36 j3 j6)), (0, .ref (gG S 16 0)), (1, .int (nI j3)), (2, .int (nI j6)), (3, .int (nI j19)), (4, .int (nI j24))]) hx hb dX16_shift_130 hl (by decide) rfl (fun ls hl => ?_)
                        refine lv_aload_n hx hb dX16_shift_132 rfl (lv_at hl 1 rfl) ?_
                        refine g_16_12 (S := (sI S 256 0 0)) (x := (some (gG (sI S 256 0 0) 38 0))) X w h.v wF_X16_37 (h.h1.2.2) dX16_shift_133 ?_
                        refine lv_iload_n hx hb dX16_shift_136 rfl (lv_at hl 2 rfl) ?_
                        refine aLdR (S := (sI S 256 0 0)) (t := 38) (v := (some (gG (sI S 256 0 0) 36 j3))) X w h.h1.1 (by decide) rfl rfl (Or.inr ⟨_, rfl⟩) (by rw [show mN (sI S 256 0 0) 38 0 = 24 from h.h1.2.1]; exact nI_vp hlj3 (by decide)) (by rw [cl_nI (n := 24) hlj3 (by decide)]; exact (h.h2 j3 hlj3).1) dX16_shift_137 ?_
                        refine lv_iload_n hx hb dX16_shift_138 rfl (lv_at hl 3 rfl) ?_
                        refine lv_iload_n hx hb dX16_shift_139 rfl (lv_at hl 4 rfl) ?_
                        refine aStI (S := (sI S 256 0 0)) (t := 36) X w (h.h2 j3 hlj3).2.1 (by decide) rfl rfl (by rw [show mN (sI S 256 0 0) 36 j3 = 3 from (h.h2 j3 hlj3).2.2]; exact nI_vp hlj6 (by decide)) dX16_shift_140 (fun H locs w => ?_)
                        refine lv_aload_n hx hb dX16_shift_141 rfl (lv_at hl 1 rfl) ?_
                        refine g_16_13 (S := (sA (sI S 256 0 0) 36 j3 (upd (mA (sI S 256 0 0) 36 j3) (nI j6).toNatClampNeg (nI j19)))) (x := (some (gG (sA (sI S 256 0 0) 36 j3 (upd (mA (sI S 256 0 0) 36 j3) (nI j6).toNatClampNeg (nI j19))) 38 1))) X w h.v wF_X16_40 (h.s1.2.2) dX16_shift_142 ?_
                        refine lv_iload_n hx hb dX16_shift_145 rfl (lv_at hl 2 rfl) ?_
                        refine aLdR (S := (sA (sI S 256 0 0) 36 j3 (upd (mA (sI S 256 0 0) 36 j3) (nI j6).toNatClampNeg (nI j19)))) (t := 38) (v := (some (gG (sA (sI S 256 0 0) 36 j3 (upd (mA (sI S 256 0 0) 36 j3) (nI j6).toNatClampNeg (nI j19))) 37 j3))) X w h.s1.1 (by decide) rfl rfl (Or.inr ⟨_, rfl⟩) (by rw [show mN (sA (sI S 256 0 0) 36 j3 (upd (mA (sI S 256 0 0) 36 j3) (nI j6).toNatClampNeg (nI j19))) 38 1 = 24 from h.s1.2.1]; exact nI_vp hlj3 (by decide)) (by rw [cl_nI (n := 24) hlj3 (by decide)]; exact (h.s2 j3 hlj3).1) dX16_shift_146 ?_
                        refine lv_iload_n hx hb dX16_shift_147 rfl (lv_at hl 3 rfl) ?_
                        refine lv_iload hx hb dX16_shift_148 (lv_at hl 5 rfl) ?_
                        refine aStI (S := (sA (sI S 256 0 0) 36 j3 (upd (mA (sI S 256 0 0) 36 j3) (nI j6).toNatClampNeg (nI j19)))) (t := 37) X w (h.s2 j3 hlj3).2.1 (by decide) rfl rfl (by rw [show mN (sA (sI S 256 0 0) 36 j3 (upd (mA (sI S 256 0 0) 36 j3) (nI j6).toNatClampNeg (nI j19))) 37 j3 = 3 from (h.s2 j3 hlj3).2.2]; exact nI_vp hlj6 (by decide)) dX16_shift_150 (fun H locs w => ?_)
                        have h : RI ea (sA (sA (sI S 256 0 0) 36 j3 (upd (mA (sI S 256 0 0) 36 j3) (nI j6).toNatClampNeg (nI j19))) 37 j3 (upd (mA (sA (sI S 256 0 0) 36 j3 (upd (mA (sI S 256 0 0) 36 j3) (nI j6).toNatClampNeg (nI j19))) 37 j3) (nI j6).toNatClampNeg (nI j24))) ns nj nm nt nr nq := h.shift hlj3 hlj6 (by first | exact Or.inl rfl | exact Or.inr ⟨_, by assumption, rfl⟩) (by first | exact Or.inl rfl | exact Or.inr ⟨_, by assumption, rfl⟩) (v3_of (by have := h.b_st; have := h.b_mo; first | exact Or.inl ⟨rfl, rfl⟩ | exact Or.inr (Or.inl ⟨nI_neg1 (by omega), nI_neg1 (by omega)⟩) | exact Or.inr (Or.inr ⟨by first | rfl | assumption, by first | rfl | assumption⟩)))
                        have hK : Kq refU refB refR S (sA (sA (sI S 256 0 0) 36 j3 (upd (mA (sI S 256 0 0) 36 j3) (nI j6).toNatClampNeg (nI j19))) 37 j3 (upd (mA (sA (sI S 256 0 0) 36 j3 (upd (mA (sI S 256 0 0) 36 j3) (nI j6).toNatClampNeg (nI j19))) 37 j3) (nI j6).toNatClampNeg (nI j24))) := (hK.sA rfl).sA rfl
                        refine lv_iload hx hb dX16_shift_151 (lv_at hl 0 rfl) ?_
                        exact rI X w rfl dX16_shift_153 (by decide) (by decide) (Or.inr ⟨shK_0 (by simpa using b2i_t hy12) (by simpa using b2i_t hy21) (by first | exact Or.inl rfl | exact Or.inr ⟨_, by assumption, by assumption⟩) (by first | exact Or.inl rfl | exact Or.inr ⟨_, by assumption, by assumption⟩) (Nat.le_trans h.b_st (by decide)) (Nat.le_trans h.b_mo (by decide)) (by first | exact ⟨fun _ => rfl, fun _ => rfl⟩ | exact ⟨fun z => absurd z hst, fun z => absurd z hmo⟩) (by first | exact Or.inl rfl | exact Or.inr ((hE.els a b e_).symm.trans (rElse_f1 (by assumption) (by assumption) (by assumption) hs1)) | exact Or.inr ((hE.els a b e_).symm.trans (rElse_f2 (by assumption) (by assumption) (by assumption) (by assumption) hs2))), by rw [tnI (n := 24) (a := a) (by assumption) (by decide) (by assumption), tnI (n := 3) (a := b) (by assumption) (by decide) (by assumption), ← (hE.2.2.1 _).2.1]; first | done | rfl, ⟨_, hea ▸ h, hQ, hZr, RF.sh hF (tnI (n := 24) (a := a) (by assumption) (by decide) (by assumption)) (tnI (n := 3) (a := b) (by assumption) (by decide) (by assumption)) (nI_clamp (by omega)) (by first | rfl | assumption) (by first | rfl | assumption), hg⟩, hK, rfl⟩)
                      · refine lv_aload_n hx hb dX16_shift_105 rfl (lv_at hl 0 rfl) ?_
                        refine lv_iload hx hb dX16_shift_106 (lv_at hl 4 rfl) ?_
                        refine lv_iload_n hx hb dX16_shift_108 rfl (lv_at hl 1 rfl) ?_
                        refine cV (S := (sI S 256 0 0)) (nA := 2) (As := [.int (nI j24), .int (nI j3)]) (rest := []) X w hl h.v (m_X16_setOf G (sI S 256 0 0) ea ns nj nm nt nr nq h (nI j24) j3 hlj3) wY_X16_setOf wM_X16_208 wIn_X16_setOf wSe_X16_X16_setOf wI_X16 (by decide) rfl (by decide +kernel) rfl rfl dX16_shift_109 ⟨by decide, by decide⟩ (Nat.le_of_ble_eq_true rfl) (⟨Nat.le_of_ble_eq_true rfl, Nat.le_of_ble_eq_true rfl⟩) (fun v27 S1 H locs hp w => ?_)
                        obtain ⟨rfl, rfl⟩ := hp
                        refine lv_iload_n hx hb dX16_shift_112 rfl (lv_at hl 2 rfl) ?_
                        refine lv_icmp_eq (tgt := 122) hx hb dX16_shift_113 (by decide) (fun hs2 => ?_) (fun hs2 => ?_)
                        · refine lv_aload_n hx hb dX16_shift_122 rfl (lv_at hl 0 rfl) ?_
                          refine g_16_12 (S := (sI S 256 0 0)) (x := (some (gG (sI S 256 0 0) 38 0))) X w h.v wF_X16_37 (h.h1.2.2) dX16_shift_123 ?_
                          refine lv_iload_n hx hb dX16_shift_126 rfl (lv_at hl 1 rfl) ?_
                          refine aLdR (S := (sI S 256 0 0)) (t := 38) (v := (some (gG (sI S 256 0 0) 36 j3))) X w h.h1.1 (by decide) rfl rfl (Or.inr ⟨_, rfl⟩) (by rw [show mN (sI S 256 0 0) 38 0 = 24 from h.h1.2.1]; exact nI_vp hlj3 (by decide)) (by rw [cl_nI (n := 24) hlj3 (by decide)]; exact (h.h2 j3 hlj3).1) dX16_shift_127 ?_
                          refine lv_iload_n hx hb dX16_shift_128 rfl (lv_at hl 2 rfl) ?_
                          refine aLdI (S := (sI S 256 0 0)) (t := 36) (v := mA (sI S 256 0 0) 36 j3 j6) X w (h.h2 j3 hlj3).2.1 (by decide) rfl rfl (by rw [show mN (sI S 256 0 0) 36 j3 = 3 from (h.h2 j3 hlj3).2.2]; exact nI_vp hlj6 (by decide)) (by rw [cl_nI (n := 3) hlj6 (by decide)]) dX16_shift_129 ?_
                          refine lv_istore (lv' := [(5, .int (mA (sI S 256 0 0) 36 j3 j6)), (0, .ref (gG S 16 0)), (1, .int (nI j3)), (2, .int (nI j6)), (3, .int (nI j19)), (4, .int (nI j24))]) hx hb dX16_shift_130 hl (by decide) rfl (fun ls hl => ?_)
                          refine lv_aload_n hx hb dX16_shift_132 rfl (lv_at hl 1 rfl) ?_
                          refine g_16_12 (S := (sI S 256 0 0)) (x := (some (gG (sI S 256 0 0) 38 0))) X w h.v wF_X16_37 (h.h1.2.2) dX16_shift_133 ?_
                          refine lv_iload_n hx hb dX16_shift_136 rfl (lv_at hl 2 rfl) ?_
                          refine aLdR (S := (sI S 256 0 0)) (t := 38) (v := (some (gG (sI S 256 0 0) 36 j3))) X w h.h1.1 (by decide) rfl rfl (Or.inr ⟨_, rfl⟩) (by rw [show mN (sI S 256 0 0) 38 0 = 24 from h.h1.2.1]; exact nI_vp hlj3 (by decide)) (by rw [cl_nI (n := 24) hlj3 (by decide)]; exact (h.h2 j3 hlj3).1) dX16_shift_137 ?_
                          refine lv_iload_n hx hb dX16_shift_138 rfl (lv_at hl 3 rfl) ?_
                          refine lv_iload_n hx hb dX16_shift_139 rfl (lv_at hl 4 rfl) ?_
                          refine aStI (S := (sI S 256 0 0)) (t := 36) X w (h.h2 j3 hlj3).2.1 (by decide) rfl rfl (by rw [show mN (sI S 256 0 0) 36 j3 = 3 from (h.h2 j3 hlj3).2.2]; exact nI_vp hlj6 (by decide)) dX16_shift_140 (fun H locs w => ?_)
                          refine lv_aload_n hx hb dX16_shift_141 rfl (lv_at hl 1 rfl) ?_
                          refine g_16_13 (S := (sA (sI S 256 0 0) 36 j3 (upd (mA (sI S 256 0 0) 36 j3) (nI j6).toNatClampNeg (nI j19)))) (x := (some (gG (sA (sI S 256 0 0) 36 j3 (upd (mA (sI S 256 0 0) 36 j3) (nI j6).toNatClampNeg (nI j19))) 38 1))) X w h.v wF_X16_40 (h.s1.2.2) dX16_shift_142 ?_
                          refine lv_iload_n hx hb dX16_shift_145 rfl (lv_at hl 2 rfl) ?_
                          refine aLdR (S := (sA (sI S 256 0 0) 36 j3 (upd (mA (sI S 256 0 0) 36 j3) (nI j6).toNatClampNeg (nI j19)))) (t := 38) (v := (some (gG (sA (sI S 256 0 0) 36 j3 (upd (mA (sI S 256 0 0) 36 j3) (nI j6).toNatClampNeg (nI j19))) 37 j3))) X w h.s1.1 (by decide) rfl rfl (Or.inr ⟨_, rfl⟩) (by rw [show mN (sA (sI S 256 0 0) 36 j3 (upd (mA (sI S 256 0 0) 36 j3) (nI j6).toNatClampNeg (nI j19))) 38 1 = 24 from h.s1.2.1]; exact nI_vp hlj3 (by decide)) (by rw [cl_nI (n := 24) hlj3 (by decide)]; exact (h.s2 j3 hlj3).1) dX16_shift_146 ?_
                          refine lv_iload_n hx hb dX16_shift_147 rfl (lv_at hl 3 rfl) ?_
                          refine lv_iload hx hb dX16_shift_148 (lv_at hl 5 rfl) ?_
                          refine aStI (S := (sA (sI S 256 0 0) 36 j3 (upd (mA (sI S 256 0 0) 36 j3) (nI j6).toNatClampNeg (nI j19)))) (t := 37) X w (h.s2 j3 hlj3).2.1 (by decide) rfl rfl (by rw [show mN (sA (sI S 256 0 0) 36 j3 (upd (mA (sI S 256 0 0) 36 j3) (nI j6).toNatClampNeg (nI j19))) 37 j3 = 3 from (h.s2 j3 hlj3).2.2]; exact nI_vp hlj6 (by decide)) dX16_shift_150 (fun H locs w => ?_)
                          have h : RI ea (sA (sA (sI S 256 0 0) 36 j3 (upd (mA (sI S 256 0 0) 36 j3) (nI j6).toNatClampNeg (nI j19))) 37 j3 (upd (mA (sA (sI S 256 0 0) 36 j3 (upd (mA (sI S 256 0 0) 36 j3) (nI j6).toNatClampNeg (nI j19))) 37 j3) (nI j6).toNatClampNeg (nI j24))) ns nj nm nt nr nq := h.shift hlj3 hlj6 (by first | exact Or.inl rfl | exact Or.inr ⟨_, by assumption, rfl⟩) (by first | exact Or.inl rfl | exact Or.inr ⟨_, by assumption, rfl⟩) (v3_of (by have := h.b_st; have := h.b_mo; first | exact Or.inl ⟨rfl, rfl⟩ | exact Or.inr (Or.inl ⟨nI_neg1 (by omega), nI_neg1 (by omega)⟩) | exact Or.inr (Or.inr ⟨by first | rfl | assumption, by first | rfl | assumption⟩)))
                          have hK : Kq refU refB refR S (sA (sA (sI S 256 0 0) 36 j3 (upd (mA (sI S 256 0 0) 36 j3) (nI j6).toNatClampNeg (nI j19))) 37 j3 (upd (mA (sA (sI S 256 0 0) 36 j3 (upd (mA (sI S 256 0 0) 36 j3) (nI j6).toNatClampNeg (nI j19))) 37 j3) (nI j6).toNatClampNeg (nI j24))) := (hK.sA rfl).sA rfl
                          refine lv_iload hx hb dX16_shift_151 (lv_at hl 0 rfl) ?_
                          exact rI X w rfl dX16_shift_153 (by decide) (by decide) (Or.inr ⟨shK_0 (by simpa using b2i_t hy12) (by simpa using b2i_t hy21) (by first | exact Or.inl rfl | exact Or.inr ⟨_, by assumption, by assumption⟩) (by first | exact Or.inl rfl | exact Or.inr ⟨_, by assumption, by assumption⟩) (Nat.le_trans h.b_st (by decide)) (Nat.le_trans h.b_mo (by decide)) (by first | exact ⟨fun _ => rfl, fun _ => rfl⟩ | exact ⟨fun z => absurd z hst, fun z => absurd z hmo⟩) (by first | exact Or.inl rfl | exact Or.inr ((hE.els a b e_).symm.trans (rElse_f1 (by assumption) (by assumption) (by assumption) hs1)) | exact Or.inr ((hE.els a b e_).symm.trans (rElse_f2 (by assumption) (by assumption) (by assumption) (by assumption) hs2))), by rw [tnI (n := 24) (a := a) (by assumption) (by decide) (by assumption), tnI (n := 3) (a := b) (by assumption) (by decide) (by assumption), ← (hE.2.2.1 _).2.1]; first | done | rfl, ⟨_, hea ▸ h, hQ, hZr, RF.sh hF (tnI (n := 24) (a := a) (by assumption) (by decide) (by assumption)) (tnI (n := 3) (a := b) (by assumption) (by decide) (by assumption)) (nI_clamp (by omega)) (by first | rfl | assumption) (by first | rfl | assumption), hg⟩, hK, rfl⟩)
                        · refine lv_aload_n hx hb dX16_shift_116 rfl (lv_at hl 0 rfl) ?_
                          refine lv_iconst (v := 3) hx hb dX16_shift_117 (by decide) ?_
                          refine cV (S := (sI S 256 0 0)) (nA := 1) (As := [.int 3]) (rest := []) X w hl h.v (m_X16_no G (sI S 256 0 0) ea ns nj nm nt nr nq h 3) wY_X16_no wM_X16_229 wIn_X16_no wSe_X16_X16_no wI_X16 (by decide) rfl (by decide +kernel) rfl rfl dX16_shift_118 ⟨by decide, by decide⟩ (Nat.le_of_ble_eq_true rfl) (⟨Nat.le_of_ble_eq_true rfl, Nat.le_of_ble_eq_true rfl⟩) (fun v28 S1 H locs hp w => ?_)
                          obtain ⟨rfl, rfl⟩ := hp
                          have h : RI ea (sI (sI S 256 0 0) 256 0 3) ns nj nm nt nr nq := h.stI (by decide)
                          have hK : Kq refU refB refR S (sI (sI S 256 0 0) 256 0 3) := hK.sI rfl
                          exact rI X w rfl dX16_shift_121 (by decide) (by decide) (pf_x (k := 3) (shK_3 (by simpa using b2i_t hy12) (by simpa using b2i_t hy21) (by first | exact Or.inl rfl | exact Or.inr ⟨_, by assumption, by assumption⟩) (by first | exact Or.inl rfl | exact Or.inr ⟨_, by assumption, by assumption⟩) (Nat.le_trans h.b_st (by decide)) (Nat.le_trans h.b_mo (by decide)) ⟨fun z => absurd z hst, fun z => absurd z hmo⟩ hmo ((hE.els a b e_).symm.trans (rElse_t (by assumption) (by assumption) (by assumption) (by assumption) hs1 hs2))) (by decide) (by decide) ⟨_, hea ▸ h, hQ, hZr, (hF.oI rfl).oI rfl, hg⟩)
                  · exact absurd hc25 (by decide)
                · exact absurd hd71 (nI_neg1 (by have := h.b_mo; omega))
              · exact absurd hd60 (nI_neg1 (by have := h.b_st; omega))
            · refine lv_aload_n hx hb dX16_shift_52 rfl (lv_at hl 0 rfl) ?_
              refine lv_iconst (v := 1) hx hb dX16_shift_53 (by decide) ?_
              refine cV (S := (sI S 256 0 0)) (nA := 1) (As := [.int 1]) (rest := []) X w hl h.v (m_X16_no G (sI S 256 0 0) ea ns nj nm nt nr nq h 1) wY_X16_no wM_X16_229 wIn_X16_no wSe_X16_X16_no wI_X16 (by decide) rfl (by decide +kernel) rfl rfl dX16_shift_54 ⟨by decide, by decide⟩ (Nat.le_of_ble_eq_true rfl) (⟨Nat.le_of_ble_eq_true rfl, Nat.le_of_ble_eq_true rfl⟩) (fun v29 S1 H locs hp w => ?_)
              obtain ⟨rfl, rfl⟩ := hp
              have h : RI ea (sI (sI S 256 0 0) 256 0 1) ns nj nm nt nr nq := h.stI (by decide)
              have hK : Kq refU refB refR S (sI (sI S 256 0 0) 256 0 1) := hK.sI rfl
              exact rI X w rfl dX16_shift_57 (by decide) (by decide) (pf_x (k := 1) (by first | exact shK_1a (by simpa using b2i_f hy12) | exact shK_1b (by simpa using b2i_f hy21) | exact shK_1c hst (by simpa using b2i_f hy34) | exact shK_1d hmo (by simpa using b2i_f hy49)) (by decide) (by decide) ⟨_, hea ▸ h, hQ, hZr, (hF.oI rfl).oI rfl, hg⟩)

