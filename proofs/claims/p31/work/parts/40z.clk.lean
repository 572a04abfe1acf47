/-- the class is in order, and has what is told -/
def CX (ea : Nat) (S : HS) (cn : Cn) : Prop := ∃ nc, CI ea S cn.1 cn.2.1 cn.2.2.1 cn.2.2.2.2.1 cn.2.2.2.1 nc ∧ RH S cn.2.2.2.2.1 ∧ RK S cn.2.2.2.2.2.2 cn.1 cn.2.1 cn.2.2.1 cn.2.2.2.2.1 cn.2.2.2.1 nc ∧ mI S 164 0 = nI cn.2.2.2.2.2.1 ∧ cn.2.2.2.2.2.1 ≤ 720 ∧ mI cn.2.2.2.2.2.2 257 0 = nI cn.2.2.2.2.2.1 ∧ DS cn.2.2.2.2.2.2 cn.2.2.2.2.1
def PKi (ea : Nat) (S : HS) (cn : Cn) : Option Value → HS → Prop := fun v S' => (∃ x : Int32, some (.int x) = v) ∧ CX ea S' cn ∧ Keep S S'
def PKz (ea : Nat) (S : HS) (cn : Cn) : Option Value → HS → Prop := fun v S' => (∃ b : Bool, some (.int (b2i b)) = v) ∧ CX ea S' cn ∧ Keep S S'
def PKl (ea : Nat) (S : HS) (cn : Cn) : Option Value → HS → Prop := fun v S' => (∃ x : Int64, some (.long x) = v) ∧ CX ea S' cn ∧ Keep S S'
def XK (ea : Nat) (S : HS) (cn : Cn) (L : List String) : String → HS → Prop := fun E S' => E ∈ L ∧ CX ea S' cn ∧ Keep S S'
theorem stA_7 {A : HS} {n : Nat} {a b d g e f : Int32} : mI (stA A n a b d g e f) 257 0 = mI A 257 0 := by simp [stA, uI_I, uI_R, uI_A, uI_Arr, uI_N, uI_add, uR_I, uR_R, uR_A, uR_Arr, uR_N, uR_add, uG_I, uG_R, uG_A, uG_Arr, uG_N, uG_add, uA_I, uA_R, uA_A, uA_Arr, uA_N, uA_add]
theorem moC_7 {A : HS} {n : Nat} {a : Int32} : mI (moC A n a) 257 0 = mI A 257 0 := by simp [moC, uI_I, uI_R, uI_A, uI_Arr, uI_N, uI_add, uR_I, uR_R, uR_A, uR_Arr, uR_N, uR_add, uG_I, uG_R, uG_A, uG_Arr, uG_N, uG_add, uA_I, uA_R, uA_A, uA_Arr, uA_N, uA_add]
theorem reC_7 {A : HS} {n : Nat} {a b : Int32} : mI (reC A n a b) 257 0 = mI A 257 0 := by simp [reC, uI_I, uI_R, uI_A, uI_Arr, uI_N, uI_add, uR_I, uR_R, uR_A, uR_Arr, uR_N, uR_add, uG_I, uG_R, uG_A, uG_Arr, uG_N, uG_add, uA_I, uA_R, uA_A, uA_Arr, uA_N, uA_add]
theorem taC_7 {A : HS} {n : Nat} {a b d g e f : Int32} : mI (taC A n a b d g e f) 257 0 = mI A 257 0 := by simp [taC, taA, uI_I, uI_R, uI_A, uI_Arr, uI_N, uI_add, uR_I, uR_R, uR_A, uR_Arr, uR_N, uR_add, uG_I, uG_R, uG_A, uG_Arr, uG_N, uG_add, uA_I, uA_R, uA_A, uA_Arr, uA_N, uA_add]
theorem sI_7 {A : HS} {f i : Nat} {v : Int32} (hf : ¬ f = 257) : mI (sI A f i v) 257 0 = mI A 257 0 := up2_n (fun y => hf y.1.symm)
theorem hoN_7 {A : HS} {ns nj nm nt nr g : Nat} : ∀ n, 1 ≤ n → mI (hoN A ns nj nm nt nr g n) 257 0 = nI (g + n)
  | 0, h => absurd h (by decide)
  | n + 1, _ => by
    show mI (dyA (sI (hoB (hoN A ns nj nm nt nr g n) ns nj nm nt nr (g + n)) 257 0 (nI (g + n + 1))) (g + n)) 257 0 = nI (g + n + 1)
    generalize hoB (hoN A ns nj nm nt nr g n) ns nj nm nt nr (g + n) = B
    unfold dyA
    split
    · exact (sI_7 (f := 258) (i := 0) (v := 600) (by decide)).trans sI_s
    · exact sI_s
theorem taK_x {n m : Nat} {h a b d g e f : Int32} {on has : Bool} (k : taK n m h a b d g e f on has = 0) : (∃ w, w ≤ 9 ∧ e = nI w) ∧ ∃ x, x < 65536 ∧ f = nI x := by
  unfold taK at k
  by_cases c1 : sOut a 0 (nI n - 1) = true
  · rw [if_pos c1] at k; exact absurd k (by decide)
  rw [if_neg c1] at k
  by_cases c2 : taX h b d g e f = true
  · rw [if_pos c2] at k; exact absurd k (by decide)
  have c3 := Bool.eq_false_iff.mpr c2
  unfold taX at c3
  rw [Bool.or_eq_false_iff, Bool.or_eq_false_iff, Bool.or_eq_false_iff, Bool.or_eq_false_iff] at c3
  obtain ⟨w, hw, ew⟩ := out_in (n := 10) (k := e) (by decide) c3.2.2.2.1
  exact ⟨⟨w, by omega, ew⟩, out_in (n := 65536) (by decide) c3.2.2.2.2⟩
theorem prK_1 {n : Nat} {a b q : Int32} (z : sOut a 0 (nI n - 1) = true) : prK n a b q = 1 := if_pos z
theorem prK_2 {n : Nat} {a b q : Int32} (z : sOut a 0 (nI n - 1) = false) (y : sOut b 0 65535 = true) : prK n a b q = 2 := (if_neg (by rw [z]; decide)).trans (if_pos y)
theorem prK_3 {n : Nat} {a b q : Int32} (z : sOut a 0 (nI n - 1) = false) (y : sOut b 0 65535 = false) (x : ¬ q = -1) : prK n a b q = 3 := (if_neg (by rw [z]; decide)).trans ((if_neg (by rw [y]; decide)).trans (if_pos x))
theorem prK_0 {n : Nat} {a b q : Int32} (z : sOut a 0 (nI n - 1) = false) (y : sOut b 0 65535 = false) (x : q = -1) : prK n a b q = 0 := (if_neg (by rw [z]; decide)).trans ((if_neg (by rw [y]; decide)).trans (if_neg (fun u => u x)))
theorem asK_1 {n : Nat} {a b d : Int32} (z : sOut a 0 (nI n - 1) = true) : asK n a b d = 1 := if_pos z
theorem asK_2 {n : Nat} {a b d : Int32} (z : sOut a 0 (nI n - 1) = false) (y : (sOut b 0 63 || sOut d 0 65535) = true) : asK n a b d = 2 := (if_neg (by rw [z]; decide)).trans (if_pos y)
theorem asK_0 {n : Nat} {a b d : Int32} (z : sOut a 0 (nI n - 1) = false) (y : sOut b 0 63 = false) (x : sOut d 0 65535 = false) : asK n a b d = 0 := (if_neg (by rw [z]; decide)).trans (if_neg (by rw [y, x]; decide))
def goK (n m : Nat) (a b : Int32) : Nat := if (sOut a 0 (nI n - 1) || sOut b 0 (nI m - 1)) = true then 1 else 0
def quK (n m : Nat) (a b d : Int32) : Nat := if (sOut a 0 (nI m - 1) || (sOut b 0 (nI n - 1) || sOut d 0 23)) = true then 1 else 0
def usK (a b : Int32) : Nat := if (sOut a 0 5 || sOut b 0 15) = true then 1 else 0
def whK (n : Nat) (a t g : Int32) : Nat := if sOut a 0 (nI n - 1) = true then 1 else if t < g then 2 else 0
theorem whK_1 {n : Nat} {a t g : Int32} (z : sOut a 0 (nI n - 1) = true) : whK n a t g = 1 := if_pos z
theorem whK_2 {n : Nat} {a t g : Int32} (z : sOut a 0 (nI n - 1) = false) (y : t < g) : whK n a t g = 2 := (if_neg (by rw [z]; decide)).trans (if_pos y)
theorem whK_0 {n : Nat} {a t g : Int32} (z : sOut a 0 (nI n - 1) = false) (y : ¬ t < g) : whK n a t g = 0 := (if_neg (by rw [z]; decide)).trans (if_neg y)
def laK (a m : Int32) : Nat := if sOut a 0 m = true then 1 else 0
theorem goK_0 {n m : Nat} {a b : Int32} (x : sOut a 0 (nI n - 1) = false) (y : sOut b 0 (nI m - 1) = false) : goK n m a b = 0 := if_neg (by rw [x, y]; decide)
theorem quK_0 {n m : Nat} {a b d : Int32} (x : sOut a 0 (nI m - 1) = false) (y : sOut b 0 (nI n - 1) = false) (z : sOut d 0 23 = false) : quK n m a b d = 0 := if_neg (by rw [x, y, z]; decide)

theorem RK.cal {S A : HS} {ns nj nm nt nr nc : Nat} {x : Int32} (h : RK S A ns nj nm nt nr nc) : RK (sI S 165 0 x) (A) ns nj nm nt nr nc := by
  exact ⟨h.rc, h.ok, h.mo, h.re, h.pr, h.rp, h.wi, h.tu, h.qu, h.q1, h.q2, h.q3, h.q4, h.q6, h.q7, h.q8, h.q9, h.rz⟩
theorem k_X10_wouldSend {s0 : State} {l : Launch} {D : va_G} {cy : Nat → ClassId} (G : Gl s0 l D cy) (S : HS) {cn : Cn} (hC : CX (eaOf s0) S cn) : Ctr s0 l D cy yX10_wouldSend cX10_wouldSend 1 (some .int) rm_m_X10_wouldSend S [.ref (gG S 10 0)] (PKi (eaOf s0) S cn) := by
  obtain ⟨ns, nj, nm, nr, nt, g0, A⟩ := cn
  obtain ⟨nc, h, hr, hA, hg, hg7, hA7, hds⟩ := hC
  have h : CI (eaOf s0) S ns nj nm nt nr nc := h
  have hr : RH S nt := hr
  have hA : RK S A ns nj nm nt nr nc := hA
  have hg : mI S 164 0 = nI g0 := hg
  have hA7 : mI A 257 0 = nI g0 := hA7
  have hds : DS A nt := hds
  exact (m_X10_wouldSend G S (eaOf s0) ns nj nm nt nr nc h ).post (fun v S' ⟨⟨x, e⟩, e2⟩ => by subst e2; exact ⟨⟨x, e⟩, ⟨nc, h, hr, hA, hg, hg7, hA7, hds⟩, Kq.rf⟩)
theorem k_X10_isSound {s0 : State} {l : Launch} {D : va_G} {cy : Nat → ClassId} (G : Gl s0 l D cy) (S : HS) {cn : Cn} (hC : CX (eaOf s0) S cn) : Ctr s0 l D cy yX10_isSound cX10_isSound 1 (some .boolean) rm_m_X10_isSound S [.ref (gG S 10 0)] (PKz (eaOf s0) S cn) := by
  obtain ⟨ns, nj, nm, nr, nt, g0, A⟩ := cn
  obtain ⟨nc, h, hr, hA, hg, hg7, hA7, hds⟩ := hC
  have h : CI (eaOf s0) S ns nj nm nt nr nc := h
  have hr : RH S nt := hr
  have hA : RK S A ns nj nm nt nr nc := hA
  have hg : mI S 164 0 = nI g0 := hg
  have hA7 : mI A 257 0 = nI g0 := hA7
  have hds : DS A nt := hds
  exact (m_X10_isSound G S (eaOf s0) ns nj nm nt nr nc h ).post (fun v S' ⟨⟨x, e⟩, e2⟩ => by subst e2; exact ⟨⟨x, e⟩, ⟨nc, h, hr, hA, hg, hg7, hA7, hds⟩, Kq.rf⟩)
theorem k_X10_digest {s0 : State} {l : Launch} {D : va_G} {cy : Nat → ClassId} (G : Gl s0 l D cy) (S : HS) {cn : Cn} (hC : CX (eaOf s0) S cn) : Ctr s0 l D cy yX10_digest cX10_digest 4 (some .long) rm_m_X10_digest S [.ref (gG S 10 0)] (PKl (eaOf s0) S cn) := by
  obtain ⟨ns, nj, nm, nr, nt, g0, A⟩ := cn
  obtain ⟨nc, h, hr, hA, hg, hg7, hA7, hds⟩ := hC
  have h : CI (eaOf s0) S ns nj nm nt nr nc := h
  have hr : RH S nt := hr
  have hA : RK S A ns nj nm nt nr nc := hA
  have hg : mI S 164 0 = nI g0 := hg
  have hA7 : mI A 257 0 = nI g0 := hA7
  have hds : DS A nt := hds
  exact (n_X10_digest G S (eaOf s0) ns nj nm nt nr nc h ).post (fun v S' ⟨⟨x, e⟩, a, b, c, e2⟩ => by subst e2; exact ⟨⟨x, e⟩, ⟨nc, h.scr a b c, hr, hA.scr, hg, hg7, hA7, hds⟩, ((Kq.rf.sA rfl).sA rfl).sA rfl⟩)
theorem k_X10_station {s0 : State} {l : Launch} {D : va_G} {cy : Nat → ClassId} (G : Gl s0 l D cy) (S : HS) {cn : Cn} (hC : CX (eaOf s0) S cn) (a b d g e_ f : Int32) : CtX s0 l D cy yX10_station cX10_station 8 (some .int) rm_m_X10_station S [.ref (gG S 10 0), .int a, .int b, .int d, .int g, .int e_, .int f] (fun v S' => stK cn.1 a b d g e_ f = 0 ∧ some (.int (nI cn.1)) = v ∧ CX (eaOf s0) S' (cn.1 + 1, cn.2.1, cn.2.2.1, cn.2.2.2.1, cn.2.2.2.2.1, cn.2.2.2.2.2.1, stA cn.2.2.2.2.2.2 cn.1 a b d g e_ f) ∧ KeepB S S') (fun E S' => S = S' ∧ ((E = "java/lang/IllegalArgumentException" ∧ stK cn.1 a b d g e_ f = 1) ∨ (E = "java/lang/IllegalStateException" ∧ stK cn.1 a b d g e_ f = 2))) := by
  obtain ⟨ns, nj, nm, nr, nt, g0, A⟩ := cn
  obtain ⟨nc, h, hr, hA, hg, hg7, hA7, hds⟩ := hC
  have h : CI (eaOf s0) S ns nj nm nt nr nc := h
  have hr : RH S nt := hr
  have hA : RK S A ns nj nm nt nr nc := hA
  have hg : mI S 164 0 = nI g0 := hg
  have hA7 : mI A 257 0 = nI g0 := hA7
  have hds : DS A nt := hds
  exact (m_X10_station G S (eaOf s0) ns nj nm nt nr nc h rfl a b d g e_ f).post (fun v S' ⟨e1, k0, q1, q2, m2, b2, e, hb0, hb1⟩ => by subst e; exact ⟨k0, e1, ⟨_, h.add_st (stK_0 k0).1 (stK_0 k0).2 hb0 hb1, hr.of (fun _ => rfl) (fun j v => v.elim (fun v => v.elim id (fun e => by omega)) (fun e => by omega)) (fun _ => rfl) rfl, hA.a_st (stK_0 k0).2, hg, hg7, stA_7.trans hA7, hds.kd ((((((Kq.rf.sI rfl).sI rfl).sI rfl).sI rfl).sI rfl).sI rfl)⟩, kp_add_st⟩) (fun E S' z => z)
theorem k_X10_jammer {s0 : State} {l : Launch} {D : va_G} {cy : Nat → ClassId} (G : Gl s0 l D cy) (S : HS) {cn : Cn} (hC : CX (eaOf s0) S cn) (a b : Int32) : CtX s0 l D cy yX10_jammer cX10_jammer 4 (some .int) rm_m_X10_jammer S [.ref (gG S 10 0), .int a, .int b] (fun v S' => jmK cn.2.1 a b = 0 ∧ some (.int (nI cn.2.1)) = v ∧ CX (eaOf s0) S' (cn.1, cn.2.1 + 1, cn.2.2.1, cn.2.2.2.1, cn.2.2.2.2.1, cn.2.2.2.2.2.1, jmA cn.2.2.2.2.2.2 cn.2.1 a b) ∧ KeepB S S') (fun E S' => S = S' ∧ ((E = "java/lang/IllegalArgumentException" ∧ jmK cn.2.1 a b = 1) ∨ (E = "java/lang/IllegalStateException" ∧ jmK cn.2.1 a b = 2))) := by
  obtain ⟨ns, nj, nm, nr, nt, g0, A⟩ := cn
  obtain ⟨nc, h, hr, hA, hg, hg7, hA7, hds⟩ := hC
  have h : CI (eaOf s0) S ns nj nm nt nr nc := h
  have hr : RH S nt := hr
  have hA : RK S A ns nj nm nt nr nc := hA
  have hg : mI S 164 0 = nI g0 := hg
  have hA7 : mI A 257 0 = nI g0 := hA7
  have hds : DS A nt := hds
  exact (m_X10_jammer G S (eaOf s0) ns nj nm nt nr nc h rfl a b).post (fun v S' ⟨e1, k0, q1, q2, m2, b2, e, hb0, hb1⟩ => by subst e; exact ⟨k0, e1, ⟨_, h.add_jm (jmK_0 k0) hb0 hb1, hr.of (fun _ => rfl) (fun j v => v.elim (fun v => v.elim id (fun e => by omega)) (fun e => by omega)) (fun _ => rfl) rfl, hA.a_jm, hg, hg7, hA7, hds.kd (Kq.rf.sA rfl)⟩, kp_add_jm⟩) (fun E S' z => z)
theorem k_X10_monitor {s0 : State} {l : Launch} {D : va_G} {cy : Nat → ClassId} (G : Gl s0 l D cy) (S : HS) {cn : Cn} (hC : CX (eaOf s0) S cn) (a : Int32) : CtX s0 l D cy yX10_monitor cX10_monitor 3 (some .int) rm_m_X10_monitor S [.ref (gG S 10 0), .int a] (fun v S' => moK cn.2.2.1 a = 0 ∧ some (.int (nI cn.2.2.1)) = v ∧ CX (eaOf s0) S' (cn.1, cn.2.1, cn.2.2.1 + 1, cn.2.2.2.1, cn.2.2.2.2.1, cn.2.2.2.2.2.1, moC cn.2.2.2.2.2.2 cn.2.2.1 a) ∧ KeepB S S') (fun E S' => S = S' ∧ ((E = "java/lang/IllegalArgumentException" ∧ moK cn.2.2.1 a = 1) ∨ (E = "java/lang/IllegalStateException" ∧ moK cn.2.2.1 a = 2))) := by
  obtain ⟨ns, nj, nm, nr, nt, g0, A⟩ := cn
  obtain ⟨nc, h, hr, hA, hg, hg7, hA7, hds⟩ := hC
  have h : CI (eaOf s0) S ns nj nm nt nr nc := h
  have hr : RH S nt := hr
  have hA : RK S A ns nj nm nt nr nc := hA
  have hg : mI S 164 0 = nI g0 := hg
  have hA7 : mI A 257 0 = nI g0 := hA7
  have hds : DS A nt := hds
  exact (m_X10_monitor G S (eaOf s0) ns nj nm nt nr nc h rfl a).post (fun v S' ⟨e1, k0, q1, q2, m2, b2, e, hb0, hb1⟩ => by subst e; exact ⟨k0, e1, ⟨_, h.add_mo (moK_0 k0) hb0 hb1, hr.of (fun _ => rfl) (fun j v => v.elim (fun v => v.elim id (fun e => by omega)) (fun e => by omega)) (fun _ => rfl) rfl, hA.a_mo h.b_mo, hg, hg7, moC_7.trans hA7, hds.kd ((((Kq.rf.sI rfl).sI rfl).sI rfl).sA rfl)⟩, Kq.cB kp_add_mo⟩) (fun E S' z => z)
theorem k_X10_reader {s0 : State} {l : Launch} {D : va_G} {cy : Nat → ClassId} (G : Gl s0 l D cy) (S : HS) {cn : Cn} (hC : CX (eaOf s0) S cn) (a b : Int32) : CtX s0 l D cy yX10_reader cX10_reader 4 (some .int) rm_m_X10_reader S [.ref (gG S 10 0), .int a, .int b] (fun v S' => reK cn.2.2.2.1 a b = 0 ∧ some (.int (nI cn.2.2.2.1)) = v ∧ CX (eaOf s0) S' (cn.1, cn.2.1, cn.2.2.1, cn.2.2.2.1 + 1, cn.2.2.2.2.1, cn.2.2.2.2.2.1, reC cn.2.2.2.2.2.2 cn.2.2.2.1 a b) ∧ KeepB S S') (fun E S' => S = S' ∧ ((E = "java/lang/IllegalArgumentException" ∧ reK cn.2.2.2.1 a b = 1) ∨ (E = "java/lang/IllegalStateException" ∧ reK cn.2.2.2.1 a b = 2))) := by
  obtain ⟨ns, nj, nm, nr, nt, g0, A⟩ := cn
  obtain ⟨nc, h, hr, hA, hg, hg7, hA7, hds⟩ := hC
  have h : CI (eaOf s0) S ns nj nm nt nr nc := h
  have hr : RH S nt := hr
  have hA : RK S A ns nj nm nt nr nc := hA
  have hg : mI S 164 0 = nI g0 := hg
  have hA7 : mI A 257 0 = nI g0 := hA7
  have hds : DS A nt := hds
  exact (m_X10_reader G S (eaOf s0) ns nj nm nt nr nc h rfl a b).post (fun v S' ⟨e1, k0, q1, q2, m2, b2, e, hb0, hb1⟩ => by subst e; exact ⟨k0, e1, ⟨_, h.add_re (reK_0 k0) hb0 hb1, hr.of (fun _ => rfl) (fun j v => v.elim (fun v => v.elim id (fun e => by omega)) (fun e => by omega)) (fun _ => rfl) rfl, hA.a_re (reK_0 k0), hg, hg7, reC_7.trans hA7, hds.kd (((Kq.rf.sI rfl).sI rfl).sA rfl)⟩, Kq.cB kp_add_re⟩) (fun E S' z => z)
theorem k_X10_talk {s0 : State} {l : Launch} {D : va_G} {cy : Nat → ClassId} (G : Gl s0 l D cy) (S : HS) {cn : Cn} (hC : CX (eaOf s0) S cn) (a b d g e_ f : Int32) : CtX s0 l D cy yX10_talk cX10_talk 9 (some .int) rm_m_X10_talk S [.ref (gG S 10 0), .int a, .int b, .int d, .int g, .int e_, .int f] (fun v S' => taK cn.1 cn.2.2.2.2.1 (nI cn.2.2.2.2.2.1) a b d g e_ f (sIn (mI cn.2.2.2.2.2.2 228 a.toNatClampNeg) (b - b / 24 * 24)) (rHas cn.2.2.2.2.2.2 a b cn.2.2.2.2.1) = 0 ∧ some (.int (nI cn.2.2.2.2.1)) = v ∧ CX (eaOf s0) S' (cn.1, cn.2.1, cn.2.2.1, cn.2.2.2.1, cn.2.2.2.2.1 + 1, cn.2.2.2.2.2.1, taC cn.2.2.2.2.2.2 cn.2.2.2.2.1 a b d g e_ f) ∧ KeepB S S') (fun E S' => S = S' ∧ ((E = "java/lang/IndexOutOfBoundsException" ∧ taK cn.1 cn.2.2.2.2.1 (nI cn.2.2.2.2.2.1) a b d g e_ f (sIn (mI cn.2.2.2.2.2.2 228 a.toNatClampNeg) (b - b / 24 * 24)) (rHas cn.2.2.2.2.2.2 a b cn.2.2.2.2.1) = 1) ∨ (E = "java/lang/IllegalArgumentException" ∧ taK cn.1 cn.2.2.2.2.1 (nI cn.2.2.2.2.2.1) a b d g e_ f (sIn (mI cn.2.2.2.2.2.2 228 a.toNatClampNeg) (b - b / 24 * 24)) (rHas cn.2.2.2.2.2.2 a b cn.2.2.2.2.1) = 2) ∨ (E = "java/lang/IllegalStateException" ∧ taK cn.1 cn.2.2.2.2.1 (nI cn.2.2.2.2.2.1) a b d g e_ f (sIn (mI cn.2.2.2.2.2.2 228 a.toNatClampNeg) (b - b / 24 * 24)) (rHas cn.2.2.2.2.2.2 a b cn.2.2.2.2.1) = 3))) := by
  obtain ⟨ns, nj, nm, nr, nt, g0, A⟩ := cn
  obtain ⟨nc, h, hr, hA, hg, hg7, hA7, hds⟩ := hC
  have h : CI (eaOf s0) S ns nj nm nt nr nc := h
  have hr : RH S nt := hr
  have hA : RK S A ns nj nm nt nr nc := hA
  have hg : mI S 164 0 = nI g0 := hg
  have hA7 : mI A 257 0 = nI g0 := hA7
  have hds : DS A nt := hds
  exact (m_X10_talk G S (eaOf s0) ns nj nm nt nr nc h rfl g0 hg hg7 (tS A) (hA.rc.stn h.b_st) a b d g e_ f).post (fun v S' ⟨i8, h8, ea8, k0, hh, hw, hn, e1, q1, q2, m2, b2, e, hb0, hb1⟩ => by subst e; exact ⟨(hA.rc.taK h.b_st h8 ea8).symm.trans k0, e1, ⟨nc, h.add_ta (a := 0) hn h8 hh hw hb0 hb1, rh_ta h hr, hA.a_ta h8 ea8 hh hw (taK_x k0).1 (taK_x k0).2 (h.z_rp nt (Nat.le_refl _)), hg, hg7, taC_7.trans hA7, DS.ta hds⟩, kp_add_ta (a := 0)⟩) (fun E S' ⟨e, k⟩ => ⟨e, by rcases k with ⟨k, z⟩ | ⟨j, hj, ej, k⟩; exact Or.inl ⟨k, taK_1 z⟩; exact Or.inr (k.imp (fun z => ⟨z.1, (hA.rc.taK h.b_st hj ej).symm.trans z.2⟩) (fun z => ⟨z.1, (hA.rc.taK h.b_st hj ej).symm.trans z.2⟩))⟩)
theorem k_X10_drift {s0 : State} {l : Launch} {D : va_G} {cy : Nat → ClassId} (G : Gl s0 l D cy) (S : HS) {cn : Cn} (hC : CX (eaOf s0) S cn) (a b : Int32) : CtX s0 l D cy yX10_drift cX10_drift 5 (some .int) rm_m_X10_drift S [.ref (gG S 10 0), .int a, .int b] (fun v S' => dK cn.1 99 a b = 0 ∧ some (.int (mI cn.2.2.2.2.2.2 229 a.toNatClampNeg)) = v ∧ CX (eaOf s0) S' (cn.1, cn.2.1, cn.2.2.1, cn.2.2.2.1, cn.2.2.2.2.1, cn.2.2.2.2.2.1, sI cn.2.2.2.2.2.2 229 a.toNatClampNeg b) ∧ KeepB S S') (fun E S' => S = S' ∧ ((E = "java/lang/IndexOutOfBoundsException" ∧ dK cn.1 99 a b = 1) ∨ (E = "java/lang/IllegalArgumentException" ∧ dK cn.1 99 a b = 2))) := by
  obtain ⟨ns, nj, nm, nr, nt, g0, A⟩ := cn
  obtain ⟨nc, h, hr, hA, hg, hg7, hA7, hds⟩ := hC
  have h : CI (eaOf s0) S ns nj nm nt nr nc := h
  have hr : RH S nt := hr
  have hA : RK S A ns nj nm nt nr nc := hA
  have hg : mI S 164 0 = nI g0 := hg
  have hA7 : mI A 257 0 = nI g0 := hA7
  have hds : DS A nt := hds
  exact (m_X10_drift G S (eaOf s0) ns nj nm nt nr nc h a b).post (fun v S' ⟨j, hj, e1, e2, e3, e4⟩ => by subst e4; exact ⟨dK_0 (by rw [e1]; exact (so_j hj (Nat.le_trans h.b_st (by decide)))) e2, (by rw [tnI hj (Nat.le_trans h.b_st (by decide)) e1, ← (hA.rc.1 j hj).1]; exact e3), (by rw [tnI hj (Nat.le_trans h.b_st (by decide)) e1]; exact ⟨nc, h.stI (by decide), hr, hA.drf, hg, hg7, (sI_7 (f := 229) (by decide)).trans hA7, hds.kd (Kq.rf.sI rfl)⟩), Kq.rf.sI rfl⟩) (fun E S' ⟨e, k⟩ => ⟨e, k.imp (fun z => ⟨z.1, dK_1 z.2⟩) (fun z => ⟨z.1, dK_2 (by obtain ⟨j, hj, e1⟩ := z.2.1; rw [e1]; exact (so_j hj (Nat.le_trans h.b_st (by decide)))) z.2.2⟩)⟩)
theorem k_X10_jam {s0 : State} {l : Launch} {D : va_G} {cy : Nat → ClassId} (G : Gl s0 l D cy) (S : HS) {cn : Cn} (hC : CX (eaOf s0) S cn) (a b : Int32) : CtX s0 l D cy yX10_jam cX10_jam 5 (some .int) rm_m_X10_jam S [.ref (gG S 10 0), .int a, .int b] (fun v S' => dK cn.2.1 9 a b = 0 ∧ some (.int (mA cn.2.2.2.2.2.2 33 a.toNatClampNeg 1)) = v ∧ CX (eaOf s0) S' (cn.1, cn.2.1, cn.2.2.1, cn.2.2.2.1, cn.2.2.2.2.1, cn.2.2.2.2.2.1, jaA cn.2.2.2.2.2.2 a.toNatClampNeg b) ∧ KeepB S S') (fun E S' => S = S' ∧ ((E = "java/lang/IndexOutOfBoundsException" ∧ dK cn.2.1 9 a b = 1) ∨ (E = "java/lang/IllegalArgumentException" ∧ dK cn.2.1 9 a b = 2))) := by
  obtain ⟨ns, nj, nm, nr, nt, g0, A⟩ := cn
  obtain ⟨nc, h, hr, hA, hg, hg7, hA7, hds⟩ := hC
  have h : CI (eaOf s0) S ns nj nm nt nr nc := h
  have hr : RH S nt := hr
  have hA : RK S A ns nj nm nt nr nc := hA
  have hg : mI S 164 0 = nI g0 := hg
  have hA7 : mI A 257 0 = nI g0 := hA7
  have hds : DS A nt := hds
  exact (m_X10_jam G S (eaOf s0) ns nj nm nt nr nc h a b).post (fun v S' ⟨j, hj, e1, e2, e3, e4⟩ => by subst e4; exact ⟨dK_0 (by rw [e1]; exact (so_j hj (Nat.le_trans h.b_jm (by decide)))) e2, (by rw [tnI hj (Nat.le_trans h.b_jm (by decide)) e1, ← (hA.rc.2.1 j hj).2]; exact e3), (by rw [tnI hj (Nat.le_trans h.b_jm (by decide)) e1]; exact ⟨nc, h.stI (by decide), hr, hA.jam, hg, hg7, hA7, hds.kd (Kq.rf.sA rfl)⟩), Kq.rf.sI rfl⟩) (fun E S' ⟨e, k⟩ => ⟨e, k.imp (fun z => ⟨z.1, dK_1 z.2⟩) (fun z => ⟨z.1, dK_2 (by obtain ⟨j, hj, e1⟩ := z.2.1; rw [e1]; exact (so_j hj (Nat.le_trans h.b_jm (by decide)))) z.2.2⟩)⟩)
theorem k_X10_partner {s0 : State} {l : Launch} {D : va_G} {cy : Nat → ClassId} (G : Gl s0 l D cy) (S : HS) {cn : Cn} (hC : CX (eaOf s0) S cn) (a : Int32) : CtX s0 l D cy yX10_partner cX10_partner 3 (some .int) rm_m_X10_partner S [.ref (gG S 10 0), .int a] (fun v S' => paK a = 0 ∧ some (.int (mI cn.2.2.2.2.2.2 259 0)) = v ∧ CX (eaOf s0) S' (cn.1, cn.2.1, cn.2.2.1, cn.2.2.2.1, cn.2.2.2.2.1, cn.2.2.2.2.2.1, sI cn.2.2.2.2.2.2 259 0 a) ∧ KeepB S S') (fun E S' => S = S' ∧ ((E = "java/lang/IllegalArgumentException" ∧ paK a = 1))) := by
  obtain ⟨ns, nj, nm, nr, nt, g0, A⟩ := cn
  obtain ⟨nc, h, hr, hA, hg, hg7, hA7, hds⟩ := hC
  have h : CI (eaOf s0) S ns nj nm nt nr nc := h
  have hr : RH S nt := hr
  have hA : RK S A ns nj nm nt nr nc := hA
  have hg : mI S 164 0 = nI g0 := hg
  have hA7 : mI A 257 0 = nI g0 := hA7
  have hds : DS A nt := hds
  exact (m_X10_partner G S (eaOf s0) ns nj nm nt nr nc h a).post (fun v S' ⟨z, e, e2⟩ => by subst e2; exact ⟨paK_0 z, (by rw [← hA.rc.2.2.2.2.1]; exact e), ⟨nc, h.stI (by decide), hr, hA.prt, hg, hg7, (sI_7 (f := 259) (by decide)).trans hA7, hds.kd (Kq.rf.sI rfl)⟩, Kq.rf.sI rfl⟩) (fun E S' ⟨e, k, z⟩ => ⟨e, k, paK_1 z⟩)
theorem sh_de {ns nm : Nat} {d e : Int32} (c3 : NIx ns d) (c4 : NIx nm e) (c5 : d = -1 ↔ e = -1) : (d = -1 ∧ e = -1) ∨ ∃ s m, s < ns ∧ m < nm ∧ d = nI s ∧ e = nI m := by
  rcases c3 with z | ⟨s, hs, es⟩
  · exact Or.inl ⟨z, c5.mp z⟩
  · rcases c4 with y | ⟨m, hm, em⟩
    · exact Or.inl ⟨c5.mpr y, y⟩
    · exact Or.inr ⟨s, m, hs, hm, es, em⟩
theorem k_sh {s0 : State} {S A : HS} {ns nj nm nr nt g0 nc : Nat} {a b d e_ : Int32} {v : Option Value} (h : CI (eaOf s0) S ns nj nm nt nr nc) (hr : RH S nt) (hA : RK S A ns nj nm nt nr nc) (hg : mI S 164 0 = nI g0) (hg7 : g0 ≤ 720) (hA7 : mI A 257 0 = nI g0) (hds : DS A nt) (k0 : shK ns nm a b d e_ (cElse S a b e_ 3) = 0) (e1 : some (.int (cSlot S 0 a b)) = v) : some (.int (mA A 36 a.toNatClampNeg b.toNatClampNeg)) = v ∧ CX (eaOf s0) (wrS S a b d e_) (ns, nj, nm, nr, nt, g0, shA A a.toNatClampNeg b.toNatClampNeg d e_) ∧ KeepB S (wrS S a b d e_) := by
  obtain ⟨c1, c2, c3, c4, c5, c6⟩ := shK_z (Nat.le_trans h.b_st (by decide)) (Nat.le_trans h.b_mo (by decide)) k0
  obtain ⟨x, hx, rfl⟩ := inr_23 c1
  obtain ⟨k, hk, rfl⟩ := inr_2 c2
  rw [show (nI x).toNatClampNeg = x from nI_clamp (by omega), show (nI k).toNatClampNeg = k from nI_clamp (by omega)]
  refine ⟨?_, ⟨nc, h.wr _ _, hr, hA.shf hx hk c6 (sh_de c3 c4 c5), hg, hg7, hA7, hds.kd ((Kq.rf.sA rfl).sA rfl)⟩, (Kq.rf.sA rfl).sA rfl⟩
  rw [← (hA.rc.2.2.1 x k hx hk).1, ← cSlot_nI hx hk]; exact e1

theorem k_X10_shift {s0 : State} {l : Launch} {D : va_G} {cy : Nat → ClassId} (G : Gl s0 l D cy) (S : HS) {cn : Cn} (hC : CX (eaOf s0) S cn) (a b d e_ : Int32) : CtX s0 l D cy yX10_shift cX10_shift 6 (some .int) rm_m_X10_shift S [.ref (gG S 10 0), .int a, .int b, .int d, .int e_] (fun v S' => shK cn.1 cn.2.2.1 a b d e_ (rElse cn.2.2.2.2.2.2 a b e_) = 0 ∧ some (.int (mA cn.2.2.2.2.2.2 36 a.toNatClampNeg b.toNatClampNeg)) = v ∧ CX (eaOf s0) S' (cn.1, cn.2.1, cn.2.2.1, cn.2.2.2.1, cn.2.2.2.2.1, cn.2.2.2.2.2.1, shA cn.2.2.2.2.2.2 a.toNatClampNeg b.toNatClampNeg d e_) ∧ KeepB S S') (fun E S' => S = S' ∧ ((E = "java/lang/IndexOutOfBoundsException" ∧ shK cn.1 cn.2.2.1 a b d e_ (rElse cn.2.2.2.2.2.2 a b e_) = 1) ∨ (E = "java/lang/IllegalArgumentException" ∧ shK cn.1 cn.2.2.1 a b d e_ (rElse cn.2.2.2.2.2.2 a b e_) = 2) ∨ (E = "java/lang/IllegalStateException" ∧ shK cn.1 cn.2.2.1 a b d e_ (rElse cn.2.2.2.2.2.2 a b e_) = 3))) := by
  obtain ⟨ns, nj, nm, nr, nt, g0, A⟩ := cn
  obtain ⟨nc, h, hr, hA, hg, hg7, hA7, hds⟩ := hC
  have h : CI (eaOf s0) S ns nj nm nt nr nc := h
  have hr : RH S nt := hr
  have hA : RK S A ns nj nm nt nr nc := hA
  have hg : mI S 164 0 = nI g0 := hg
  have hA7 : mI A 257 0 = nI g0 := hA7
  have hds : DS A nt := hds
  exact (m_X10_shift G S (eaOf s0) ns nj nm nt nr nc h a b d e_).post (fun v S' ⟨k0, e1, e2⟩ => by subst e2; exact ⟨hA.rc.shK.symm.trans k0, k_sh h hr hA hg hg7 hA7 hds k0 e1⟩) (fun E S' ⟨e, k⟩ => ⟨e, k.imp (fun z => ⟨z.1, hA.rc.shK.symm.trans z.2⟩) (fun k => k.imp (fun z => ⟨z.1, hA.rc.shK.symm.trans z.2⟩) (fun z => ⟨z.1, hA.rc.shK.symm.trans z.2⟩))⟩)
theorem k_X10_comes {s0 : State} {l : Launch} {D : va_G} {cy : Nat → ClassId} (G : Gl s0 l D cy) (S : HS) {cn : Cn} (hC : CX (eaOf s0) S cn) (a b : Int32) : CtX s0 l D cy yX10_comes cX10_comes 4 (some .int) rm_m_X10_comes S [.ref (gG S 10 0), .int a, .int b] (fun v S' => coK cn.1 a b = 0 ∧ some (.int (rComes cn.2.2.2.2.2.2 cn.1 cn.2.1 a.toNatClampNeg b)) = v ∧ CX (eaOf s0) S' cn ∧ KeepB S S') (fun E S' => S = S' ∧ ((E = "java/lang/IndexOutOfBoundsException" ∧ coK cn.1 a b = 1))) := by
  obtain ⟨ns, nj, nm, nr, nt, g0, A⟩ := cn
  obtain ⟨nc, h, hr, hA, hg, hg7, hA7, hds⟩ := hC
  have h : CI (eaOf s0) S ns nj nm nt nr nc := h
  have hr : RH S nt := hr
  have hA : RK S A ns nj nm nt nr nc := hA
  have hg : mI S 164 0 = nI g0 := hg
  have hA7 : mI A 257 0 = nI g0 := hA7
  have hds : DS A nt := hds
  exact (m_X10_comes G S (eaOf s0) ns nj nm nt nr nc h a b).post (fun v S' ⟨k0, ⟨j, hj, e1, e2⟩, e3⟩ => by subst e3; exact ⟨k0, (by rw [tnI hj (Nat.le_trans h.b_st (by decide)) e1, ← hA.rc.comes hj]; exact e2), ⟨nc, h, hr, hA, hg, hg7, hA7, hds⟩, Kq.rf⟩) (fun E S' z => z)
theorem k_X10_sits {s0 : State} {l : Launch} {D : va_G} {cy : Nat → ClassId} (G : Gl s0 l D cy) (S : HS) {cn : Cn} (hC : CX (eaOf s0) S cn) (a b z : Int32) : CtX s0 l D cy yX10_sits cX10_sits 4 (some .int) rm_m_X10_sits S [.ref (gG S 10 0), .int a, .int b, .int z] (fun v S' => siK a b = 0 ∧ some (.int (if z = 0 then mA cn.2.2.2.2.2.2 36 a.toNatClampNeg b.toNatClampNeg else mA cn.2.2.2.2.2.2 37 a.toNatClampNeg b.toNatClampNeg)) = v ∧ CX (eaOf s0) S' cn ∧ KeepB S S') (fun E S' => S = S' ∧ ((E = "java/lang/IndexOutOfBoundsException" ∧ siK a b = 1))) := by
  obtain ⟨ns, nj, nm, nr, nt, g0, A⟩ := cn
  obtain ⟨nc, h, hr, hA, hg, hg7, hA7, hds⟩ := hC
  have h : CI (eaOf s0) S ns nj nm nt nr nc := h
  have hr : RH S nt := hr
  have hA : RK S A ns nj nm nt nr nc := hA
  have hg : mI S 164 0 = nI g0 := hg
  have hA7 : mI A 257 0 = nI g0 := hA7
  have hds : DS A nt := hds
  exact (m_X10_sits G S (eaOf s0) ns nj nm nt nr nc h a b z).post (fun v S' ⟨k0, e2, e3⟩ => by subst e3; exact ⟨k0, (by obtain ⟨c1, c2⟩ := siK_z k0; obtain ⟨x, hx, rfl⟩ := inr_23 c1; obtain ⟨k, hk, rfl⟩ := inr_2 c2; rw [show (nI x).toNatClampNeg = x from nI_clamp (by omega), show (nI k).toNatClampNeg = k from nI_clamp (by omega), ← (hA.rc.2.2.1 x k hx hk).1, ← (hA.rc.2.2.1 x k hx hk).2, ← cSlot_nI hx hk, ← cSlot_nI hx hk]; exact e2), ⟨nc, h, hr, hA, hg, hg7, hA7, hds⟩, Kq.rf⟩) (fun E S' z => z)
theorem k_X10_pass_x {s0 : State} {l : Launch} {D : va_G} {cy : Nat → ClassId} (G : Gl s0 l D cy) (S : HS) {cn : Cn} (hC : CX (eaOf s0) S cn) (a : Int32) (hbad : ¬ psK (nI cn.2.2.2.2.2.1) a = 0) : CtX s0 l D cy yX10_pass cX10_pass 3 (some .int) rm_m_X10_pass_x S [.ref (gG S 10 0), .int a] (fun v S' => psK (nI cn.2.2.2.2.2.1) a = 0 ∧ False) (fun E S' => S = S' ∧ ((E = "java/lang/IllegalArgumentException" ∧ psK (nI cn.2.2.2.2.2.1) a = 1) ∨ (E = "java/lang/IllegalStateException" ∧ psK (nI cn.2.2.2.2.2.1) a = 2))) := by
  obtain ⟨ns, nj, nm, nr, nt, g0, A⟩ := cn
  obtain ⟨nc, h, hr, hA, hg, hg7, hA7, hds⟩ := hC
  have h : CI (eaOf s0) S ns nj nm nt nr nc := h
  have hr : RH S nt := hr
  have hA : RK S A ns nj nm nt nr nc := hA
  have hg : mI S 164 0 = nI g0 := hg
  have hA7 : mI A 257 0 = nI g0 := hA7
  have hds : DS A nt := hds
  exact (m_X10_pass_x G S (eaOf s0) ns nj nm nt nr nc h a (psK_b (by rw [hg]; exact hbad))).post (fun v S' z => z.elim) (fun E S' z => by rw [hg] at z; exact z)
theorem k_X10_print {s0 : State} {l : Launch} {D : va_G} {cy : Nat → ClassId} (G : Gl s0 l D cy) (S : HS) {cn : Cn} (hC : CX (eaOf s0) S cn) (a b : Int32) : CtX s0 l D cy yX10_print cX10_print 5 (some .int) rm_a_X10_print S [.ref (gG S 10 0), .int a, .int b] (fun v S' => prK cn.2.2.2.2.1 a b (mI cn.2.2.2.2.2.2 246 a.toNatClampNeg) = 0 ∧ some (.int (prF cn.2.2.2.2.2.2 a.toNatClampNeg b)) = v ∧ CX (eaOf s0) S' (cn.1, cn.2.1, cn.2.2.1, cn.2.2.2.1, cn.2.2.2.2.1, cn.2.2.2.2.2.1, prA cn.2.2.2.2.2.2 a.toNatClampNeg b) ∧ KeepB S S') (fun E S' => S = S' ∧ ((E = "java/lang/IndexOutOfBoundsException" ∧ prK cn.2.2.2.2.1 a b (mI cn.2.2.2.2.2.2 246 a.toNatClampNeg) = 1) ∨ (E = "java/lang/IllegalArgumentException" ∧ prK cn.2.2.2.2.1 a b (mI cn.2.2.2.2.2.2 246 a.toNatClampNeg) = 2) ∨ (E = "java/lang/IllegalStateException" ∧ prK cn.2.2.2.2.1 a b (mI cn.2.2.2.2.2.2 246 a.toNatClampNeg) = 3))) := by
  obtain ⟨ns, nj, nm, nr, nt, g0, A⟩ := cn
  obtain ⟨nc, h, hr, hA, hg, hg7, hA7, hds⟩ := hC
  have h : CI (eaOf s0) S ns nj nm nt nr nc := h
  have hr : RH S nt := hr
  have hA : RK S A ns nj nm nt nr nc := hA
  have hg : mI S 164 0 = nI g0 := hg
  have hA7 : mI A 257 0 = nI g0 := hA7
  have hds : DS A nt := hds
  exact (a_X10_print G S (eaOf s0) ns nj nm nt nr nc h A hA rfl a b hr).post (fun v S' ⟨j, hj, ej, hb, hp, e, n', h', k', r', rh'⟩ => ⟨prK_0 (by rw [ej]; exact so_j hj (Nat.le_trans h.b_ta (by decide))) hb (by rw [tnI hj (Nat.le_trans h.b_ta (by decide)) ej]; exact hp), (by rw [tnI hj (Nat.le_trans h.b_ta (by decide)) ej]; exact e), (by rw [tnI hj (Nat.le_trans h.b_ta (by decide)) ej]; exact ⟨n', h', rh', r', (show mI S' 164 0 = mI S 164 0 from k'.I rfl).trans hg, hg7, (prA_I (by decide) (by decide)).trans hA7, DS.pr hds hj h.b_ta⟩), Kq.cB k'⟩) (fun E S' ⟨e, z⟩ => ⟨e, z.imp (fun z => ⟨z.1, prK_1 z.2⟩) (fun ⟨j, hj, ej, z⟩ => z.imp (fun z => ⟨z.1, prK_2 (by rw [ej]; exact so_j hj (Nat.le_trans h.b_ta (by decide))) z.2⟩) (fun z => ⟨z.1, prK_3 (by rw [ej]; exact so_j hj (Nat.le_trans h.b_ta (by decide))) z.2.1 (by rw [tnI hj (Nat.le_trans h.b_ta (by decide)) ej]; exact z.2.2)⟩))⟩)
theorem k_X10_ask {s0 : State} {l : Launch} {D : va_G} {cy : Nat → ClassId} (G : Gl s0 l D cy) (S : HS) {cn : Cn} (hC : CX (eaOf s0) S cn) (a b d : Int32) : CtX s0 l D cy yX10_ask cX10_ask 5 (some .int) rm_a_X10_ask S [.ref (gG S 10 0), .int a, .int b, .int d] (fun v S' => asK cn.2.2.2.1 a b d = 0 ∧ some (.int (asF (asA cn.2.2.2.2.2.2 a.toNatClampNeg b d) a.toNatClampNeg cn.2.2.2.2.1)) = v ∧ CX (eaOf s0) S' (cn.1, cn.2.1, cn.2.2.1, cn.2.2.2.1, cn.2.2.2.2.1, cn.2.2.2.2.2.1, asA cn.2.2.2.2.2.2 a.toNatClampNeg b d) ∧ KeepB S S') (fun E S' => S = S' ∧ ((E = "java/lang/IndexOutOfBoundsException" ∧ asK cn.2.2.2.1 a b d = 1) ∨ (E = "java/lang/IllegalArgumentException" ∧ asK cn.2.2.2.1 a b d = 2))) := by
  obtain ⟨ns, nj, nm, nr, nt, g0, A⟩ := cn
  obtain ⟨nc, h, hr, hA, hg, hg7, hA7, hds⟩ := hC
  have h : CI (eaOf s0) S ns nj nm nt nr nc := h
  have hr : RH S nt := hr
  have hA : RK S A ns nj nm nt nr nc := hA
  have hg : mI S 164 0 = nI g0 := hg
  have hA7 : mI A 257 0 = nI g0 := hA7
  have hds : DS A nt := hds
  exact (a_X10_ask G S (eaOf s0) ns nj nm nt nr nc h A hA a b d hr).post (fun v S' ⟨j, hj, ej, hb, hd, e, h', k', r', rh'⟩ => ⟨asK_0 (by rw [ej]; exact so_j hj (Nat.le_trans h.b_re (by decide))) hb hd, (by rw [tnI hj (Nat.le_trans h.b_re (by decide)) ej]; exact e), (by rw [tnI hj (Nat.le_trans h.b_re (by decide)) ej]; exact ⟨_, h', rh', r', (show mI S' 164 0 = mI S 164 0 from k'.I rfl).trans hg, hg7, (show mI (asA A j b d) 257 0 = mI A 257 0 by simp [asA, mI, sI, up2]).trans hA7, DS.as hds⟩), Kq.cB k'⟩) (fun E S' ⟨e, z⟩ => ⟨e, z.imp (fun z => ⟨z.1, asK_1 z.2⟩) (fun ⟨j, hj, ej, z⟩ => ⟨z.1, asK_2 (by rw [ej]; exact so_j hj (Nat.le_trans h.b_re (by decide))) z.2⟩)⟩)
theorem k_X10_ofStation {s0 : State} {l : Launch} {D : va_G} {cy : Nat → ClassId} (G : Gl s0 l D cy) (S : HS) {cn : Cn} (hC : CX (eaOf s0) S cn) (a b : Int32) : CtX s0 l D cy yX10_ofStation cX10_ofStation 4 (some .int) rm_a_X10_ofStation S [.ref (gG S 10 0), .int a, .int b] (fun v S' => dK cn.1 8 a b = 0 ∧ some (.int (rStaNow cn.2.2.2.2.2.2 cn.1 cn.2.1 cn.2.2.2.2.1 a.toNatClampNeg b.toNatClampNeg)) = v ∧ CX (eaOf s0) S' cn ∧ KeepB S S') (fun E S' => S = S' ∧ ((E = "java/lang/IndexOutOfBoundsException" ∧ dK cn.1 8 a b = 1) ∨ (E = "java/lang/IllegalArgumentException" ∧ dK cn.1 8 a b = 2))) := by
  obtain ⟨ns, nj, nm, nr, nt, g0, A⟩ := cn
  obtain ⟨nc, h, hr, hA, hg, hg7, hA7, hds⟩ := hC
  have h : CI (eaOf s0) S ns nj nm nt nr nc := h
  have hr : RH S nt := hr
  have hA : RK S A ns nj nm nt nr nc := hA
  have hg : mI S 164 0 = nI g0 := hg
  have hA7 : mI A 257 0 = nI g0 := hA7
  have hds : DS A nt := hds
  exact (a_X10_ofStation G S (eaOf s0) ns nj nm nt nr nc h A hA g0 hg hg7 hA7 a b).post (fun v S' ⟨j, q, hj, ej, hq, eq, e, e2⟩ => by subst e2; exact ⟨dK_0 (by rw [ej]; exact so_j hj (Nat.le_trans h.b_st (by decide))) (by rw [eq]; exact so_j (n := 9) hq (by decide)), (by rw [tnI hj (Nat.le_trans h.b_st (by decide)) ej, tnI hq (by decide) eq]; exact e), ⟨nc, h, hr, hA, hg, hg7, hA7, hds⟩, Kq.rf⟩) (fun E S' ⟨e, z⟩ => ⟨e, z.imp (fun z => ⟨z.1, dK_1 z.2⟩) (fun ⟨y, ⟨j, hj, ej⟩, z⟩ => ⟨y, dK_2 (by rw [ej]; exact so_j hj (Nat.le_trans h.b_st (by decide))) z⟩)⟩)
theorem k_X10_ofMonitor {s0 : State} {l : Launch} {D : va_G} {cy : Nat → ClassId} (G : Gl s0 l D cy) (S : HS) {cn : Cn} (hC : CX (eaOf s0) S cn) (a b : Int32) : CtX s0 l D cy yX10_ofMonitor cX10_ofMonitor 4 (some .int) rm_a_X10_ofMonitor S [.ref (gG S 10 0), .int a, .int b] (fun v S' => dK cn.2.2.1 8 a b = 0 ∧ some (.int (rMonNow cn.2.2.2.2.2.2 a.toNatClampNeg b.toNatClampNeg)) = v ∧ CX (eaOf s0) S' cn ∧ KeepB S S') (fun E S' => S = S' ∧ ((E = "java/lang/IndexOutOfBoundsException" ∧ dK cn.2.2.1 8 a b = 1) ∨ (E = "java/lang/IllegalArgumentException" ∧ dK cn.2.2.1 8 a b = 2))) := by
  obtain ⟨ns, nj, nm, nr, nt, g0, A⟩ := cn
  obtain ⟨nc, h, hr, hA, hg, hg7, hA7, hds⟩ := hC
  have h : CI (eaOf s0) S ns nj nm nt nr nc := h
  have hr : RH S nt := hr
  have hA : RK S A ns nj nm nt nr nc := hA
  have hg : mI S 164 0 = nI g0 := hg
  have hA7 : mI A 257 0 = nI g0 := hA7
  have hds : DS A nt := hds
  exact (a_X10_ofMonitor G S (eaOf s0) ns nj nm nt nr nc h A hA g0 hg hg7 hA7 a b).post (fun v S' ⟨j, q, hj, ej, hq, eq, e, e2⟩ => by subst e2; exact ⟨dK_0 (by rw [ej]; exact so_j hj (Nat.le_trans h.b_mo (by decide))) (by rw [eq]; exact so_j (n := 9) hq (by decide)), (by rw [tnI hj (Nat.le_trans h.b_mo (by decide)) ej, tnI hq (by decide) eq]; exact e), ⟨nc, h, hr, hA, hg, hg7, hA7, hds⟩, Kq.rf⟩) (fun E S' ⟨e, z⟩ => ⟨e, z.imp (fun z => ⟨z.1, dK_1 z.2⟩) (fun ⟨y, ⟨j, hj, ej⟩, z⟩ => ⟨y, dK_2 (by rw [ej]; exact so_j hj (Nat.le_trans h.b_mo (by decide))) z⟩)⟩)
theorem k_X10_ofTalk {s0 : State} {l : Launch} {D : va_G} {cy : Nat → ClassId} (G : Gl s0 l D cy) (S : HS) {cn : Cn} (hC : CX (eaOf s0) S cn) (a b : Int32) : CtX s0 l D cy yX10_ofTalk cX10_ofTalk 4 (some .int) rm_a_X10_ofTalk S [.ref (gG S 10 0), .int a, .int b] (fun v S' => dK cn.2.2.2.2.1 7 a b = 0 ∧ some (.int (rTalkNow cn.2.2.2.2.2.2 a.toNatClampNeg b.toNatClampNeg)) = v ∧ CX (eaOf s0) S' cn ∧ KeepB S S') (fun E S' => S = S' ∧ ((E = "java/lang/IndexOutOfBoundsException" ∧ dK cn.2.2.2.2.1 7 a b = 1) ∨ (E = "java/lang/IllegalArgumentException" ∧ dK cn.2.2.2.2.1 7 a b = 2))) := by
  obtain ⟨ns, nj, nm, nr, nt, g0, A⟩ := cn
  obtain ⟨nc, h, hr, hA, hg, hg7, hA7, hds⟩ := hC
  have h : CI (eaOf s0) S ns nj nm nt nr nc := h
  have hr : RH S nt := hr
  have hA : RK S A ns nj nm nt nr nc := hA
  have hg : mI S 164 0 = nI g0 := hg
  have hA7 : mI A 257 0 = nI g0 := hA7
  have hds : DS A nt := hds
  exact (a_X10_ofTalk G S (eaOf s0) ns nj nm nt nr nc h A hA g0 hg hg7 hA7 a b).post (fun v S' ⟨j, q, hj, ej, hq, eq, e, e2⟩ => by subst e2; exact ⟨dK_0 (by rw [ej]; exact so_j hj (Nat.le_trans h.b_ta (by decide))) (by rw [eq]; exact so_j (n := 8) hq (by decide)), (by rw [tnI hj (Nat.le_trans h.b_ta (by decide)) ej, tnI hq (by decide) eq]; exact e), ⟨nc, h, hr, hA, hg, hg7, hA7, hds⟩, Kq.rf⟩) (fun E S' ⟨e, z⟩ => ⟨e, z.imp (fun z => ⟨z.1, dK_1 z.2⟩) (fun ⟨y, ⟨j, hj, ej⟩, z⟩ => ⟨y, dK_2 (by rw [ej]; exact so_j hj (Nat.le_trans h.b_ta (by decide))) z⟩)⟩)
theorem k_X10_ofReport {s0 : State} {l : Launch} {D : va_G} {cy : Nat → ClassId} (G : Gl s0 l D cy) (S : HS) {cn : Cn} (hC : CX (eaOf s0) S cn) (a b : Int32) : CtX s0 l D cy yX10_ofReport cX10_ofReport 4 (some .int) rm_a_X10_ofReport S [.ref (gG S 10 0), .int a, .int b] (fun v S' => dK cn.2.2.2.2.1 11 a b = 0 ∧ some (.int (if mI cn.2.2.2.2.2.2 247 a.toNatClampNeg = -1 then -2 else rRepNow cn.2.2.2.2.2.2 a.toNatClampNeg b.toNatClampNeg)) = v ∧ CX (eaOf s0) S' cn ∧ KeepB S S') (fun E S' => S = S' ∧ ((E = "java/lang/IndexOutOfBoundsException" ∧ dK cn.2.2.2.2.1 11 a b = 1) ∨ (E = "java/lang/IllegalArgumentException" ∧ dK cn.2.2.2.2.1 11 a b = 2))) := by
  obtain ⟨ns, nj, nm, nr, nt, g0, A⟩ := cn
  obtain ⟨nc, h, hr, hA, hg, hg7, hA7, hds⟩ := hC
  have h : CI (eaOf s0) S ns nj nm nt nr nc := h
  have hr : RH S nt := hr
  have hA : RK S A ns nj nm nt nr nc := hA
  have hg : mI S 164 0 = nI g0 := hg
  have hA7 : mI A 257 0 = nI g0 := hA7
  have hds : DS A nt := hds
  exact (a_X10_ofReport G S (eaOf s0) ns nj nm nt nr nc h A hA g0 hg hg7 hA7 a b).post (fun v S' ⟨j, q, hj, ej, hq, eq, e, e2⟩ => by subst e2; exact ⟨dK_0 (by rw [ej]; exact so_j hj (Nat.le_trans h.b_ta (by decide))) (by rw [eq]; exact so_j (n := 12) hq (by decide)), (by rw [tnI hj (Nat.le_trans h.b_ta (by decide)) ej, tnI hq (by decide) eq]; exact e), ⟨nc, h, hr, hA, hg, hg7, hA7, hds⟩, Kq.rf⟩) (fun E S' ⟨e, z⟩ => ⟨e, z.imp (fun z => ⟨z.1, dK_1 z.2⟩) (fun ⟨y, ⟨j, hj, ej⟩, z⟩ => ⟨y, dK_2 (by rw [ej]; exact so_j hj (Nat.le_trans h.b_ta (by decide))) z⟩)⟩)
theorem k_X10_ofReader {s0 : State} {l : Launch} {D : va_G} {cy : Nat → ClassId} (G : Gl s0 l D cy) (S : HS) {cn : Cn} (hC : CX (eaOf s0) S cn) (a b : Int32) : CtX s0 l D cy yX10_ofReader cX10_ofReader 4 (some .int) rm_a_X10_ofReader S [.ref (gG S 10 0), .int a, .int b] (fun v S' => dK cn.2.2.2.1 4 a b = 0 ∧ some (.int (rReaNow cn.2.2.2.2.2.2 cn.2.2.2.2.1 a.toNatClampNeg b.toNatClampNeg)) = v ∧ CX (eaOf s0) S' cn ∧ KeepB S S') (fun E S' => S = S' ∧ ((E = "java/lang/IndexOutOfBoundsException" ∧ dK cn.2.2.2.1 4 a b = 1) ∨ (E = "java/lang/IllegalArgumentException" ∧ dK cn.2.2.2.1 4 a b = 2))) := by
  obtain ⟨ns, nj, nm, nr, nt, g0, A⟩ := cn
  obtain ⟨nc, h, hr, hA, hg, hg7, hA7, hds⟩ := hC
  have h : CI (eaOf s0) S ns nj nm nt nr nc := h
  have hr : RH S nt := hr
  have hA : RK S A ns nj nm nt nr nc := hA
  have hg : mI S 164 0 = nI g0 := hg
  have hA7 : mI A 257 0 = nI g0 := hA7
  have hds : DS A nt := hds
  exact (a_X10_ofReader G S (eaOf s0) ns nj nm nt nr nc h A hA g0 hg hg7 hA7 a b).post (fun v S' ⟨j, q, hj, ej, hq, eq, e, e2⟩ => by subst e2; exact ⟨dK_0 (by rw [ej]; exact so_j hj (Nat.le_trans h.b_re (by decide))) (by rw [eq]; exact so_j (n := 5) hq (by decide)), (by rw [tnI hj (Nat.le_trans h.b_re (by decide)) ej, tnI hq (by decide) eq]; exact e), ⟨nc, h, hr, hA, hg, hg7, hA7, hds⟩, Kq.rf⟩) (fun E S' ⟨e, z⟩ => ⟨e, z.imp (fun z => ⟨z.1, dK_1 z.2⟩) (fun ⟨y, ⟨j, hj, ej⟩, z⟩ => ⟨y, dK_2 (by rw [ej]; exact so_j hj (Nat.le_trans h.b_re (by decide))) z⟩)⟩)
theorem k_X10_got {s0 : State} {l : Launch} {D : va_G} {cy : Nat → ClassId} (G : Gl s0 l D cy) (S : HS) {cn : Cn} (hC : CX (eaOf s0) S cn) (a b : Int32) : CtX s0 l D cy yX10_got cX10_got 5 (some .int) rm_a_X10_got S [.ref (gG S 10 0), .int a, .int b] (fun v S' => goK cn.2.2.2.1 cn.2.2.2.2.1 a b = 0 ∧ some (.int (mA cn.2.2.2.2.2.2 35 a.toNatClampNeg b.toNatClampNeg)) = v ∧ CX (eaOf s0) S' cn ∧ KeepB S S') (fun E S' => S = S' ∧ ((E = "java/lang/IndexOutOfBoundsException" ∧ goK cn.2.2.2.1 cn.2.2.2.2.1 a b = 1))) := by
  obtain ⟨ns, nj, nm, nr, nt, g0, A⟩ := cn
  obtain ⟨nc, h, hr, hA, hg, hg7, hA7, hds⟩ := hC
  have h : CI (eaOf s0) S ns nj nm nt nr nc := h
  have hr : RH S nt := hr
  have hA : RK S A ns nj nm nt nr nc := hA
  have hg : mI S 164 0 = nI g0 := hg
  have hA7 : mI A 257 0 = nI g0 := hA7
  have hds : DS A nt := hds
  exact (a_X10_got G S (eaOf s0) ns nj nm nt nr nc h A hA a b).post (fun v S' ⟨r, j, hj, ej, hj2, ej2, e, e2⟩ => by subst e2; exact ⟨goK_0 (by rw [ej]; exact so_j hj (Nat.le_trans h.b_re (by decide))) (by rw [ej2]; exact so_j hj2 (Nat.le_trans h.b_ta (by decide))), (by rw [tnI hj (Nat.le_trans h.b_re (by decide)) ej, tnI hj2 (Nat.le_trans h.b_ta (by decide)) ej2]; exact e), ⟨nc, h, hr, hA, hg, hg7, hA7, hds⟩, Kq.rf⟩) (fun E S' ⟨e, e1, z⟩ => ⟨e, e1, if_pos z⟩)
theorem k_X10_quality {s0 : State} {l : Launch} {D : va_G} {cy : Nat → ClassId} (G : Gl s0 l D cy) (S : HS) {cn : Cn} (hC : CX (eaOf s0) S cn) (a b d : Int32) : CtX s0 l D cy yX10_quality cX10_quality 6 (some .int) rm_a_X10_quality S [.ref (gG S 10 0), .int a, .int b, .int d] (fun v S' => quK cn.1 cn.2.2.1 a b d = 0 ∧ some (.int (rQual cn.2.2.2.2.2.2 cn.1 cn.2.1 a.toNatClampNeg b.toNatClampNeg d)) = v ∧ CX (eaOf s0) S' cn ∧ KeepB S S') (fun E S' => S = S' ∧ ((E = "java/lang/IndexOutOfBoundsException" ∧ quK cn.1 cn.2.2.1 a b d = 1))) := by
  obtain ⟨ns, nj, nm, nr, nt, g0, A⟩ := cn
  obtain ⟨nc, h, hr, hA, hg, hg7, hA7, hds⟩ := hC
  have h : CI (eaOf s0) S ns nj nm nt nr nc := h
  have hr : RH S nt := hr
  have hA : RK S A ns nj nm nt nr nc := hA
  have hg : mI S 164 0 = nI g0 := hg
  have hA7 : mI A 257 0 = nI g0 := hA7
  have hds : DS A nt := hds
  exact (a_X10_quality G S (eaOf s0) ns nj nm nt nr nc h A hA a b d).post (fun v S' ⟨r, j, hj, ej, hj2, ej2, hd, e, e2⟩ => by subst e2; exact ⟨quK_0 (by rw [ej]; exact so_j hj (Nat.le_trans h.b_mo (by decide))) (by rw [ej2]; exact so_j hj2 (Nat.le_trans h.b_st (by decide))) hd, (by rw [tnI hj (Nat.le_trans h.b_mo (by decide)) ej, tnI hj2 (Nat.le_trans h.b_st (by decide)) ej2]; exact e), ⟨nc, h, hr, hA, hg, hg7, hA7, hds⟩, Kq.rf⟩) (fun E S' ⟨e, e1, z⟩ => ⟨e, e1, if_pos z⟩)
theorem k_X10_used {s0 : State} {l : Launch} {D : va_G} {cy : Nat → ClassId} (G : Gl s0 l D cy) (S : HS) {cn : Cn} (hC : CX (eaOf s0) S cn) (a b d e_ : Int32) : CtX s0 l D cy yX10_used cX10_used 5 (some .int) rm_a_X10_used S [.ref (gG S 10 0), .int a, .int b, .int d, .int e_] (fun v S' => usK a b = 0 ∧ some (.int (rUsed cn.2.2.2.2.2.2 cn.2.2.2.2.1 a b d e_)) = v ∧ CX (eaOf s0) S' cn ∧ KeepB S S') (fun E S' => S = S' ∧ ((E = "java/lang/IndexOutOfBoundsException" ∧ usK a b = 1))) := by
  obtain ⟨ns, nj, nm, nr, nt, g0, A⟩ := cn
  obtain ⟨nc, h, hr, hA, hg, hg7, hA7, hds⟩ := hC
  have h : CI (eaOf s0) S ns nj nm nt nr nc := h
  have hr : RH S nt := hr
  have hA : RK S A ns nj nm nt nr nc := hA
  have hg : mI S 164 0 = nI g0 := hg
  have hA7 : mI A 257 0 = nI g0 := hA7
  have hds : DS A nt := hds
  exact (a_X10_used G S (eaOf s0) ns nj nm nt nr nc h A hA a b d e_).post (fun v S' ⟨z, e, e2⟩ => by subst e2; exact ⟨if_neg (by rw [z]; decide), e, ⟨nc, h, hr, hA, hg, hg7, hA7, hds⟩, Kq.rf⟩) (fun E S' ⟨e, e1, z⟩ => ⟨e, e1, if_pos z⟩)
theorem k_X10_gone {s0 : State} {l : Launch} {D : va_G} {cy : Nat → ClassId} (G : Gl s0 l D cy) (S : HS) {cn : Cn} (hC : CX (eaOf s0) S cn) (a : Int32) : CtX s0 l D cy yX10_gone cX10_gone 2 (some .int) rm_a_X10_gone S [.ref (gG S 10 0), .int a] (fun v S' => laK a 5 = 0 ∧ some (.int (rGone cn.2.2.2.2.2.2 cn.2.2.2.2.1 a 16)) = v ∧ CX (eaOf s0) S' cn ∧ KeepB S S') (fun E S' => S = S' ∧ ((E = "java/lang/IndexOutOfBoundsException" ∧ laK a 5 = 1))) := by
  obtain ⟨ns, nj, nm, nr, nt, g0, A⟩ := cn
  obtain ⟨nc, h, hr, hA, hg, hg7, hA7, hds⟩ := hC
  have h : CI (eaOf s0) S ns nj nm nt nr nc := h
  have hr : RH S nt := hr
  have hA : RK S A ns nj nm nt nr nc := hA
  have hg : mI S 164 0 = nI g0 := hg
  have hA7 : mI A 257 0 = nI g0 := hA7
  have hds : DS A nt := hds
  exact (a_X10_gone G S (eaOf s0) ns nj nm nt nr nc h A hA g0 hg hg7 hA7 a).post (fun v S' ⟨z, e, e2⟩ => by subst e2; exact ⟨if_neg (by rw [z]; decide), e, ⟨nc, h, hr, hA, hg, hg7, hA7, hds⟩, Kq.rf⟩) (fun E S' ⟨e, e1, z⟩ => ⟨e, e1, if_pos z⟩)
theorem k_X10_first {s0 : State} {l : Launch} {D : va_G} {cy : Nat → ClassId} (G : Gl s0 l D cy) (S : HS) {cn : Cn} (hC : CX (eaOf s0) S cn) (a : Int32) : CtX s0 l D cy yX10_first cX10_first 2 (some .int) rm_a_X10_first S [.ref (gG S 10 0), .int a] (fun v S' => laK a 15 = 0 ∧ some (.int (rFirst cn.2.2.2.2.2.2 a cn.2.2.2.2.1)) = v ∧ CX (eaOf s0) S' cn ∧ KeepB S S') (fun E S' => S = S' ∧ ((E = "java/lang/IndexOutOfBoundsException" ∧ laK a 15 = 1))) := by
  obtain ⟨ns, nj, nm, nr, nt, g0, A⟩ := cn
  obtain ⟨nc, h, hr, hA, hg, hg7, hA7, hds⟩ := hC
  have h : CI (eaOf s0) S ns nj nm nt nr nc := h
  have hr : RH S nt := hr
  have hA : RK S A ns nj nm nt nr nc := hA
  have hg : mI S 164 0 = nI g0 := hg
  have hA7 : mI A 257 0 = nI g0 := hA7
  have hds : DS A nt := hds
  exact (a_X10_first G S (eaOf s0) ns nj nm nt nr nc h A hA a).post (fun v S' ⟨z, e, e2⟩ => by subst e2; exact ⟨if_neg (by rw [z]; decide), e, ⟨nc, h, hr, hA, hg, hg7, hA7, hds⟩, Kq.rf⟩) (fun E S' ⟨e, e1, z⟩ => ⟨e, e1, if_pos z⟩)
theorem k_X10_clarity {s0 : State} {l : Launch} {D : va_G} {cy : Nat → ClassId} (G : Gl s0 l D cy) (S : HS) {cn : Cn} (hC : CX (eaOf s0) S cn) (a : Int32) : CtX s0 l D cy yX10_clarity cX10_clarity 2 (some .double) rm_a_X10_clarity S [.ref (gG S 10 0), .int a] (fun v S' => laK a 5 = 0 ∧ some (.double (rMean cn.2.2.2.2.2.2 cn.2.2.2.2.1 a)) = v ∧ CX (eaOf s0) S' cn ∧ KeepB S S') (fun E S' => S = S' ∧ ((E = "java/lang/IndexOutOfBoundsException" ∧ laK a 5 = 1))) := by
  obtain ⟨ns, nj, nm, nr, nt, g0, A⟩ := cn
  obtain ⟨nc, h, hr, hA, hg, hg7, hA7, hds⟩ := hC
  have h : CI (eaOf s0) S ns nj nm nt nr nc := h
  have hr : RH S nt := hr
  have hA : RK S A ns nj nm nt nr nc := hA
  have hg : mI S 164 0 = nI g0 := hg
  have hA7 : mI A 257 0 = nI g0 := hA7
  have hds : DS A nt := hds
  exact (a_X10_clarity G S (eaOf s0) ns nj nm nt nr nc h A hA a).post (fun v S' ⟨z, e, e2⟩ => by subst e2; exact ⟨if_neg (by rw [z]; decide), e, ⟨nc, h, hr, hA, hg, hg7, hA7, hds⟩, Kq.rf⟩) (fun E S' ⟨e, e1, z⟩ => ⟨e, e1, if_pos z⟩)
theorem k_X10_desk {s0 : State} {l : Launch} {D : va_G} {cy : Nat → ClassId} (G : Gl s0 l D cy) (S : HS) {cn : Cn} (hC : CX (eaOf s0) S cn) (a : Int32) : CtX s0 l D cy yX10_desk cX10_desk 2 (some .int) rm_a_X10_desk S [.ref (gG S 10 0), .int a] (fun v S' => laK a 18 = 0 ∧ some (.int (rDesk cn.2.2.2.2.2.2 cn.1 cn.2.1 cn.2.2.1 cn.2.2.2.1 cn.2.2.2.2.1 (mI S 165 0) a.toNatClampNeg)) = v ∧ CX (eaOf s0) S' cn ∧ KeepB S S') (fun E S' => S = S' ∧ ((E = "java/lang/IllegalArgumentException" ∧ laK a 18 = 1))) := by
  obtain ⟨ns, nj, nm, nr, nt, g0, A⟩ := cn
  obtain ⟨nc, h, hr, hA, hg, hg7, hA7, hds⟩ := hC
  have h : CI (eaOf s0) S ns nj nm nt nr nc := h
  have hr : RH S nt := hr
  have hA : RK S A ns nj nm nt nr nc := hA
  have hg : mI S 164 0 = nI g0 := hg
  have hA7 : mI A 257 0 = nI g0 := hA7
  have hds : DS A nt := hds
  exact (a_X10_desk G S (eaOf s0) ns nj nm nt nr nc h A hA g0 hg hg7 hA7 hds a).post (fun v S' ⟨q, hq, eq, e, e2⟩ => by subst e2; exact ⟨if_neg (by rw [show sOut a 0 18 = false by rw [eq]; exact so_j (n := 19) hq (by decide)]; decide), (by rw [tnI hq (by decide) eq]; exact e), ⟨nc, h, hr, hA, hg, hg7, hA7, hds⟩, Kq.rf⟩) (fun E S' ⟨e, e1, z⟩ => ⟨e, e1, if_pos z⟩)
theorem k_X10_wouldHear {s0 : State} {l : Launch} {D : va_G} {cy : Nat → ClassId} (G : Gl s0 l D cy) (S : HS) {cn : Cn} (hC : CX (eaOf s0) S cn) (a : Int32) : CtX s0 l D cy yX10_wouldHear cX10_wouldHear 4 (some .int) rm_a_X10_wouldHear S [.ref (gG S 10 0), .int a] (fun v S' => whK cn.2.2.2.2.1 a (mI cn.2.2.2.2.2.2 241 a.toNatClampNeg) (nI cn.2.2.2.2.2.1) = 0 ∧ some (.int (whF cn.2.2.2.2.2.2 cn.1 cn.2.1 a.toNatClampNeg (tH cn.2.2.2.2.2.2 a.toNatClampNeg % 24))) = v ∧ CX (eaOf s0) S' cn ∧ KeepB S S') (fun E S' => S = S' ∧ ((E = "java/lang/IndexOutOfBoundsException" ∧ whK cn.2.2.2.2.1 a (mI cn.2.2.2.2.2.2 241 a.toNatClampNeg) (nI cn.2.2.2.2.2.1) = 1) ∨ (E = "java/lang/IllegalStateException" ∧ whK cn.2.2.2.2.1 a (mI cn.2.2.2.2.2.2 241 a.toNatClampNeg) (nI cn.2.2.2.2.2.1) = 2))) := by
  obtain ⟨ns, nj, nm, nr, nt, g0, A⟩ := cn
  obtain ⟨nc, h, hr, hA, hg, hg7, hA7, hds⟩ := hC
  have h : CI (eaOf s0) S ns nj nm nt nr nc := h
  have hr : RH S nt := hr
  have hA : RK S A ns nj nm nt nr nc := hA
  have hg : mI S 164 0 = nI g0 := hg
  have hA7 : mI A 257 0 = nI g0 := hA7
  have hds : DS A nt := hds
  exact (by
    by_cases hc9 : sOut a 0 (nI nt - 1) = true
    · exact (a_X10_wouldHear_x G S (eaOf s0) ns nj nm nt nr nc h A hA a hc9).post (fun v S' z => z.elim) (fun E S' ⟨e, z⟩ => ⟨e, Or.inl ⟨z, whK_1 hc9⟩⟩)
    · have hc8 := Bool.eq_false_iff.mpr hc9
      obtain ⟨j, hj, rfl⟩ := out_in (n := nt) (by have := h.b_ta; omega) hc8
      have ej : (nI j).toNatClampNeg = j := nI_clamp (by have := h.b_ta; omega)
      exact (a_X10_wouldHear G S (eaOf s0) ns nj nm nt nr nc h A hA g0 hg hg7 hA7 j hj).post (fun v S' ⟨z, e, e2⟩ => by subst e2; exact ⟨whK_0 hc8 (by rw [ej]; exact z), (by rw [ej]; exact e), ⟨nc, h, hr, hA, hg, hg7, hA7, hds⟩, Kq.rf⟩) (fun E S' ⟨e, e1, z⟩ => ⟨e, Or.inr ⟨e1, whK_2 hc8 (by rw [ej]; exact z)⟩⟩))
theorem k_X10_best {s0 : State} {l : Launch} {D : va_G} {cy : Nat → ClassId} (G : Gl s0 l D cy) (S : HS) {cn : Cn} (hC : CX (eaOf s0) S cn) (a : Int32) : CtX s0 l D cy yX10_best cX10_best 2 (some .int) rm_e_X10_best S [.ref (gG S 10 0), .int a] (fun v S' => laK a 23 = 0 ∧ some (.int (nI (bG (bQ cn.2.2.2.2.2.2 cn.1 cn.2.1 cn.2.2.1 a) 3 nF nF))) = v ∧ CX (eaOf s0) S' cn ∧ KeepB S S') (fun E S' => S = S' ∧ ((E = "java/lang/IndexOutOfBoundsException" ∧ laK a 23 = 1))) := by
  obtain ⟨ns, nj, nm, nr, nt, g0, A⟩ := cn
  obtain ⟨nc, h, hr, hA, hg, hg7, hA7, hds⟩ := hC
  have h : CI (eaOf s0) S ns nj nm nt nr nc := h
  have hr : RH S nt := hr
  have hA : RK S A ns nj nm nt nr nc := hA
  have hg : mI S 164 0 = nI g0 := hg
  have hA7 : mI A 257 0 = nI g0 := hA7
  have hds : DS A nt := hds
  exact (q_X10_best G S (eaOf s0) ns nj nm nt nr nc h A hA a).post (fun v S' ⟨z, e, f, g, h9, e2⟩ => by subst e2; exact ⟨if_neg (by rw [z]; decide), e, ⟨nc, h.scr f g h9, hr, hA.scr, hg, hg7, hA7, hds⟩, ((Kq.rf.sA rfl).sA rfl).sA rfl⟩) (fun E S' ⟨e, e1, z⟩ => ⟨e, e1, if_pos z⟩)
theorem k_X10_bestAt {s0 : State} {l : Launch} {D : va_G} {cy : Nat → ClassId} (G : Gl s0 l D cy) (S : HS) {cn : Cn} (hC : CX (eaOf s0) S cn) (a b z : Int32) : CtX s0 l D cy yX10_bestAt cX10_bestAt 4 (some .int) rm_e_X10_bestAt S [.ref (gG S 10 0), .int a, .int b, .int z] (fun v S' => siK a b = 0 ∧ some (.int (if z = 0 then rS (bCk (bQ cn.2.2.2.2.2.2 cn.1 cn.2.1 cn.2.2.1 a) b.toNatClampNeg) else rM (bCk (bQ cn.2.2.2.2.2.2 cn.1 cn.2.1 cn.2.2.1 a) b.toNatClampNeg))) = v ∧ CX (eaOf s0) S' cn ∧ KeepB S S') (fun E S' => S = S' ∧ ((E = "java/lang/IndexOutOfBoundsException" ∧ siK a b = 1))) := by
  obtain ⟨ns, nj, nm, nr, nt, g0, A⟩ := cn
  obtain ⟨nc, h, hr, hA, hg, hg7, hA7, hds⟩ := hC
  have h : CI (eaOf s0) S ns nj nm nt nr nc := h
  have hr : RH S nt := hr
  have hA : RK S A ns nj nm nt nr nc := hA
  have hg : mI S 164 0 = nI g0 := hg
  have hA7 : mI A 257 0 = nI g0 := hA7
  have hds : DS A nt := hds
  exact (q_X10_bestAt G S (eaOf s0) ns nj nm nt nr nc h A hA a b z).post (fun v S' ⟨z1, ⟨j, hj, ej, e⟩, f, g, h9, e2⟩ => by subst e2 ej; exact ⟨siK_0 z1 (so_jn (n := 3) hj (by decide)), (by rw [show (nI j).toNatClampNeg = j from nI_clamp (by omega)]; exact e), ⟨nc, h.scr f g h9, hr, hA.scr, hg, hg7, hA7, hds⟩, ((Kq.rf.sA rfl).sA rfl).sA rfl⟩) (fun E S' ⟨e, e1, z⟩ => ⟨e, e1, if_pos z⟩)
theorem CX.g7 {ea : Nat} {S : HS} {cn : Cn} (hC : CX ea S cn) : cn.2.2.2.2.2.1 ≤ 720 := by
  obtain ⟨nc, h, hr, hA, hg, hg7, -⟩ := hC
  exact hg7
theorem k_X10_call {s0 : State} {l : Launch} {D : va_G} {cy : Nat → ClassId} (G : Gl s0 l D cy) (S : HS) {cn : Cn} (hC : CX (eaOf s0) S cn) : Ctr s0 l D cy yX10_call cX10_call 1 (some .int) rm_m_X10_call S [.ref (gG S 10 0)] (fun v S' => some (.int (mI S 165 0 + 1)) = v ∧ S' = sI S 165 0 (mI S 165 0 + 1)) := by
  obtain ⟨ns, nj, nm, nr, nt, g0, A⟩ := cn
  obtain ⟨nc, h, hr, hA, hg, hg7, hA7, hds⟩ := hC
  have h : CI (eaOf s0) S ns nj nm nt nr nc := h
  have hr : RH S nt := hr
  have hA : RK S A ns nj nm nt nr nc := hA
  have hg : mI S 164 0 = nI g0 := hg
  have hA7 : mI A 257 0 = nI g0 := hA7
  have hds : DS A nt := hds
  exact m_X10_call G S (eaOf s0) ns nj nm nt nr nc h
theorem CX.call {ea : Nat} {S : HS} {cn : Cn} {x : Int32} (hC : CX ea S cn) : CX ea (sI S 165 0 x) cn := by
  obtain ⟨nc, h, hr, hA, hg, hg7, hA7, hds⟩ := hC
  exact ⟨nc, h.stI (by decide), hr, hA.cal, hg, hg7, hA7, hds⟩
theorem k_X10_pass_n {s0 : State} {l : Launch} {D : va_G} {cy : Nat → ClassId} (G : Gl s0 l D cy) (S : HS) {cn : Cn} (hC : CX (eaOf s0) S cn) (n : Nat) (hn1 : 1 ≤ n) (hn : n ≤ 48) (hgn : cn.2.2.2.2.2.1 + n ≤ 720) : Ctr s0 l D cy yX10_pass cX10_pass 3 (some .int) (rm_a_X10_pass_n n) S [.ref (gG S 10 0), .int (nI n)] (fun v S' => some (.int (nI (cn.2.2.2.2.2.1 + n))) = v ∧ CX (eaOf s0) S' (cn.1, cn.2.1, cn.2.2.1, cn.2.2.2.1, cn.2.2.2.2.1, cn.2.2.2.2.2.1 + n, hoN cn.2.2.2.2.2.2 cn.1 cn.2.1 cn.2.2.1 cn.2.2.2.2.1 cn.2.2.2.1 cn.2.2.2.2.2.1 n) ∧ KeepB S S') := by
  obtain ⟨ns, nj, nm, nr, nt, g0, A⟩ := cn
  obtain ⟨nc, h, hr, hA, hg, hg7, hA7, hds⟩ := hC
  have h : CI (eaOf s0) S ns nj nm nt nr nc := h
  have hr : RH S nt := hr
  have hA : RK S A ns nj nm nt nr nc := hA
  have hg : mI S 164 0 = nI g0 := hg
  have hA7 : mI A 257 0 = nI g0 := hA7
  have hds : DS A nt := hds
  exact (a_X10_pass_n G S (eaOf s0) ns nj nm nt nr nc h A hA rfl n g0 hn1 hn hg hgn hr).post (fun v S' ⟨e, n', h', k', a', e', r'⟩ => ⟨e, ⟨n', h', r', a', e', hgn, hoN_7 n hn1, ds_hoN hds h.b_ta n⟩, Kq.pB (m2k k')⟩)

