/-- the digits of a monitor's skills -/
def dig (a : Int32) (k : Nat) : Int32 := if k < 5 then cDiv a k - cDiv a k / 10 * 10 else 0
def moC (A : HS) (n : Nat) (a : Int32) : HS := sA (sI (sI (sI A 193 n 0) 194 n 0) 195 n 0) 34 n (dig a)
def reC (A : HS) (n : Nat) (a b : Int32) : HS := sA (sI (sI A 208 n a) 209 n b) 35 n (fun _ => 0)
def taC (A : HS) (n : Nat) (a b d g e f : Int32) : HS := sI (sI (sI (sI (sI (sI (sI (sI (taA A n a b d g e f) 246 n (-1)) 247 n (-1)) 248 n 0) 249 n 0) 250 n 0) 251 n (-1)) 252 n 0) 253 n 0
theorem rCnt_z {p : Nat → Bool} : ∀ n, (∀ k, k < n → p k = false) → rCnt p n = 0
  | 0, _ => rfl
  | n + 1, h => by
    show rCnt p n + (if p n = true then 1 else 0) = 0
    rw [rCnt_z n (fun k hk => h k (Nat.lt_succ_of_lt hk)), h n (Nat.lt_succ_self n)]; rfl
theorem rBy_nm {S A : HS} {ns nj nm nt nr nc : Nat} (h : RK S A ns nj nm nt nr nc) (hb : nm ≤ 5) : rCnt (rBy A nm) nt = 0 := rCnt_z nt (fun k hk => by
  unfold rBy
  rcases h.ok.2.2.2 k hk with z | ⟨q, m, -, -, hm, -, e⟩
  · rw [z]; rfl
  · have d : decide (mI A 250 k = nI nm) = false := decide_eq_false (fun y => by have := (nI_eq (a := m) (b := nm) (by omega) (by omega)).mp (e.symm.trans y); omega)
    rw [d, Bool.and_false])
theorem mA_sI {A : HS} {t k : Nat} {x : Int32} : mA (sI A t k x) = mA A := rfl
theorem mN_sI {A : HS} {t k : Nat} {x : Int32} : mN (sI A t k x) = mN A := rfl
theorem taC_A {A : HS} {n : Nat} {a b d g e f : Int32} : mA (taC A n a b d g e f) = mA A := by unfold taC taA; simp only [mA_sI]
theorem taC_N {A : HS} {n : Nat} {a b d g e f : Int32} : mN (taC A n a b d g e f) = mN A := by unfold taC taA; simp only [mN_sI]
theorem taC_q {A : HS} {n : Nat} {a b d g e f : Int32} : qN (taC A n a b d g e f) = qN A := by unfold qN; rw [taC_N]
theorem RC.x246 {S A : HS} {ns nj nt n : Nat} {x : Int32} (h : RC S A ns nj nt) : RC S (sI A 246 n x) ns nj nt := h

theorem RK.a_st {S A : HS} {ns nj nm nt nr nc : Nat} {q1 q2 : Nat} {m2 : Int32} {b2 : Nat → Option Nat} {a b d g e_ f : Int32} (he : ∃ x, x < 5 ∧ e_ = nI x) (h : RK S A ns nj nm nt nr nc) : RK (addS (sI (sI (sI (sI (sI (sI (sI (sNew S 8 ns q1) 128 ns (nI ns)) 129 ns a) 130 ns b) 131 ns d) 132 ns g) 133 ns e_) 134 ns f) 0 q2 (capOf (ns + 1)) m2 (nI (ns + 1)) b2) (stA A ns a b d g e_ f) (ns + 1) nj nm nt nr nc := by
  exact ⟨(h.rc.st), (⟨fun x k hx hk => (h.ok.1 x k hx hk).imp id (fun ⟨s, m, z1, z2⟩ => ⟨s, m, by omega, z2⟩), fun j hj => by
    by_cases c : j = ns
    · subst c; obtain ⟨x, x1, x2⟩ := he; exact ⟨x, x1, by simp [stA, uI_I, uI_R, uI_A, uI_Arr, uI_N, uI_add, uR_I, uR_R, uR_A, uR_Arr, uR_N, uR_add, uG_I, uG_R, uG_A, uG_Arr, uG_N, uG_add, uA_I, uA_R, uA_A, uA_Arr, uA_N, uA_add]; exact x2⟩
    · have z := h.ok.2.1 j (by omega)
      simp [stA, uI_I, uI_R, uI_A, uI_Arr, uI_N, uI_add, uR_I, uR_R, uR_A, uR_Arr, uR_N, uR_add, uG_I, uG_R, uG_A, uG_Arr, uG_N, uG_add, uA_I, uA_R, uA_A, uA_Arr, uA_N, uA_add, c]; exact z, h.ok.2.2⟩), h.mo, h.re, h.pr, (fun j hj => by
    have y := h.rp j hj
    unfold RCr RCf at y ⊢
    exact y.imp id (fun z => ⟨z.1, Or.inl (Or.inl z.2.1), z.2.2⟩)), h.wi, h.tu, h.qu, h.q1, h.q2, h.q3, h.q4, h.q6, h.q7, h.q8, h.q9, h.rz⟩
theorem RK.a_jm {S A : HS} {ns nj nm nt nr nc : Nat} {q1 q2 : Nat} {m2 : Int32} {b2 : Nat → Option Nat} {a b : Int32} (h : RK S A ns nj nm nt nr nc) : RK (addS (sI (sI (sNew S 1 nj q1) 16 nj a) 17 nj b) 1 q2 (capOf (nj + 1)) m2 (nI (nj + 1)) b2) (jmA A nj a b) ns (nj + 1) nm nt nr nc := by
  exact ⟨(h.rc.jm), h.ok, h.mo, h.re, h.pr, (fun j hj => by
    have y := h.rp j hj
    unfold RCr RCf at y ⊢
    exact y.imp id (fun z => ⟨z.1, Or.inl (Or.inl z.2.1), z.2.2⟩)), h.wi, h.tu, h.qu, h.q1, h.q2, h.q3, h.q4, h.q6, h.q7, h.q8, h.q9, h.rz⟩
theorem RK.a_mo {S A : HS} {ns nj nm nt nr nc : Nat} {q1 q2 : Nat} {m2 : Int32} {b2 : Nat → Option Nat} {a : Int32} (hb5 : nm ≤ 5) (h : RK S A ns nj nm nt nr nc) : RK (addS (sI (sI (sNew S 3 nm q1) 48 nm (nI nm)) 49 nm a) 2 q2 (capOf (nm + 1)) m2 (nI (nm + 1)) b2) (moC A nm a) ns nj (nm + 1) nt nr nc := by
  exact ⟨((show RC (addS (sI (sI (sNew S 3 nm q1) 48 nm (nI nm)) 49 nm a) 2 q2 (capOf (nm + 1)) m2 (nI (nm + 1)) b2) (moC A nm a) ns nj nt from h.rc.keep kp_add_mo)), (⟨fun x k hx hk => (h.ok.1 x k hx hk).imp id (fun ⟨s, m, z1, z2, z3⟩ => ⟨s, m, z1, by omega, z3⟩), h.ok.2.1, h.ok.2.2.1, fun j hj => (h.ok.2.2.2 j hj).imp id (fun ⟨q, m, z1, z2, z3, z4⟩ => ⟨q, m, z1, z2, by omega, z4⟩)⟩), (fun m hm => by
    by_cases c : m = nm
    · subst c
      refine ⟨fun k hk => ?_, ?_, ?_⟩
      · have e1 : mI (addS (sI (sI (sNew S 3 m q1) 48 m (nI m)) 49 m a) 2 q2 (capOf (m + 1)) m2 (nI (m + 1)) b2) 49 m = a := by simp [mI, sI, sR, sNew, addS, up2]
        have e2 : mA (moC A m a) 34 m = dig a := sA_s
        rw [e1, e2]; exact (if_pos hk).symm
      · simp [moC, uI_I, uI_R, uI_A, uI_Arr, uI_N, uI_add, uR_I, uR_R, uR_A, uR_Arr, uR_N, uR_add, uG_I, uG_R, uG_A, uG_Arr, uG_N, uG_add, uA_I, uA_R, uA_A, uA_Arr, uA_N, uA_add]
      · simp [moC, uI_I, uI_R, uI_A, uI_Arr, uI_N, uI_add, uR_I, uR_R, uR_A, uR_Arr, uR_N, uR_add, uG_I, uG_R, uG_A, uG_Arr, uG_N, uG_add, uA_I, uA_R, uA_A, uA_Arr, uA_N, uA_add]
    · have z := h.mo m (by omega)
      have e1 : mI (addS (sI (sI (sNew S 3 nm q1) 48 nm (nI nm)) 49 nm a) 2 q2 (capOf (nm + 1)) m2 (nI (nm + 1)) b2) 49 m = mI S 49 m := by simp [mI, sI, sR, sNew, addS, up2, c]
      have e2 : mI (addS (sI (sI (sNew S 3 nm q1) 48 nm (nI nm)) 49 nm a) 2 q2 (capOf (nm + 1)) m2 (nI (nm + 1)) b2) 50 m = mI S 50 m := by simp [mI, sI, sR, sNew, addS, up2, c]
      have e3 : mI (addS (sI (sI (sNew S 3 nm q1) 48 nm (nI nm)) 49 nm a) 2 q2 (capOf (nm + 1)) m2 (nI (nm + 1)) b2) 51 m = mI S 51 m := by simp [mI, sI, sR, sNew, addS, up2, c]
      have e4 : mA (moC A nm a) 34 m = mA A 34 m := sA_o c
      have e5 : mI (moC A nm a) 193 m = mI A 193 m := by simp [moC, uI_I, uI_R, uI_A, uI_Arr, uI_N, uI_add, uR_I, uR_R, uR_A, uR_Arr, uR_N, uR_add, uG_I, uG_R, uG_A, uG_Arr, uG_N, uG_add, uA_I, uA_R, uA_A, uA_Arr, uA_N, uA_add, c]
      have e6 : mI (moC A nm a) 194 m = mI A 194 m := by simp [moC, uI_I, uI_R, uI_A, uI_Arr, uI_N, uI_add, uR_I, uR_R, uR_A, uR_Arr, uR_N, uR_add, uG_I, uG_R, uG_A, uG_Arr, uG_N, uG_add, uA_I, uA_R, uA_A, uA_Arr, uA_N, uA_add, c]
      rw [e1, e2, e3, e4, e5, e6]; exact z), h.re, h.pr, (fun j hj => by
    have y := h.rp j hj
    unfold RCr RCf at y ⊢
    exact y.imp id (fun z => ⟨z.1, Or.inl (Or.inl z.2.1), z.2.2⟩)), h.wi, h.tu, h.qu, h.q1, h.q2, (fun m hm => by
    by_cases c : m = nm
    · subst c
      have e5 : mI (moC A m a) 195 m = 0 := by simp [moC, uI_I, uI_R, uI_A, uI_Arr, uI_N, uI_add, uR_I, uR_R, uR_A, uR_Arr, uR_N, uR_add, uG_I, uG_R, uG_A, uG_Arr, uG_N, uG_add, uA_I, uA_R, uA_A, uA_Arr, uA_N, uA_add]
      rw [e5]; exact (rBy_nm h hb5).symm
    · have e5 : mI (moC A nm a) 195 m = mI A 195 m := by simp [moC, uI_I, uI_R, uI_A, uI_Arr, uI_N, uI_add, uR_I, uR_R, uR_A, uR_Arr, uR_N, uR_add, uG_I, uG_R, uG_A, uG_Arr, uG_N, uG_add, uA_I, uA_R, uA_A, uA_Arr, uA_N, uA_add, c]
      rw [e5]; exact h.q3 m (by omega)), h.q4, h.q6, h.q7, h.q8, h.q9, h.rz⟩
theorem RK.a_re {S A : HS} {ns nj nm nt nr nc : Nat} {q1 q2 : Nat} {m2 : Int32} {b2 : Nat → Option Nat} {a b : Int32} (hb4 : nr < 4) (h : RK S A ns nj nm nt nr nc) : RK (addS (sI (sI (sI (sNew S 5 nr q1) 80 nr (nI nr)) 81 nr a) 82 nr b) 4 q2 (capOf (nr + 1)) m2 (nI (nr + 1)) b2) (reC A nr a b) ns nj nm nt (nr + 1) nc := by
  exact ⟨((show RC (addS (sI (sI (sI (sNew S 5 nr q1) 80 nr (nI nr)) 81 nr a) 82 nr b) 4 q2 (capOf (nr + 1)) m2 (nI (nr + 1)) b2) (reC A nr a b) ns nj nt from h.rc.keep kp_add_re)), h.ok, h.mo, (fun r hr => by
    by_cases c : r = nr
    · subst c
      exact ⟨by simp [reC, mI, sI, sA, sR, sNew, addS, up2], by simp [reC, mI, sI, sA, sR, sNew, addS, up2]⟩
    · have z := h.re r (by omega)
      have e1 : mI (addS (sI (sI (sI (sNew S 5 nr q1) 80 nr (nI nr)) 81 nr a) 82 nr b) 4 q2 (capOf (nr + 1)) m2 (nI (nr + 1)) b2) 81 r = mI S 81 r := by simp [mI, sI, sR, sNew, addS, up2, c]
      have e2 : mI (addS (sI (sI (sI (sNew S 5 nr q1) 80 nr (nI nr)) 81 nr a) 82 nr b) 4 q2 (capOf (nr + 1)) m2 (nI (nr + 1)) b2) 82 r = mI S 82 r := by simp [mI, sI, sR, sNew, addS, up2, c]
      have e3 : mI (reC A nr a b) 208 r = mI A 208 r := by simp [reC, uI_I, uI_R, uI_A, uI_Arr, uI_N, uI_add, uR_I, uR_R, uR_A, uR_Arr, uR_N, uR_add, uG_I, uG_R, uG_A, uG_Arr, uG_N, uG_add, uA_I, uA_R, uA_A, uA_Arr, uA_N, uA_add, c]
      have e4 : mI (reC A nr a b) 209 r = mI A 209 r := by simp [reC, uI_I, uI_R, uI_A, uI_Arr, uI_N, uI_add, uR_I, uR_R, uR_A, uR_Arr, uR_N, uR_add, uG_I, uG_R, uG_A, uG_Arr, uG_N, uG_add, uA_I, uA_R, uA_A, uA_Arr, uA_N, uA_add, c]
      rw [e1, e2, e3, e4]; exact z), h.pr, (fun j hj => by
    have y := h.rp j hj
    have e0 : mA (reC A nr a b) 35 nr j = 0 := by rw [show mA (reC A nr a b) 35 nr = (fun _ => 0) from sA_s]
    have eo : ∀ r, ¬ r = nr → mA (reC A nr a b) 35 r j = mA A 35 r j := fun r c => by rw [show mA (reC A nr a b) 35 r = mA A 35 r from sA_o c]
    rcases y with ⟨y1, y2, y3, y4, y5⟩ | ⟨y1, y2, y3, d⟩
    · exact Or.inl ⟨y1, y2, y3, fun r hr => by
        by_cases c : r = nr
        · rw [c]; exact e0
        · rw [eo r c]; exact y4 r (by omega), y5⟩
    · obtain ⟨d0, d1, d2, d3, d4, d5, d6, d7, d8, d9, d10, d11, d12, d13, d14⟩ := d
      exact Or.inr ⟨y1, Or.inl (Or.inl y2), y3, d0, d1, d2, d3, d4, d5, d6, d7, d8, d9, d10, d11, fun r hr => by
        by_cases c : r = nr
        · rw [c, e0, show sIn (mI (addS (sI (sI (sI (sNew S 5 nr q1) 80 nr (nI nr)) 81 nr a) 82 nr b) 4 q2 (capOf (nr + 1)) m2 (nI (nr + 1)) b2) 108 j) (nI nr) = false from d13 nr (Nat.le_refl _) hb4]; rfl
        · rw [eo r c]; exact d12 r (by omega), fun r h1 h2 => d13 r (by omega) h2, d14⟩), h.wi, h.tu, h.qu, h.q1, h.q2, h.q3, h.q4, h.q6, (fun j hj z r hr => by
    by_cases c : r = nr
    · rw [c, show mA (reC A nr a b) 35 nr = (fun _ => 0) from sA_s]
    · rw [show mA (reC A nr a b) 35 r = mA A 35 r from sA_o c]; exact h.q7 j hj z r (by omega)), h.q8, h.q9, (fun r hr j hj => by
    by_cases c : r = nr
    · rw [c, show mA (reC A nr a b) 35 nr = (fun _ => 0) from sA_s]
    · rw [show mA (reC A nr a b) 35 r = mA A 35 r from sA_o c]; exact h.rz r (by omega) j hj)⟩
theorem RK.a_ta {S A : HS} {ns nj nm nt nr nc : Nat} {q1 q2 : Nat} {m2 : Int32} {b2 : Nat → Option Nat} {i8 : Nat} {a b d g e_ f : Int32} (h8 : i8 < ns) (ea8 : a = nI i8) (o1 : ∃ t, t < 720 ∧ b = nI t) (o2 : ∃ w, w ≤ 300 ∧ g = nI w) (o3 : ∃ w, w ≤ 9 ∧ e_ = nI w) (o4 : ∃ x, x < 65536 ∧ f = nI x) (hz : ¬ vV S 6 nt) (h : RK S A ns nj nm nt nr nc) : RK (addS (sI (sI (sI (sI (sI (sR (sI (sI (sNew S 9 nt q1) 151 nt (-1)) 144 nt (nI nt)) 145 nt (some (gG (sNew S 9 nt q1) 8 i8))) 146 nt b) 147 nt d) 148 nt g) 149 nt e_) 150 nt f) 3 q2 (capOf (nt + 1)) m2 (nI (nt + 1)) b2) (taC A nt a b d g e_ f) ns nj nm (nt + 1) nr nc := by
  have c193 : ∀ m, mI (taC A nt a b d g e_ f) 193 m = mI A 193 m := fun m => by simp [taC, taA, uI_I, uI_R, uI_A, uI_Arr, uI_N, uI_add, uR_I, uR_R, uR_A, uR_Arr, uR_N, uR_add, uG_I, uG_R, uG_A, uG_Arr, uG_N, uG_add, uA_I, uA_R, uA_A, uA_Arr, uA_N, uA_add]
  have c194 : ∀ m, mI (taC A nt a b d g e_ f) 194 m = mI A 194 m := fun m => by simp [taC, taA, uI_I, uI_R, uI_A, uI_Arr, uI_N, uI_add, uR_I, uR_R, uR_A, uR_Arr, uR_N, uR_add, uG_I, uG_R, uG_A, uG_Arr, uG_N, uG_add, uA_I, uA_R, uA_A, uA_Arr, uA_N, uA_add]
  have c195 : ∀ m, mI (taC A nt a b d g e_ f) 195 m = mI A 195 m := fun m => by simp [taC, taA, uI_I, uI_R, uI_A, uI_Arr, uI_N, uI_add, uR_I, uR_R, uR_A, uR_Arr, uR_N, uR_add, uG_I, uG_R, uG_A, uG_Arr, uG_N, uG_add, uA_I, uA_R, uA_A, uA_Arr, uA_N, uA_add]
  have c208 : ∀ m, mI (taC A nt a b d g e_ f) 208 m = mI A 208 m := fun m => by simp [taC, taA, uI_I, uI_R, uI_A, uI_Arr, uI_N, uI_add, uR_I, uR_R, uR_A, uR_Arr, uR_N, uR_add, uG_I, uG_R, uG_A, uG_Arr, uG_N, uG_add, uA_I, uA_R, uA_A, uA_Arr, uA_N, uA_add]
  have c209 : ∀ m, mI (taC A nt a b d g e_ f) 209 m = mI A 209 m := fun m => by simp [taC, taA, uI_I, uI_R, uI_A, uI_Arr, uI_N, uI_add, uR_I, uR_R, uR_A, uR_Arr, uR_N, uR_add, uG_I, uG_R, uG_A, uG_Arr, uG_N, uG_add, uA_I, uA_R, uA_A, uA_Arr, uA_N, uA_add]
  have c227 : ∀ m, mI (taC A nt a b d g e_ f) 227 m = mI A 227 m := fun m => by simp [taC, taA, uI_I, uI_R, uI_A, uI_Arr, uI_N, uI_add, uR_I, uR_R, uR_A, uR_Arr, uR_N, uR_add, uG_I, uG_R, uG_A, uG_Arr, uG_N, uG_add, uA_I, uA_R, uA_A, uA_Arr, uA_N, uA_add]
  have c258 : ∀ m, mI (taC A nt a b d g e_ f) 258 m = mI A 258 m := fun m => by simp [taC, taA, uI_I, uI_R, uI_A, uI_Arr, uI_N, uI_add, uR_I, uR_R, uR_A, uR_Arr, uR_N, uR_add, uG_I, uG_R, uG_A, uG_Arr, uG_N, uG_add, uA_I, uA_R, uA_A, uA_Arr, uA_N, uA_add]
  have c261 : ∀ m, mI (taC A nt a b d g e_ f) 261 m = mI A 261 m := fun m => by simp [taC, taA, uI_I, uI_R, uI_A, uI_Arr, uI_N, uI_add, uR_I, uR_R, uR_A, uR_Arr, uR_N, uR_add, uG_I, uG_R, uG_A, uG_Arr, uG_N, uG_add, uA_I, uA_R, uA_A, uA_Arr, uA_N, uA_add]
  exact ⟨(RC.pic (RC.x246 (n := nt) (x := -1) (h.rc.ta (a := a) h8 ea8)) (((((((Kq.rf.sI rfl).sI rfl).sI rfl).sI rfl).sI rfl).sI rfl).sI rfl)), (⟨fun x k hx hk => by rw [taC_A]; exact h.ok.1 x k hx hk, fun j hj => by rw [c227]; exact h.ok.2.1 j hj, fun i hi => by
    by_cases c : i = nt
    · subst c
      have e241 : mI (taC A i a b d g e_ f) 241 i = b := by simp [taC, taA, uI_I, uI_R, uI_A, uI_Arr, uI_N, uI_add, uR_I, uR_R, uR_A, uR_Arr, uR_N, uR_add, uG_I, uG_R, uG_A, uG_Arr, uG_N, uG_add, uA_I, uA_R, uA_A, uA_Arr, uA_N, uA_add]
      have e243 : mI (taC A i a b d g e_ f) 243 i = g := by simp [taC, taA, uI_I, uI_R, uI_A, uI_Arr, uI_N, uI_add, uR_I, uR_R, uR_A, uR_Arr, uR_N, uR_add, uG_I, uG_R, uG_A, uG_Arr, uG_N, uG_add, uA_I, uA_R, uA_A, uA_Arr, uA_N, uA_add]
      have e244 : mI (taC A i a b d g e_ f) 244 i = e_ := by simp [taC, taA, uI_I, uI_R, uI_A, uI_Arr, uI_N, uI_add, uR_I, uR_R, uR_A, uR_Arr, uR_N, uR_add, uG_I, uG_R, uG_A, uG_Arr, uG_N, uG_add, uA_I, uA_R, uA_A, uA_Arr, uA_N, uA_add]
      have e245 : mI (taC A i a b d g e_ f) 245 i = f := by simp [taC, taA, uI_I, uI_R, uI_A, uI_Arr, uI_N, uI_add, uR_I, uR_R, uR_A, uR_Arr, uR_N, uR_add, uG_I, uG_R, uG_A, uG_Arr, uG_N, uG_add, uA_I, uA_R, uA_A, uA_Arr, uA_N, uA_add]
      have e246 : mI (taC A i a b d g e_ f) 246 i = -1 := by simp [taC, taA, uI_I, uI_R, uI_A, uI_Arr, uI_N, uI_add, uR_I, uR_R, uR_A, uR_Arr, uR_N, uR_add, uG_I, uG_R, uG_A, uG_Arr, uG_N, uG_add, uA_I, uA_R, uA_A, uA_Arr, uA_N, uA_add]
      rw [e241, e243, e244, e245, e246]; exact ⟨o1, o2, o3, o4, Or.inl rfl⟩
    · have e241 : mI (taC A nt a b d g e_ f) 241 i = mI A 241 i := by simp [taC, taA, uI_I, uI_R, uI_A, uI_Arr, uI_N, uI_add, uR_I, uR_R, uR_A, uR_Arr, uR_N, uR_add, uG_I, uG_R, uG_A, uG_Arr, uG_N, uG_add, uA_I, uA_R, uA_A, uA_Arr, uA_N, uA_add, c]
      have e243 : mI (taC A nt a b d g e_ f) 243 i = mI A 243 i := by simp [taC, taA, uI_I, uI_R, uI_A, uI_Arr, uI_N, uI_add, uR_I, uR_R, uR_A, uR_Arr, uR_N, uR_add, uG_I, uG_R, uG_A, uG_Arr, uG_N, uG_add, uA_I, uA_R, uA_A, uA_Arr, uA_N, uA_add, c]
      have e244 : mI (taC A nt a b d g e_ f) 244 i = mI A 244 i := by simp [taC, taA, uI_I, uI_R, uI_A, uI_Arr, uI_N, uI_add, uR_I, uR_R, uR_A, uR_Arr, uR_N, uR_add, uG_I, uG_R, uG_A, uG_Arr, uG_N, uG_add, uA_I, uA_R, uA_A, uA_Arr, uA_N, uA_add, c]
      have e245 : mI (taC A nt a b d g e_ f) 245 i = mI A 245 i := by simp [taC, taA, uI_I, uI_R, uI_A, uI_Arr, uI_N, uI_add, uR_I, uR_R, uR_A, uR_Arr, uR_N, uR_add, uG_I, uG_R, uG_A, uG_Arr, uG_N, uG_add, uA_I, uA_R, uA_A, uA_Arr, uA_N, uA_add, c]
      have e246 : mI (taC A nt a b d g e_ f) 246 i = mI A 246 i := by simp [taC, taA, uI_I, uI_R, uI_A, uI_Arr, uI_N, uI_add, uR_I, uR_R, uR_A, uR_Arr, uR_N, uR_add, uG_I, uG_R, uG_A, uG_Arr, uG_N, uG_add, uA_I, uA_R, uA_A, uA_Arr, uA_N, uA_add, c]
      rw [e241, e243, e244, e245, e246]; exact h.ok.2.2.1 i (by omega), fun i hi => by
    by_cases c : i = nt
    · subst c; exact Or.inl (by simp [taC, taA, uI_I, uI_R, uI_A, uI_Arr, uI_N, uI_add, uR_I, uR_R, uR_A, uR_Arr, uR_N, uR_add, uG_I, uG_R, uG_A, uG_Arr, uG_N, uG_add, uA_I, uA_R, uA_A, uA_Arr, uA_N, uA_add])
    · have e247 : mI (taC A nt a b d g e_ f) 247 i = mI A 247 i := by simp [taC, taA, uI_I, uI_R, uI_A, uI_Arr, uI_N, uI_add, uR_I, uR_R, uR_A, uR_Arr, uR_N, uR_add, uG_I, uG_R, uG_A, uG_Arr, uG_N, uG_add, uA_I, uA_R, uA_A, uA_Arr, uA_N, uA_add, c]
      have e248 : mI (taC A nt a b d g e_ f) 248 i = mI A 248 i := by simp [taC, taA, uI_I, uI_R, uI_A, uI_Arr, uI_N, uI_add, uR_I, uR_R, uR_A, uR_Arr, uR_N, uR_add, uG_I, uG_R, uG_A, uG_Arr, uG_N, uG_add, uA_I, uA_R, uA_A, uA_Arr, uA_N, uA_add, c]
      have e250 : mI (taC A nt a b d g e_ f) 250 i = mI A 250 i := by simp [taC, taA, uI_I, uI_R, uI_A, uI_Arr, uI_N, uI_add, uR_I, uR_R, uR_A, uR_Arr, uR_N, uR_add, uG_I, uG_R, uG_A, uG_Arr, uG_N, uG_add, uA_I, uA_R, uA_A, uA_Arr, uA_N, uA_add, c]
      rw [e247, e248, e250]; exact h.ok.2.2.2 i (by omega)⟩), (fun m hm => by rw [taC_A, c193, c194]; exact h.mo m hm), (fun r hr => by rw [c208, c209]; exact h.re r hr), (fun i hi => by
    by_cases c : i = nt
    · subst c
      have e1 : mI (addS (sI (sI (sI (sI (sI (sR (sI (sI (sNew S 9 i q1) 151 i (-1)) 144 i (nI i)) 145 i (some (gG (sNew S 9 i q1) 8 i8))) 146 i b) 147 i d) 148 i g) 149 i e_) 150 i f) 3 q2 (capOf (i + 1)) m2 (nI (i + 1)) b2) 151 i = -1 := by simp [mI, sI, sR, sNew, addS, up2]
      rw [e1]; simp [taC, taA, uI_I, uI_R, uI_A, uI_Arr, uI_N, uI_add, uR_I, uR_R, uR_A, uR_Arr, uR_N, uR_add, uG_I, uG_R, uG_A, uG_Arr, uG_N, uG_add, uA_I, uA_R, uA_A, uA_Arr, uA_N, uA_add]
    · have e1 : mI (addS (sI (sI (sI (sI (sI (sR (sI (sI (sNew S 9 nt q1) 151 nt (-1)) 144 nt (nI nt)) 145 nt (some (gG (sNew S 9 nt q1) 8 i8))) 146 nt b) 147 nt d) 148 nt g) 149 nt e_) 150 nt f) 3 q2 (capOf (nt + 1)) m2 (nI (nt + 1)) b2) 151 i = mI S 151 i := by simp [mI, sI, sR, sNew, addS, up2, c]
      have e246 : mI (taC A nt a b d g e_ f) 246 i = mI A 246 i := by simp [taC, taA, uI_I, uI_R, uI_A, uI_Arr, uI_N, uI_add, uR_I, uR_R, uR_A, uR_Arr, uR_N, uR_add, uG_I, uG_R, uG_A, uG_Arr, uG_N, uG_add, uA_I, uA_R, uA_A, uA_Arr, uA_N, uA_add, c]
      rw [e1, e246]; exact h.pr i (by omega)), (fun i hi => by
    by_cases c : i = nt
    · subst c
      refine Or.inl ⟨by simp [mR, sI, sR, sNew, addS, up2], by simp [taC, taA, uI_I, uI_R, uI_A, uI_Arr, uI_N, uI_add, uR_I, uR_R, uR_A, uR_Arr, uR_N, uR_add, uG_I, uG_R, uG_A, uG_Arr, uG_N, uG_add, uA_I, uA_R, uA_A, uA_Arr, uA_N, uA_add], by simp [taC, taA, uI_I, uI_R, uI_A, uI_Arr, uI_N, uI_add, uR_I, uR_R, uR_A, uR_Arr, uR_N, uR_add, uG_I, uG_R, uG_A, uG_Arr, uG_N, uG_add, uA_I, uA_R, uA_A, uA_Arr, uA_N, uA_add], fun r hr => by rw [taC_A]; exact h.rz r hr i (Nat.le_refl _), by simp [taC, taA, uI_I, uI_R, uI_A, uI_Arr, uI_N, uI_add, uR_I, uR_R, uR_A, uR_Arr, uR_N, uR_add, uG_I, uG_R, uG_A, uG_Arr, uG_N, uG_add, uA_I, uA_R, uA_A, uA_Arr, uA_N, uA_add]⟩
    · have y := h.rp i (by omega)
      have e243 : mI (taC A nt a b d g e_ f) 243 i = mI A 243 i := by simp [taC, taA, uI_I, uI_R, uI_A, uI_Arr, uI_N, uI_add, uR_I, uR_R, uR_A, uR_Arr, uR_N, uR_add, uG_I, uG_R, uG_A, uG_Arr, uG_N, uG_add, uA_I, uA_R, uA_A, uA_Arr, uA_N, uA_add, c]
      have e244 : mI (taC A nt a b d g e_ f) 244 i = mI A 244 i := by simp [taC, taA, uI_I, uI_R, uI_A, uI_Arr, uI_N, uI_add, uR_I, uR_R, uR_A, uR_Arr, uR_N, uR_add, uG_I, uG_R, uG_A, uG_Arr, uG_N, uG_add, uA_I, uA_R, uA_A, uA_Arr, uA_N, uA_add, c]
      have e245 : mI (taC A nt a b d g e_ f) 245 i = mI A 245 i := by simp [taC, taA, uI_I, uI_R, uI_A, uI_Arr, uI_N, uI_add, uR_I, uR_R, uR_A, uR_Arr, uR_N, uR_add, uG_I, uG_R, uG_A, uG_Arr, uG_N, uG_add, uA_I, uA_R, uA_A, uA_Arr, uA_N, uA_add, c]
      have e247 : mI (taC A nt a b d g e_ f) 247 i = mI A 247 i := by simp [taC, taA, uI_I, uI_R, uI_A, uI_Arr, uI_N, uI_add, uR_I, uR_R, uR_A, uR_Arr, uR_N, uR_add, uG_I, uG_R, uG_A, uG_Arr, uG_N, uG_add, uA_I, uA_R, uA_A, uA_Arr, uA_N, uA_add, c]
      have e248 : mI (taC A nt a b d g e_ f) 248 i = mI A 248 i := by simp [taC, taA, uI_I, uI_R, uI_A, uI_Arr, uI_N, uI_add, uR_I, uR_R, uR_A, uR_Arr, uR_N, uR_add, uG_I, uG_R, uG_A, uG_Arr, uG_N, uG_add, uA_I, uA_R, uA_A, uA_Arr, uA_N, uA_add, c]
      have e249 : mI (taC A nt a b d g e_ f) 249 i = mI A 249 i := by simp [taC, taA, uI_I, uI_R, uI_A, uI_Arr, uI_N, uI_add, uR_I, uR_R, uR_A, uR_Arr, uR_N, uR_add, uG_I, uG_R, uG_A, uG_Arr, uG_N, uG_add, uA_I, uA_R, uA_A, uA_Arr, uA_N, uA_add, c]
      have e250 : mI (taC A nt a b d g e_ f) 250 i = mI A 250 i := by simp [taC, taA, uI_I, uI_R, uI_A, uI_Arr, uI_N, uI_add, uR_I, uR_R, uR_A, uR_Arr, uR_N, uR_add, uG_I, uG_R, uG_A, uG_Arr, uG_N, uG_add, uA_I, uA_R, uA_A, uA_Arr, uA_N, uA_add, c]
      have e251 : mI (taC A nt a b d g e_ f) 251 i = mI A 251 i := by simp [taC, taA, uI_I, uI_R, uI_A, uI_Arr, uI_N, uI_add, uR_I, uR_R, uR_A, uR_Arr, uR_N, uR_add, uG_I, uG_R, uG_A, uG_Arr, uG_N, uG_add, uA_I, uA_R, uA_A, uA_Arr, uA_N, uA_add, c]
      have e252 : mI (taC A nt a b d g e_ f) 252 i = mI A 252 i := by simp [taC, taA, uI_I, uI_R, uI_A, uI_Arr, uI_N, uI_add, uR_I, uR_R, uR_A, uR_Arr, uR_N, uR_add, uG_I, uG_R, uG_A, uG_Arr, uG_N, uG_add, uA_I, uA_R, uA_A, uA_Arr, uA_N, uA_add, c]
      have e253 : mI (taC A nt a b d g e_ f) 253 i = mI A 253 i := by simp [taC, taA, uI_I, uI_R, uI_A, uI_Arr, uI_N, uI_add, uR_I, uR_R, uR_A, uR_Arr, uR_N, uR_add, uG_I, uG_R, uG_A, uG_Arr, uG_N, uG_add, uA_I, uA_R, uA_A, uA_Arr, uA_N, uA_add, c]
      have m1 : mR (addS (sI (sI (sI (sI (sI (sR (sI (sI (sNew S 9 nt q1) 151 nt (-1)) 144 nt (nI nt)) 145 nt (some (gG (sNew S 9 nt q1) 8 i8))) 146 nt b) 147 nt d) 148 nt g) 149 nt e_) 150 nt f) 3 q2 (capOf (nt + 1)) m2 (nI (nt + 1)) b2) 152 i = mR S 152 i := by simp [mR, sI, sR, sNew, addS, up2, c]
      unfold RCr RCf at y ⊢
      rw [e243, e244, e245, e247, e248, e249, e250, e251, e252, e253, m1, taC_A]
      exact y.imp id (fun z => ⟨z.1, Or.inl (Or.inl z.2.1), z.2.2⟩)), (h.wi.trans (c258 0).symm), (h.tu.trans (c261 0).symm), (by
    obtain ⟨g9, a9, b9, c9⟩ := h.qu
    refine ⟨g9, a9, by rw [taC_q]; exact b9, fun i9 hi9 => ?_⟩
    rw [taC_q] at hi9
    obtain ⟨i, c1, c2, c3, c4⟩ := c9 i9 hi9
    have c : ¬ i = nt := by omega
    have e253 : mI (taC A nt a b d g e_ f) 253 i = mI A 253 i := by simp [taC, taA, uI_I, uI_R, uI_A, uI_Arr, uI_N, uI_add, uR_I, uR_R, uR_A, uR_Arr, uR_N, uR_add, uG_I, uG_R, uG_A, uG_Arr, uG_N, uG_add, uA_I, uA_R, uA_A, uA_Arr, uA_N, uA_add, c]
    refine ⟨i, by omega, by rw [taC_A]; exact c2, c3.trans (congrArg some ?_), by rw [e253]; exact c4⟩
    simp [gG, sI, sR, sNew, addS, up2, c]), (fun i hi z => by
    by_cases c : i = nt
    · subst c; exact absurd (by simp [taC, taA, uI_I, uI_R, uI_A, uI_Arr, uI_N, uI_add, uR_I, uR_R, uR_A, uR_Arr, uR_N, uR_add, uG_I, uG_R, uG_A, uG_Arr, uG_N, uG_add, uA_I, uA_R, uA_A, uA_Arr, uA_N, uA_add]) z
    · have e246 : mI (taC A nt a b d g e_ f) 246 i = mI A 246 i := by simp [taC, taA, uI_I, uI_R, uI_A, uI_Arr, uI_N, uI_add, uR_I, uR_R, uR_A, uR_Arr, uR_N, uR_add, uG_I, uG_R, uG_A, uG_Arr, uG_N, uG_add, uA_I, uA_R, uA_A, uA_Arr, uA_N, uA_add, c]
      have e247 : mI (taC A nt a b d g e_ f) 247 i = mI A 247 i := by simp [taC, taA, uI_I, uI_R, uI_A, uI_Arr, uI_N, uI_add, uR_I, uR_R, uR_A, uR_Arr, uR_N, uR_add, uG_I, uG_R, uG_A, uG_Arr, uG_N, uG_add, uA_I, uA_R, uA_A, uA_Arr, uA_N, uA_add, c]
      have e253 : mI (taC A nt a b d g e_ f) 253 i = mI A 253 i := by simp [taC, taA, uI_I, uI_R, uI_A, uI_Arr, uI_N, uI_add, uR_I, uR_R, uR_A, uR_Arr, uR_N, uR_add, uG_I, uG_R, uG_A, uG_Arr, uG_N, uG_add, uA_I, uA_R, uA_A, uA_Arr, uA_N, uA_add, c]
      rw [e253] at z
      rw [e246, e247]; exact h.q1 i (by omega) z), (fun i hi z => by
    by_cases c : i = nt
    · subst c
      have e247 : mI (taC A i a b d g e_ f) 247 i = -1 := by simp [taC, taA, uI_I, uI_R, uI_A, uI_Arr, uI_N, uI_add, uR_I, uR_R, uR_A, uR_Arr, uR_N, uR_add, uG_I, uG_R, uG_A, uG_Arr, uG_N, uG_add, uA_I, uA_R, uA_A, uA_Arr, uA_N, uA_add]
      rw [e247] at z; exact absurd z (by decide)
    · have e244 : mI (taC A nt a b d g e_ f) 244 i = mI A 244 i := by simp [taC, taA, uI_I, uI_R, uI_A, uI_Arr, uI_N, uI_add, uR_I, uR_R, uR_A, uR_Arr, uR_N, uR_add, uG_I, uG_R, uG_A, uG_Arr, uG_N, uG_add, uA_I, uA_R, uA_A, uA_Arr, uA_N, uA_add, c]
      have e247 : mI (taC A nt a b d g e_ f) 247 i = mI A 247 i := by simp [taC, taA, uI_I, uI_R, uI_A, uI_Arr, uI_N, uI_add, uR_I, uR_R, uR_A, uR_Arr, uR_N, uR_add, uG_I, uG_R, uG_A, uG_Arr, uG_N, uG_add, uA_I, uA_R, uA_A, uA_Arr, uA_N, uA_add, c]
      rw [e247] at z
      rw [e244]; exact h.q2 i (by omega) z), (fun m hm => by
    have e1 : mI (taC A nt a b d g e_ f) 195 m = mI A 195 m := c195 m
    have p0 : rBy (taC A nt a b d g e_ f) m nt = false := by
      unfold rBy
      rw [show mI (taC A nt a b d g e_ f) 247 nt = -1 by simp [taC, taA, uI_I, uI_R, uI_A, uI_Arr, uI_N, uI_add, uR_I, uR_R, uR_A, uR_Arr, uR_N, uR_add, uG_I, uG_R, uG_A, uG_Arr, uG_N, uG_add, uA_I, uA_R, uA_A, uA_Arr, uA_N, uA_add]]; rfl
    rw [e1, h.q3 m hm]
    show _ = rCnt (rBy (taC A nt a b d g e_ f) m) nt + (if rBy (taC A nt a b d g e_ f) m nt = true then 1 else 0)
    rw [p0, if_neg (by decide), add0]
    exact rCnt_c nt (fun i hi => by
      have c : ¬ i = nt := by omega
      have e247 : mI (taC A nt a b d g e_ f) 247 i = mI A 247 i := by simp [taC, taA, uI_I, uI_R, uI_A, uI_Arr, uI_N, uI_add, uR_I, uR_R, uR_A, uR_Arr, uR_N, uR_add, uG_I, uG_R, uG_A, uG_Arr, uG_N, uG_add, uA_I, uA_R, uA_A, uA_Arr, uA_N, uA_add, c]
      have e250 : mI (taC A nt a b d g e_ f) 250 i = mI A 250 i := by simp [taC, taA, uI_I, uI_R, uI_A, uI_Arr, uI_N, uI_add, uR_I, uR_R, uR_A, uR_Arr, uR_N, uR_add, uG_I, uG_R, uG_A, uG_Arr, uG_N, uG_add, uA_I, uA_R, uA_A, uA_Arr, uA_N, uA_add, c]
      unfold rBy
      rw [e247, e250])), (by
    refine ⟨(c261 0).trans (h.q4.1.trans ?_), fun i hi z => ?_⟩
    · show _ = rCnt (fun k => decide (mI (taC A nt a b d g e_ f) 247 k = 1)) nt + (if decide (mI (taC A nt a b d g e_ f) 247 nt = 1) = true then 1 else 0)
      rw [show mI (taC A nt a b d g e_ f) 247 nt = -1 by simp [taC, taA, uI_I, uI_R, uI_A, uI_Arr, uI_N, uI_add, uR_I, uR_R, uR_A, uR_Arr, uR_N, uR_add, uG_I, uG_R, uG_A, uG_Arr, uG_N, uG_add, uA_I, uA_R, uA_A, uA_Arr, uA_N, uA_add], if_neg (by decide), add0]
      exact rCnt_c nt (fun i hi => by
        have c : ¬ i = nt := by omega
        have e247 : mI (taC A nt a b d g e_ f) 247 i = mI A 247 i := by simp [taC, taA, uI_I, uI_R, uI_A, uI_Arr, uI_N, uI_add, uR_I, uR_R, uR_A, uR_Arr, uR_N, uR_add, uG_I, uG_R, uG_A, uG_Arr, uG_N, uG_add, uA_I, uA_R, uA_A, uA_Arr, uA_N, uA_add, c]
        show decide (mI A 247 i = 1) = decide (mI (taC A nt a b d g e_ f) 247 i = 1)
        rw [e247])
    · by_cases c : i = nt
      · subst c
        have e247 : mI (taC A i a b d g e_ f) 247 i = -1 := by simp [taC, taA, uI_I, uI_R, uI_A, uI_Arr, uI_N, uI_add, uR_I, uR_R, uR_A, uR_Arr, uR_N, uR_add, uG_I, uG_R, uG_A, uG_Arr, uG_N, uG_add, uA_I, uA_R, uA_A, uA_Arr, uA_N, uA_add]
        rw [e247] at z; exact absurd z (by decide)
      · have e247 : mI (taC A nt a b d g e_ f) 247 i = mI A 247 i := by simp [taC, taA, uI_I, uI_R, uI_A, uI_Arr, uI_N, uI_add, uR_I, uR_R, uR_A, uR_Arr, uR_N, uR_add, uG_I, uG_R, uG_A, uG_Arr, uG_N, uG_add, uA_I, uA_R, uA_A, uA_Arr, uA_N, uA_add, c]
        have e252 : mI (taC A nt a b d g e_ f) 252 i = mI A 252 i := by simp [taC, taA, uI_I, uI_R, uI_A, uI_Arr, uI_N, uI_add, uR_I, uR_R, uR_A, uR_Arr, uR_N, uR_add, uG_I, uG_R, uG_A, uG_Arr, uG_N, uG_add, uA_I, uA_R, uA_A, uA_Arr, uA_N, uA_add, c]
        rw [e247] at z
        rw [e252, c261]; exact h.q4.2 i (by omega) z), (by
    rw [h.q6]
    show _ = cntB (fun k => decide (¬ mI (taC A nt a b d g e_ f) 253 k = 0)) nt + (if decide (¬ mI (taC A nt a b d g e_ f) 253 nt = 0) = true then 1 else 0)
    rw [show mI (taC A nt a b d g e_ f) 253 nt = 0 by simp [taC, taA, uI_I, uI_R, uI_A, uI_Arr, uI_N, uI_add, uR_I, uR_R, uR_A, uR_Arr, uR_N, uR_add, uG_I, uG_R, uG_A, uG_Arr, uG_N, uG_add, uA_I, uA_R, uA_A, uA_Arr, uA_N, uA_add], if_neg (by decide)]
    exact cntB_c nt (fun i hi => by
      have c : ¬ i = nt := by omega
      have e253 : mI (taC A nt a b d g e_ f) 253 i = mI A 253 i := by simp [taC, taA, uI_I, uI_R, uI_A, uI_Arr, uI_N, uI_add, uR_I, uR_R, uR_A, uR_Arr, uR_N, uR_add, uG_I, uG_R, uG_A, uG_Arr, uG_N, uG_add, uA_I, uA_R, uA_A, uA_Arr, uA_N, uA_add, c]
      show decide (¬ mI A 253 i = 0) = decide (¬ mI (taC A nt a b d g e_ f) 253 i = 0)
      rw [e253])), (fun i hi z r hr => by
    rw [taC_A]
    by_cases c : i = nt
    · rw [c]; exact h.rz r hr nt (Nat.le_refl _)
    · have e247 : mI (taC A nt a b d g e_ f) 247 i = mI A 247 i := by simp [taC, taA, uI_I, uI_R, uI_A, uI_Arr, uI_N, uI_add, uR_I, uR_R, uR_A, uR_Arr, uR_N, uR_add, uG_I, uG_R, uG_A, uG_Arr, uG_N, uG_add, uA_I, uA_R, uA_A, uA_Arr, uA_N, uA_add, c]
      rw [e247] at z; exact h.q7 i (by omega) z r hr), (fun i hi z => by
    by_cases c : i = nt
    · subst c; exact absurd (by simp [taC, taA, uI_I, uI_R, uI_A, uI_Arr, uI_N, uI_add, uR_I, uR_R, uR_A, uR_Arr, uR_N, uR_add, uG_I, uG_R, uG_A, uG_Arr, uG_N, uG_add, uA_I, uA_R, uA_A, uA_Arr, uA_N, uA_add]) z
    · have e245 : mI (taC A nt a b d g e_ f) 245 i = mI A 245 i := by simp [taC, taA, uI_I, uI_R, uI_A, uI_Arr, uI_N, uI_add, uR_I, uR_R, uR_A, uR_Arr, uR_N, uR_add, uG_I, uG_R, uG_A, uG_Arr, uG_N, uG_add, uA_I, uA_R, uA_A, uA_Arr, uA_N, uA_add, c]
      have e246 : mI (taC A nt a b d g e_ f) 246 i = mI A 246 i := by simp [taC, taA, uI_I, uI_R, uI_A, uI_Arr, uI_N, uI_add, uR_I, uR_R, uR_A, uR_Arr, uR_N, uR_add, uG_I, uG_R, uG_A, uG_Arr, uG_N, uG_add, uA_I, uA_R, uA_A, uA_Arr, uA_N, uA_add, c]
      have e247 : mI (taC A nt a b d g e_ f) 247 i = mI A 247 i := by simp [taC, taA, uI_I, uI_R, uI_A, uI_Arr, uI_N, uI_add, uR_I, uR_R, uR_A, uR_Arr, uR_N, uR_add, uG_I, uG_R, uG_A, uG_Arr, uG_N, uG_add, uA_I, uA_R, uA_A, uA_Arr, uA_N, uA_add, c]
      have e248 : mI (taC A nt a b d g e_ f) 248 i = mI A 248 i := by simp [taC, taA, uI_I, uI_R, uI_A, uI_Arr, uI_N, uI_add, uR_I, uR_R, uR_A, uR_Arr, uR_N, uR_add, uG_I, uG_R, uG_A, uG_Arr, uG_N, uG_add, uA_I, uA_R, uA_A, uA_Arr, uA_N, uA_add, c]
      have e253 : mI (taC A nt a b d g e_ f) 253 i = mI A 253 i := by simp [taC, taA, uI_I, uI_R, uI_A, uI_Arr, uI_N, uI_add, uR_I, uR_R, uR_A, uR_Arr, uR_N, uR_add, uG_I, uG_R, uG_A, uG_Arr, uG_N, uG_add, uA_I, uA_R, uA_A, uA_Arr, uA_N, uA_add, c]
      rw [e253] at z
      rw [e245, e246, e247, e248]; exact h.q8 i (by omega) z), (by obtain ⟨w, hw, ew⟩ := h.q9; exact ⟨w, hw, (c258 0).trans ew⟩), (fun r hr j hj => by rw [taC_A]; exact h.rz r hr j (by omega))⟩
theorem RK.drf {S A : HS} {ns nj nm nt nr nc : Nat} {j : Nat} {b : Int32} (h : RK S A ns nj nm nt nr nc) : RK (sI S 129 j b) (sI A 229 j b) ns nj nm nt nr nc := by
  exact ⟨(h.rc.dr), h.ok, h.mo, h.re, h.pr, h.rp, h.wi, h.tu, h.qu, h.q1, h.q2, h.q3, h.q4, h.q6, h.q7, h.q8, h.q9, h.rz⟩
theorem RK.jam {S A : HS} {ns nj nm nt nr nc : Nat} {j : Nat} {b : Int32} (h : RK S A ns nj nm nt nr nc) : RK (sI S 17 j b) (jaA A j b) ns nj nm nt nr nc := by
  exact ⟨(h.rc.ja), h.ok, h.mo, h.re, h.pr, h.rp, h.wi, h.tu, h.qu, h.q1, h.q2, h.q3, h.q4, h.q6, h.q7, h.q8, h.q9, h.rz⟩
theorem RK.prt {S A : HS} {ns nj nm nt nr nc : Nat} {a : Int32} (h : RK S A ns nj nm nt nr nc) : RK (sI S 70 0 a) (sI A 259 0 a) ns nj nm nt nr nc := by
  exact ⟨(h.rc.pa), h.ok, h.mo, h.re, h.pr, h.rp, h.wi, h.tu, h.qu, h.q1, h.q2, h.q3, h.q4, h.q6, h.q7, h.q8, h.q9, h.rz⟩
theorem RK.shf {S A : HS} {ns nj nm nt nr nc : Nat} {x k : Nat} {d e : Int32} (hx : x < 24) (hk : k < 3) (hu : e = -1 ∨ cElse S (nI x) (nI k) e 3 = false) (hde : (d = -1 ∧ e = -1) ∨ ∃ s m, s < ns ∧ m < nm ∧ d = nI s ∧ e = nI m) (h : RK S A ns nj nm nt nr nc) : RK (wrS S (nI x) (nI k) d e) (shA A x k d e) ns nj nm nt nr nc := by
  exact ⟨(h.rc.shift hx hk hu), (⟨fun y l hy hl => by
    have u : ∀ (f : Nat → Int32) (z : Int32) a q, upd f a z q = if q = a then z else f q := fun f z a q => rfl
    have e36 : mA (shA A x k d e) 36 y l = if y = x ∧ l = k then d else mA A 36 y l := by
      by_cases c : y = x
      · subst c; simp [shA, uI_I, uI_R, uI_A, uI_Arr, uI_N, uI_add, uR_I, uR_R, uR_A, uR_Arr, uR_N, uR_add, uG_I, uG_R, uG_A, uG_Arr, uG_N, uG_add, uA_I, uA_R, uA_A, uA_Arr, uA_N, uA_add, u]
      · simp [shA, uI_I, uI_R, uI_A, uI_Arr, uI_N, uI_add, uR_I, uR_R, uR_A, uR_Arr, uR_N, uR_add, uG_I, uG_R, uG_A, uG_Arr, uG_N, uG_add, uA_I, uA_R, uA_A, uA_Arr, uA_N, uA_add, c]
    have e37 : mA (shA A x k d e) 37 y l = if y = x ∧ l = k then e else mA A 37 y l := by
      by_cases c : y = x
      · subst c; simp [shA, uI_I, uI_R, uI_A, uI_Arr, uI_N, uI_add, uR_I, uR_R, uR_A, uR_Arr, uR_N, uR_add, uG_I, uG_R, uG_A, uG_Arr, uG_N, uG_add, uA_I, uA_R, uA_A, uA_Arr, uA_N, uA_add, u]
      · simp [shA, uI_I, uI_R, uI_A, uI_Arr, uI_N, uI_add, uR_I, uR_R, uR_A, uR_Arr, uR_N, uR_add, uG_I, uG_R, uG_A, uG_Arr, uG_N, uG_add, uA_I, uA_R, uA_A, uA_Arr, uA_N, uA_add, c]
    rw [e36, e37]
    by_cases c : y = x ∧ l = k
    · rw [if_pos c, if_pos c]; exact hde
    · rw [if_neg c, if_neg c]; exact h.ok.1 y l hy hl, h.ok.2⟩), h.mo, h.re, h.pr, h.rp, h.wi, h.tu, h.qu, h.q1, h.q2, h.q3, h.q4, h.q6, h.q7, h.q8, h.q9, h.rz⟩
