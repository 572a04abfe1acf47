theorem sI_s {S : HS} {f i : Nat} {x : Int32} : mI (sI S f i x) f i = x := up2_s _ _ _ _
theorem sI_o {S : HS} {f i j : Nat} {x : Int32} (e : ¬ j = i) : mI (sI S f i x) f j = mI S f j := up2_n (fun y => e y.2)
theorem sA_s {S : HS} {t i : Nat} {v : Nat → Int32} : mA (sA S t i v) t i = v := up2_s _ _ _ _
theorem sA_o {S : HS} {t i j : Nat} {v : Nat → Int32} (e : ¬ j = i) : mA (sA S t i v) t j = mA S t j := up2_n (fun y => e y.2)
theorem two_s {S A : HS} {f a k m : Nat} {v : Int32} (h : mI S f m = mI A a m) : mI (sI S f k v) f m = mI (sI A a k v) a m := by
  by_cases e : m = k
  · subst e; rw [sI_s, sI_s]
  · rw [sI_o e, sI_o e]; exact h
theorem rBy_247 {A : HS} {j m : Nat} {v : Int32} (h1 : ¬ v = -1) (h2 : ¬ mI A 247 j = -1) : rBy (sI A 247 j v) m = rBy A m := by
  funext k
  unfold rBy
  by_cases e : k = j
  · subst e; rw [sI_s, decide_eq_true h1, decide_eq_true h2]; rfl
  · rw [sI_o e]; rfl
/-! the readers' rows alone -/
theorem goT_I {A : HS} {q : Nat} : ∀ n, mI (goT A q n) = mI A
  | 0 => rfl
  | n + 1 => by
    show mI (if mA A 35 n q = 1 then sA (goT A q n) 35 n (upd (mA A 35 n) q 2) else goT A q n) = mI A
    split
    · exact goT_I n
    · exact goT_I n
theorem goT_N {A : HS} {q : Nat} : ∀ n, mN (goT A q n) = mN A
  | 0 => rfl
  | n + 1 => by
    show mN (if mA A 35 n q = 1 then sA (goT A q n) 35 n (upd (mA A 35 n) q 2) else goT A q n) = mN A
    split
    · exact goT_N n
    · exact goT_N n
theorem goT_A {A : HS} {q t : Nat} (ht : ¬ t = 35) : ∀ n, mA (goT A q n) t = mA A t
  | 0 => rfl
  | n + 1 => by
    show mA (if mA A 35 n q = 1 then sA (goT A q n) 35 n (upd (mA A 35 n) q 2) else goT A q n) t = mA A t
    split
    · refine Eq.trans ?_ (goT_A (q := q) ht n)
      funext i
      exact up2_n (fun y => ht y.1)
    · exact goT_A ht n
theorem goT_35 {A : HS} {q : Nat} : ∀ n r, mA (goT A q n) 35 r = if r < n ∧ mA A 35 r q = 1 then upd (mA A 35 r) q 2 else mA A 35 r
  | 0, r => (if_neg (fun z => Nat.not_lt_zero _ z.1)).symm
  | n + 1, r => by
    show mA (if mA A 35 n q = 1 then sA (goT A q n) 35 n (upd (mA A 35 n) q 2) else goT A q n) 35 r = _
    by_cases c : mA A 35 n q = 1
    · rw [if_pos c]
      by_cases e : r = n
      · subst e; rw [sA_s, if_pos ⟨Nat.lt_succ_self _, c⟩]
      · rw [sA_o e, goT_35 n r]
        by_cases d : r < n ∧ mA A 35 r q = 1
        · rw [if_pos d, if_pos ⟨Nat.lt_succ_of_lt d.1, d.2⟩]
        · rw [if_neg d, if_neg (fun z => d ⟨by omega, z.2⟩)]
    · rw [if_neg c, goT_35 n r]
      by_cases d : r < n ∧ mA A 35 r q = 1
      · rw [if_pos d, if_pos ⟨Nat.lt_succ_of_lt d.1, d.2⟩]
      · rw [if_neg d, if_neg (fun z => d ⟨by
          by_cases e : r = n
          · exfalso; rw [e] at z; exact c z.2
          · omega, z.2⟩)]
theorem upd_s {f : Nat → Int32} {k : Nat} {v : Int32} : upd f k v k = v := if_pos rfl
theorem upd_o {f : Nat → Int32} {k j : Nat} {v : Int32} (e : ¬ j = k) : upd f k v j = f j := if_neg e
theorem goT_q {A : HS} {q n r : Nat} (hr : r < n) : mA (goT A q n) 35 r q = if mA A 35 r q = 1 then 2 else mA A 35 r q := by
  rw [goT_35]
  by_cases c : mA A 35 r q = 1
  · rw [if_pos ⟨hr, c⟩, if_pos c, upd_s]
  · rw [if_neg (fun z => c z.2), if_neg c]
theorem goT_o {A : HS} {q n r j : Nat} (e : ¬ j = q) : mA (goT A q n) 35 r j = mA A 35 r j := by
  rw [goT_35]
  split
  · exact upd_o e
  · rfl
theorem rCnt_up {p p' : Nat → Bool} {j : Nat} (h1 : p j = false) (h2 : p' j = true) : ∀ n, j < n → (∀ k, k < n → ¬ k = j → p' k = p k) → rCnt p' n = rCnt p n + 1
  | 0, hj, _ => absurd hj (Nat.not_lt_zero j)
  | n + 1, hj, h => by
    show rCnt p' n + (if p' n = true then 1 else 0) = rCnt p n + (if p n = true then 1 else 0) + 1
    by_cases e : n = j
    · subst e
      rw [h1, h2, rCnt_c n (fun k hk => h k (Nat.lt_succ_of_lt hk) (Nat.ne_of_lt hk)), if_pos rfl, if_neg (by decide), add0]
    · rw [rCnt_up h1 h2 n (by omega) (fun k hk => h k (Nat.lt_succ_of_lt hk)), h n (Nat.lt_succ_self n) e, Int32.add_assoc, Int32.add_assoc, Int32.add_comm 1]
theorem rCnt_b {p : Nat → Bool} : ∀ n, ∃ m, m ≤ n ∧ rCnt p n = nI m
  | 0 => ⟨0, Nat.le_refl _, rfl⟩
  | n + 1 => by
    obtain ⟨m, hm, e⟩ := rCnt_b (p := p) n
    show ∃ q, q ≤ n + 1 ∧ rCnt p n + (if p n = true then 1 else 0) = nI q
    by_cases c : p n = true
    · exact ⟨m + 1, by omega, by rw [if_pos c, e]; exact nI_add m 1⟩
    · exact ⟨m, by omega, by rw [if_neg c, add0]; exact e⟩
theorem q9_sub {A : HS} {y : Int32} (h : AQ9 A) (h0 : ¬ y < 0) (h1 : ¬ mI A 258 0 < y) : ∃ w, w ≤ 600 ∧ mI A 258 0 - y = nI w := by
  obtain ⟨w, hw, ew⟩ := h
  obtain ⟨q, hq, rfl⟩ := nI_of h0
  rw [ew] at h1
  have hqw : q ≤ w := Nat.le_of_not_lt (fun z => h1 ((nI_ltI (by omega) hq).mpr z))
  exact ⟨w - q, by omega, by rw [ew]; exact pk_sub hqw⟩
theorem nI_lt1 {x : Int32} {T : Nat} (hT : T ≤ 40) (h : x < nI T ∨ x = nI T) : x < nI T + 1 := by
  have e : nI T < nI T + 1 := by rw [show nI T + 1 = nI (T + 1) from nI_add T 1]; exact (nI_ltI (by omega) (by omega)).mpr (Nat.lt_succ_self T)
  rcases h with h | h
  · exact Int32.lt_trans h e
  · rw [h]; exact e
theorem sIn_or : ∀ b, b < 16 → ∀ k, k < 4 → ∀ r, r < 4 → sIn (nI b ||| ((1 : Int32) <<< (nI k &&& 31))) (nI r) = (decide (r = k) || sIn (nI b) (nI r)) := by decide +kernel
theorem or_16 : ∀ b, b < 16 → ∀ k, k < 4 → nI b ||| ((1 : Int32) <<< (nI k &&& 31)) = nI (b ||| 2 ^ k) ∧ (b ||| 2 ^ k) < 16 := by decide +kernel

theorem RK.ti50 {S A : HS} {ns nj nm nt nr nc : Nat} {k : Nat} {v : Int32} (h : RK S A ns nj nm nt nr nc) : RK (sI S 50 k v) (sI A 193 k v) ns nj nm nt nr nc := by
  exact ⟨h.rc, h.ok, (fun m hm => ⟨(h.mo m hm).1, two_s (h.mo m hm).2.1, (h.mo m hm).2.2⟩), h.re, h.pr, h.rp, h.wi, h.tu, h.qu, h.q1, h.q2, h.q3, h.q4, h.q6, h.q7, h.q8, h.q9, h.rz⟩
theorem RK.ti51 {S A : HS} {ns nj nm nt nr nc : Nat} {k : Nat} {v : Int32} (h : RK S A ns nj nm nt nr nc) : RK (sI S 51 k v) (sI A 194 k v) ns nj nm nt nr nc := by
  exact ⟨h.rc, h.ok, (fun m hm => ⟨(h.mo m hm).1, (h.mo m hm).2.1, two_s (h.mo m hm).2.2⟩), h.re, h.pr, h.rp, h.wi, h.tu, h.qu, h.q1, h.q2, h.q3, h.q4, h.q6, h.q7, h.q8, h.q9, h.rz⟩
theorem RK.st {S A : HS} {ns nj nm nt nr nc : Nat} {j : Nat} (hj : j < nt) (hz : mI A 247 j = 0) (h : RK S A ns nj nm nt nr nc) : RK (sI S 104 j 2) (sI A 247 j 2) ns nj nm nt nr nc := by
  exact ⟨h.rc, (⟨h.ok.1, h.ok.2.1, h.ok.2.2.1, fun i hi => by
    by_cases e : i = j
    · subst e
      rcases h.ok.2.2.2 i hi with z | z
      · rw [hz] at z; exact absurd z (by decide)
      · exact Or.inr z
    · have e2 : mI (sI A 247 j 2) 247 i = mI A 247 i := sI_o e
      rw [e2]; exact h.ok.2.2.2 i hi⟩), h.mo, h.re, h.pr, (fun i hi => by
    by_cases e : i = j
    · subst e
      rcases h.rp i hi with ⟨-, u, -⟩ | ⟨a, b, c, d⟩
      · rw [hz] at u; exact absurd u (by decide)
      · obtain ⟨d0, d1, d2, d3, d4, d5, d6, d7, d8, d9, d10, d11, d12, d13, d14⟩ := d
        exact Or.inr ⟨a, b, by rw [sI_s]; decide, d0, d1, d2, d3, d4, d5, d6, d7, by rw [sI_s, sI_s], d9, fun z => absurd (z.symm.trans sI_s) (by decide), d11, d12, d13, d14⟩
    · have e1 : mI (sI S 104 j 2) 104 i = mI S 104 i := sI_o e
      have e2 : mI (sI A 247 j 2) 247 i = mI A 247 i := sI_o e
      unfold RCr RCf
      rw [e1, e2]; exact h.rp i hi), h.wi, h.tu, h.qu, (fun i hi z => by
    by_cases e : i = j
    · subst e
      have y := (h.q1 i hi z).1
      rw [hz] at y; exact absurd y (by decide)
    · exact ⟨by rw [sI_o e]; exact (h.q1 i hi z).1, (h.q1 i hi z).2⟩), (fun i hi z => by
    by_cases e : i = j
    · subst e; rw [sI_s] at z; exact absurd z (by decide)
    · rw [sI_o e] at z; exact h.q2 i hi z), (fun m hm => by rw [rBy_247 (by decide) (by rw [hz]; decide)]; exact h.q3 m hm), (⟨h.q4.1.trans (rCnt_c nt (fun k hk => by
    show decide (mI A 247 k = 1) = decide (mI (sI A 247 j 2) 247 k = 1)
    by_cases e : k = j
    · subst e; rw [sI_s, hz]; rfl
    · rw [sI_o e])), fun i hi z => by
    by_cases e : i = j
    · subst e; rw [sI_s] at z; exact absurd z (by decide)
    · rw [sI_o e] at z; exact h.q4.2 i hi z⟩), h.q6, (fun i hi z r hr => by
    by_cases e : i = j
    · exact h.q7 i hi (by rw [e, hz]; decide) r hr
    · rw [sI_o e] at z; exact h.q7 i hi z r hr), (fun i hi z => by
    by_cases e : i = j
    · subst e
      have y := (h.q1 i hi z).1
      rw [hz] at y; exact absurd y (by decide)
    · rw [sI_o e]; exact h.q8 i hi z), h.q9, h.rz⟩
theorem RK.co {S A : HS} {ns nj nm nt nr nc : Nat} {q : Nat} {v : Int32} (hq : q < nt) (hz : ¬ mI A 253 q = 0) (hv9 : ∃ w, w ≤ 600 ∧ v = nI w) (h : RK S A ns nj nm nt nr nc) : RK (sI (sI S 107 q 2) 69 0 v) (goT (sI (sI A 258 0 v) 253 q 2) q nr) ns nj nm nt nr nc := by
  exact ⟨(RC.pic (show RC (sI (sI S 107 q 2) 69 0 v) (sI (sI A 258 0 v) 253 q 2) ns nj nt from h.rc) (km_goT nr)), (AOK.pic (show AOK (sI (sI A 258 0 v) 253 q 2) ns nm nt from h.ok) (km_goT nr) (fun j hj => by rw [goT_I]; exact h.ok.2.2.2 j hj)), (fun m hm => by rw [goT_I, goT_A (t := 34) (by decide)]; exact h.mo m hm), (RCd.pic (show RCd (sI (sI S 107 q 2) 69 0 v) (sI (sI A 258 0 v) 253 q 2) nr from h.re) (km_goT nr)), (RCp.pic (show RCp (sI (sI S 107 q 2) 69 0 v) (sI (sI A 258 0 v) 253 q 2) nt from h.pr) (km_goT nr)), (fun i hi => by
    by_cases e : i = q
    · subst e
      rcases h.rp i hi with ⟨-, -, u, -⟩ | ⟨a, b, c, d⟩
      · exact absurd u hz
      · obtain ⟨d0, d1, d2, d3, d4, d5, d6, d7, d8, d9, d10, d11, d12, d13, d14⟩ := d
        refine Or.inr ⟨a, b, by rw [goT_I]; exact c, ?_⟩
        unfold RCf
        rw [goT_I]
        refine ⟨d0, d1, d2, d3, d4, d5, d6, d7, d8, d9, d10, by rw [sI_s]; exact sI_s, fun r hr => ?_, d13, d14⟩
        rw [goT_q hr, sI_s, if_pos rfl]
        have y : mA (sI (sI A 258 0 v) 253 i 2) 35 r i = if sIn (mI (sI (sI S 107 i 2) 69 0 v) 108 i) (nI r) = true then (if mI A 253 i = 2 then 2 else 1) else 0 := d12 r hr
        rw [y]
        cases sIn (mI (sI (sI S 107 i 2) 69 0 v) 108 i) (nI r) with
        | false => rfl
        | true =>
          by_cases f : mI A 253 i = 2
          · rw [if_pos f]; rfl
          · rw [if_neg f]; rfl
    · have e1 : mI (sI S 107 q 2) 107 i = mI S 107 i := sI_o e
      have e1x : mI (sI (sI S 107 q 2) 69 0 v) 107 i = mI S 107 i := e1
      have e2 : mI (sI (sI A 258 0 v) 253 q 2) 253 i = mI A 253 i := sI_o e
      have e3 : ∀ r, mA (goT (sI (sI A 258 0 v) 253 q 2) q nr) 35 r i = mA A 35 r i := fun r => goT_o e
      unfold RCr RCf
      rw [goT_I, e1x, e2]
      simp only [e3]
      exact h.rp i hi), (by rw [goT_I]; rfl), (by rw [goT_I]; exact h.tu), (by
    obtain ⟨g, a, b, c⟩ := h.qu
    have n9 : qN (goT (sI (sI A 258 0 v) 253 q 2) q nr) = qN A := by unfold qN; rw [goT_N]; rfl
    refine ⟨g, a, by rw [n9]; exact b, fun i hi => ?_⟩
    rw [n9] at hi
    obtain ⟨j, c1, c2, c3, c4⟩ := c i hi
    refine ⟨j, c1, by rw [goT_A (t := 60) (by decide)]; exact c2, c3, ?_⟩
    rw [goT_I]
    by_cases e : j = q
    · subst e; rw [sI_s]; decide
    · rw [sI_o e]; exact c4), (fun i hi z => by
    rw [goT_I] at z ⊢
    by_cases e : i = q
    · subst e; exact h.q1 i hi hz
    · rw [sI_o e] at z; exact h.q1 i hi z), (fun i hi z => by
    rw [goT_I] at z ⊢
    exact h.q2 i hi z), (fun m hm => by
    have e : rBy (goT (sI (sI A 258 0 v) 253 q 2) q nr) m = rBy A m := by unfold rBy; rw [goT_I]; rfl
    rw [e, goT_I]; exact h.q3 m hm), (by unfold AQ4; rw [goT_I]; exact h.q4), (h.q6.trans (cntB_c nt (fun k hk => by
    show decide (¬ mI A 253 k = 0) = decide (¬ mI (goT (sI (sI A 258 0 v) 253 q 2) q nr) 253 k = 0)
    rw [goT_I]
    by_cases e : k = q
    · subst e; rw [sI_s, decide_eq_true hz]; rfl
    · rw [sI_o e]; rfl))), (fun i hi z r hr => by
    rw [goT_I] at z
    by_cases e : i = q
    · exact absurd (show mI A 247 i = 1 by rw [e]; exact (h.q1 q hq hz).1) z
    · rw [goT_o e]; exact h.q7 i hi z r hr), (fun i hi z => by
    rw [goT_I] at z ⊢
    by_cases e : i = q
    · rw [e]; exact h.q8 q hq hz
    · rw [sI_o e] at z; exact h.q8 i hi z), (by unfold AQ9; rw [goT_I]; exact hv9), (fun r hr j hj => by rw [goT_o (by omega)]; exact h.rz r hr j hj)⟩
theorem RK.co_end {S A : HS} {ns nj nm nt nr nc : Nat} {g r : Nat} (hg : mI S 67 0 = nI g) (hgn : g ≤ nc) (hn : nc ≤ 40) (hr : r ≤ qN A) (h : RK S A ns nj nm nt nr nc) : RK (sI S 67 0 (nI (g + r))) (sQ A (qN A - r) (fun i => mA A 60 0 (i + r))) ns nj nm nt nr nc := by
  exact ⟨h.rc, h.ok, h.mo, h.re, h.pr, h.rp, h.wi, h.tu, (by
    obtain ⟨g2, a, b, c⟩ := h.qu
    have e : g2 = g := (nI_eq (by omega) (by omega)).mp (a.symm.trans hg)
    subst e
    refine ⟨g2 + r, rfl, ?_, fun i hi => ?_⟩
    · show g2 + r + (qN A - r) = nc
      omega
    · have hi2 : i < qN A - r := hi
      obtain ⟨j, c1, c2, c3, c4⟩ := c (i + r) (by omega)
      exact ⟨j, c1, c2, by rw [show g2 + r + i = g2 + (i + r) by omega]; exact c3, c4⟩), h.q1, h.q2, h.q3, h.q4, h.q6, h.q7, h.q8, h.q9, h.rz⟩
theorem RK.se0 {S A : HS} {ns nj nm nt nr nc : Nat} {j g : Nat} {a b c : Int32} (hj : j < nt) (hz : mI A 247 j = 0) (ea : a = mI A 258 0 - rLen (mI A 244 j) (mI A 243 j) (mI A 248 j)) (eb : b = mI A 261 0) (ec : c = mI A 261 0 + 1) (hnt : nt ≤ 40) (h99 : ∃ w, w ≤ 600 ∧ a = nI w) (h : RK S A ns nj nm nt nr nc) : RK (sI (sI (sI (sI (sI S 69 0 a) 104 j 1) 105 j (nI g)) 106 j b) 68 0 c) (seT0 A g j) ns nj nm nt nr nc := by
  exact ⟨h.rc, (⟨h.ok.1, h.ok.2.1, h.ok.2.2.1, fun i hi => by
    by_cases e : i = j
    · subst e
      rcases h.ok.2.2.2 i hi with z | z
      · rw [hz] at z; exact absurd z (by decide)
      · exact Or.inr z
    · have e2 : mI (seT0 A g j) 247 i = mI A 247 i := sI_o (S := A) (f := 247) e
      rw [e2]; exact h.ok.2.2.2 i hi⟩), h.mo, h.re, h.pr, (fun i hi => by
    by_cases e : i = j
    · subst e
      rcases h.rp i hi with ⟨-, u, -⟩ | ⟨p0, p1, p2, d⟩
      · rw [hz] at u; exact absurd u (by decide)
      · obtain ⟨d0, d1, d2, d3, d4, d5, d6, d7, d8, d9, d10, d11, d12, d13, d14⟩ := d
        have f1 : mI (sI (sI (sI (sI (sI S 69 0 a) 104 i 1) 105 i (nI g)) 106 i b) 68 0 c) 104 i = 1 := sI_s (S := sI S 69 0 a)
        have f2 : mI (seT0 A g i) 247 i = 1 := sI_s (S := A)
        have f3 : mI (sI (sI (sI (sI (sI S 69 0 a) 104 i 1) 105 i (nI g)) 106 i b) 68 0 c) 105 i = nI g := sI_s (S := sI (sI S 69 0 a) 104 i 1)
        have f4 : mI (seT0 A g i) 251 i = nI g := sI_s (S := sI A 247 i 1)
        have f5 : mI (sI (sI (sI (sI (sI S 69 0 a) 104 i 1) 105 i (nI g)) 106 i b) 68 0 c) 106 i = b := sI_s (S := sI (sI (sI S 69 0 a) 104 i 1) 105 i (nI g))
        have f6 : mI (seT0 A g i) 252 i = mI A 261 0 := sI_s (S := sI (sI A 247 i 1) 251 i (nI g))
        exact Or.inr ⟨p0, p1, by rw [f2]; decide, d0, d1, d2, d3, d4, d5, d6, d7, by rw [f1, f2], by rw [f3, f4], fun _ => by rw [f5, f6, eb], d11, d12, d13, d14⟩
    · have e1 : mI (sI (sI (sI (sI (sI S 69 0 a) 104 j 1) 105 j (nI g)) 106 j b) 68 0 c) 104 i = mI S 104 i := sI_o (S := sI S 69 0 a) e
      have e2 : mI (seT0 A g j) 247 i = mI A 247 i := sI_o (S := A) e
      have e3 : mI (sI (sI (sI (sI (sI S 69 0 a) 104 j 1) 105 j (nI g)) 106 j b) 68 0 c) 105 i = mI S 105 i := sI_o (S := sI (sI S 69 0 a) 104 j 1) e
      have e4 : mI (seT0 A g j) 251 i = mI A 251 i := sI_o (S := sI A 247 j 1) e
      have e5 : mI (sI (sI (sI (sI (sI S 69 0 a) 104 j 1) 105 j (nI g)) 106 j b) 68 0 c) 106 i = mI S 106 i := sI_o (S := sI (sI (sI S 69 0 a) 104 j 1) 105 j (nI g)) e
      have e6 : mI (seT0 A g j) 252 i = mI A 252 i := sI_o (S := sI (sI A 247 j 1) 251 j (nI g)) e
      unfold RCr RCf
      rw [e1, e2, e3, e4, e5, e6]; exact h.rp i hi), (ea), (ec), h.qu, (fun i hi z => by
    by_cases e : i = j
    · subst e
      have y := (h.q1 i hi z).1
      rw [hz] at y; exact absurd y (by decide)
    · have e2 : mI (seT0 A g j) 247 i = mI A 247 i := sI_o (S := A) e
      exact ⟨by rw [e2]; exact (h.q1 i hi z).1, (h.q1 i hi z).2⟩), (fun i hi z => by
    by_cases e : i = j
    · subst e
      have f2 : mI (seT0 A g i) 247 i = 1 := sI_s (S := A)
      rw [f2] at z; exact absurd z (by decide)
    · have e2 : mI (seT0 A g j) 247 i = mI A 247 i := sI_o (S := A) e
      rw [e2] at z; exact h.q2 i hi z), (fun m hm => by
    have e : rBy (seT0 A g j) m = rBy A m := rBy_247 (A := A) (j := j) (v := 1) (by decide) (by rw [hz]; decide)
    rw [e]; exact h.q3 m hm), (by
    have p0 : decide (mI A 247 j = 1) = false := by rw [hz]; decide
    have f2 : mI (seT0 A g j) 247 j = 1 := sI_s (S := A)
    have f7 : mI (seT0 A g j) 261 0 = mI A 261 0 + 1 := sI_s (S := sI (sI (sI A 247 j 1) 251 j (nI g)) 252 j (mI A 261 0)) (f := 261) (i := 0) (x := mI A 261 0 + 1)
    have f6 : mI (seT0 A g j) 252 j = mI A 261 0 := sI_s (S := sI (sI A 247 j 1) 251 j (nI g)) (f := 252) (i := j) (x := mI A 261 0)
    have f0 : ∀ k, ¬ k = j → mI (seT0 A g j) 247 k = mI A 247 k := fun k e => sI_o (S := A) e
    have u9 := rCnt_up (p := fun k => decide (mI A 247 k = 1)) (p' := fun k => decide (mI (seT0 A g j) 247 k = 1)) (j := j) p0 (by show decide (mI (seT0 A g j) 247 j = 1) = true; rw [f2]; rfl) nt hj (fun k hk e => by show decide (mI (seT0 A g j) 247 k = 1) = decide (mI A 247 k = 1); rw [f0 k e])
    obtain ⟨T, hT, eT⟩ := rCnt_b (p := fun k => decide (mI A 247 k = 1)) nt
    have e261 : mI A 261 0 = nI T := h.q4.1.trans eT
    refine ⟨by rw [f7, u9, ← h.q4.1], fun i hi z => ?_⟩
    rw [f7, e261]
    by_cases e : i = j
    · subst e; rw [f6, e261]; exact nI_lt1 (by omega) (Or.inr rfl)
    · rw [f0 i e] at z
      have f8 : mI (seT0 A g j) 252 i = mI A 252 i := sI_o (S := sI (sI A 247 j 1) 251 j (nI g)) e
      rw [f8]; exact nI_lt1 (by omega) (Or.inl (by rw [← e261]; exact h.q4.2 i hi z))), h.q6, (fun i hi z r hr => by
    by_cases e : i = j
    · subst e
      rw [show mI (seT0 A g i) 247 i = 1 from sI_s (S := A)] at z; exact absurd rfl z
    · rw [show mI (seT0 A g j) 247 i = mI A 247 i from sI_o (S := A) e] at z; exact h.q7 i hi z r hr), (fun i hi z => by
    by_cases e : i = j
    · subst e
      have y := (h.q1 i hi z).1
      rw [hz] at y; exact absurd y (by decide)
    · rw [show mI (seT0 A g j) 247 i = mI A 247 i from sI_o (S := A) e]; exact h.q8 i hi z), (by obtain ⟨w, hw, ew⟩ := h99; exact ⟨w, hw, ea.symm.trans ew⟩), h.rz⟩
theorem RK.go {S A : HS} {ns nj nm nt nr nc : Nat} {j k : Nat} (hj : j < nt) (hk : k < nr) (hb : nr ≤ 4) (hs1 : mI A 247 j = 1) (hc : ¬ mI A 253 j = 2) (h : RK S A ns nj nm nt nr nc) : RK (sI S 108 j (mI S 108 j ||| ((1 : Int32) <<< (nI k &&& 31)))) (sA A 35 k (upd (mA A 35 k) j 1)) ns nj nm nt nr nc := by
  exact ⟨h.rc, h.ok, h.mo, h.re, h.pr, (fun i hi => by
    by_cases e : i = j
    · subst e
      rcases h.rp i hi with ⟨-, u, -⟩ | ⟨p0, p1, p2, d⟩
      · rw [hs1] at u; exact absurd u (by decide)
      · obtain ⟨d0, d1, d2, d3, d4, d5, d6, d7, d8, d9, d10, d11, d12, d13, d14⟩ := d
        obtain ⟨b, hb16, eb⟩ := d14
        have f1 : mI (sI S 108 i (mI S 108 i ||| ((1 : Int32) <<< (nI k &&& 31)))) 108 i = nI b ||| ((1 : Int32) <<< (nI k &&& 31)) := by rw [sI_s, eb]
        refine Or.inr ⟨p0, p1, p2, ?_⟩
        unfold RCf
        rw [f1]
        refine ⟨d0, d1, d2, d3, d4, d5, d6, d7, d8, d9, d10, d11, fun r hr => ?_, fun r h1 h2 => ?_, ⟨b ||| 2 ^ k, (or_16 b hb16 k (by omega)).2, (or_16 b hb16 k (by omega)).1⟩⟩
        · have y := d12 r hr
          rw [eb] at y
          rw [sIn_or b hb16 k (by omega) r (by omega)]
          by_cases f : r = k
          · subst f
            rw [sA_s, upd_s, decide_eq_true rfl, Bool.true_or, if_pos rfl]
            exact (if_neg hc).symm
          · rw [sA_o f, decide_eq_false f, Bool.false_or]; exact y
        · have y := d13 r h1 h2
          rw [eb] at y
          rw [sIn_or b hb16 k (by omega) r h2, decide_eq_false (by omega), Bool.false_or]; exact y
    · have e1 : mI (sI S 108 j (mI S 108 j ||| ((1 : Int32) <<< (nI k &&& 31)))) 108 i = mI S 108 i := sI_o e
      have e3 : ∀ r, mA (sA A 35 k (upd (mA A 35 k) j 1)) 35 r i = mA A 35 r i := fun r => by
        by_cases f : r = k
        · subst f; rw [sA_s, upd_o e]
        · rw [sA_o f]
      unfold RCr RCf
      rw [e1]
      simp only [e3]
      exact h.rp i hi), h.wi, h.tu, h.qu, h.q1, h.q2, h.q3, h.q4, h.q6, (fun i hi z r hr => by
    by_cases e : i = j
    · exact absurd (e ▸ hs1) z
    · by_cases f : r = k
      · subst f; rw [sA_s, upd_o e]; exact h.q7 i hi z r hr
      · rw [sA_o f]; exact h.q7 i hi z r hr), h.q8, h.q9, (fun r hr i hi => by
    by_cases f : r = k
    · subst f; rw [sA_s, upd_o (by omega)]; exact h.rz r hr i hi
    · rw [sA_o f]; exact h.rz r hr i hi)⟩
theorem RK.en {S A : HS} {ns nj nm nt nr nc : Nat} {j q2 c2 : Nat} {m2 : Int32} {b2 : Nat → Option Nat} (hj : j < nt) (h1 : mI A 247 j = 1) (h2 : ¬ mI A 246 j = -1) (hc : mI A 253 j = 0) (hwr : rWrong (mI A 247 j) (mI A 246 j) (mI A 245 j) (mI A 248 j) = true) (hb0 : b2 nc = some (gG S 9 j)) (hb1 : ∀ i, i < nc → b2 i = mB S 30 5 i) (h : RK S A ns nj nm nt nr nc) : RK (addS (sI S 107 j 1) 5 q2 c2 m2 (nI (nc + 1)) b2) (sQ (sI A 253 j 1) (qN A + 1) (upd (mA A 60 0) (qN A) (nI j))) ns nj nm nt nr (nc + 1) := by
  exact ⟨h.rc, h.ok, h.mo, h.re, h.pr, (fun i hi => by
    by_cases e : i = j
    · subst e
      rcases h.rp i hi with ⟨-, u, -⟩ | ⟨p0, p1, p2, d⟩
      · rw [h1] at u; exact absurd u (by decide)
      · obtain ⟨d0, d1, d2, d3, d4, d5, d6, d7, d8, d9, d10, d11, d12, d13, d14⟩ := d
        have f1 : mI (addS (sI S 107 i 1) 5 q2 c2 m2 (nI (nc + 1)) b2) 107 i = 1 := sI_s (S := S)
        have f2 : mI (sQ (sI A 253 i 1) (qN A + 1) (upd (mA A 60 0) (qN A) (nI i))) 253 i = 1 := sI_s (S := A)
        refine Or.inr ⟨p0, Or.inl p1, p2, ?_⟩
        unfold RCf
        rw [f1, f2]
        refine ⟨d0, d1, d2, d3, d4, d5, d6, d7, d8, d9, d10, rfl, fun r hr => ?_, d13, d14⟩
        have y := d12 r hr
        rw [hc] at y
        exact y
    · have e1 : mI (addS (sI S 107 j 1) 5 q2 c2 m2 (nI (nc + 1)) b2) 107 i = mI S 107 i := sI_o (S := S) e
      have e2 : mI (sQ (sI A 253 j 1) (qN A + 1) (upd (mA A 60 0) (qN A) (nI j))) 253 i = mI A 253 i := sI_o (S := A) e
      have y := h.rp i hi
      unfold RCr RCf at y ⊢
      rw [e1, e2]
      exact y.imp id (fun z => ⟨z.1, Or.inl z.2.1, z.2.2⟩)), h.wi, h.tu, (by
    obtain ⟨g, a, b, c⟩ := h.qu
    refine ⟨g, a, ?_, fun i hi => ?_⟩
    · show g + (qN A + 1) = nc + 1
      omega
    · have hi2 : i < qN A + 1 := hi
      have r9 : mA (sQ (sI A 253 j 1) (qN A + 1) (upd (mA A 60 0) (qN A) (nI j))) 60 0 i = upd (mA A 60 0) (qN A) (nI j) i := rfl
      have b9 : mB (addS (sI S 107 j 1) 5 q2 c2 m2 (nI (nc + 1)) b2) 30 5 (g + i) = b2 (g + i) := rfl
      by_cases e : i = qN A
      · refine ⟨j, hj, by rw [r9, e, upd_s], by rw [b9, e, b]; exact hb0, ?_⟩
        rw [show mI (sQ (sI A 253 j 1) (qN A + 1) (upd (mA A 60 0) (qN A) (nI j))) 253 j = 1 from sI_s (S := A)]; decide
      · obtain ⟨k, c1, c2, c3, c4⟩ := c i (by omega)
        refine ⟨k, c1, by rw [r9, upd_o e]; exact c2, by rw [b9, hb1 (g + i) (by omega)]; exact c3, ?_⟩
        by_cases f : k = j
        · rw [f, show mI (sQ (sI A 253 j 1) (qN A + 1) (upd (mA A 60 0) (qN A) (nI j))) 253 j = 1 from sI_s (S := A)]; decide
        · rw [show mI (sQ (sI A 253 j 1) (qN A + 1) (upd (mA A 60 0) (qN A) (nI j))) 253 k = mI A 253 k from sI_o (S := A) f]; exact c4), (fun i hi z => by
    by_cases e : i = j
    · subst e; exact ⟨h1, h2⟩
    · rw [show mI (sQ (sI A 253 j 1) (qN A + 1) (upd (mA A 60 0) (qN A) (nI j))) 253 i = mI A 253 i from sI_o (S := A) e] at z
      exact h.q1 i hi z), h.q2, h.q3, h.q4, (by
    rw [h.q6]
    refine (cntB_up (j := j) ?_ ?_ nt hj (fun k hk e => ?_)).symm
    · show decide (¬ mI A 253 j = 0) = false
      rw [hc]; decide
    · show decide (¬ mI (sQ (sI A 253 j 1) (qN A + 1) (upd (mA A 60 0) (qN A) (nI j))) 253 j = 0) = true
      rw [show mI (sQ (sI A 253 j 1) (qN A + 1) (upd (mA A 60 0) (qN A) (nI j))) 253 j = 1 from sI_s (S := A)]; decide
    · show decide (¬ mI (sQ (sI A 253 j 1) (qN A + 1) (upd (mA A 60 0) (qN A) (nI j))) 253 k = 0) = decide (¬ mI A 253 k = 0)
      rw [show mI (sQ (sI A 253 j 1) (qN A + 1) (upd (mA A 60 0) (qN A) (nI j))) 253 k = mI A 253 k from sI_o (S := A) e]), h.q7, (fun i hi z => by
    by_cases e : i = j
    · rw [e]; exact hwr
    · rw [show mI (sQ (sI A 253 j 1) (qN A + 1) (upd (mA A 60 0) (qN A) (nI j))) 253 i = mI A 253 i from sI_o (S := A) e] at z; exact h.q8 i hi z), h.q9, h.rz⟩
theorem RK.hr {S A : HS} {ns nj nm nt nr nc : Nat} {x y : Int32} (h : RK S A ns nj nm nt nr nc) : RK (sI S 164 0 x) (sI A 257 0 y) ns nj nm nt nr nc := by
  exact ⟨h.rc, h.ok, h.mo, h.re, h.pr, h.rp, h.wi, h.tu, h.qu, h.q1, h.q2, h.q3, h.q4, h.q6, h.q7, h.q8, h.q9, h.rz⟩
theorem RK.dy {S A : HS} {ns nj nm nt nr nc : Nat}  (h : RK S A ns nj nm nt nr nc) : RK (sI S 69 0 600) (sI A 258 0 600) ns nj nm nt nr nc := by
  exact ⟨h.rc, h.ok, h.mo, h.re, h.pr, h.rp, (rfl), h.tu, h.qu, h.q1, h.q2, h.q3, h.q4, h.q6, h.q7, h.q8, (⟨600, Nat.le_refl _, rfl⟩), h.rz⟩
