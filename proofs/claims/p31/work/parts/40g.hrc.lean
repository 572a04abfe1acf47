def recX (A : HS) (j b m : Nat) (ql s : Int32) : HS := sI (sI (sI (sI (sI A 249 j (nI b)) 250 j (nI m)) 248 j ql) 195 m (mI A 195 m + 1)) 247 j s
theorem recB_X {A : HS} {ns nj x j b : Nat} : recB A ns nj x j b = recX A j b (sitN A x b) (rQual A ns nj (sitN A x b) (tS A j) (nI x)) (recS A j) := rfl
theorem nx_and (a b : Nat) : nI a &&& nI b = nI (a &&& b) := by
  apply Int32.toBitVec_inj.1
  show BitVec.ofNat 32 a &&& BitVec.ofNat 32 b = BitVec.ofNat 32 (a &&& b)
  apply BitVec.eq_of_getLsbD_eq
  intro i hi
  simp [hi]
theorem hd_1 : ∀ q, q < 19 → ((1 : Int32) <<< (nI q &&& 31)) - 1 = nI (2 ^ q - 1) := by decide +kernel
theorem hd_2 : ∀ q, q < 19 → ((1 : Int32) <<< (sMin 16 (nI q) &&& 31)) - 1 = nI (2 ^ (if q < 16 then q else 16) - 1) := by decide +kernel
theorem heard_eq {f q : Nat} (hf : f < 65536) (hq : q ≤ 18) : nI f &&& (((1 : Int32) <<< (nI q &&& 31)) - 1) = rHeard (nI f) (nI q) := by
  unfold rHeard
  rw [hd_1 q (by omega), hd_2 q (by omega), nx_and, nx_and]
  by_cases c : q < 16
  · rw [if_pos c]
  · rw [if_neg c, Nat.and_two_pow_sub_one_eq_mod, Nat.and_two_pow_sub_one_eq_mod, Nat.mod_eq_of_lt hf]
    have p : 2 ^ 16 ≤ 2 ^ q := Nat.pow_le_pow_right (by decide) (by omega)
    rw [Nat.mod_eq_of_lt (Nat.lt_of_lt_of_le hf p)]
def lenF (s c : Int32) : Int32 := if s = 3 then sMin 20 c else if s = 2 then c else if s = 1 then c / 4 else 0
theorem toI_eq {s : Int32} {n : Nat} (hn : n < 2 ^ 31) (h : s.toInt = n) : s = nI n := Int32.toInt_inj.mp (h.trans (nI_toInt hn).symm)

theorem sIn_0 : ∀ r, r < 4 → sIn 0 (nI r) = false := by decide +kernel
theorem RK.rec {S A : HS} {ns nj nm nt nr nc : Nat} {j b m q qa : Nat} {x x1 x2 xL x3 x4 : Int32} (hb4 : nr ≤ 4) (hb5 : nm ≤ 5) (hj : j < nt) (hn : mR S 152 j = none) (hm : m < nm) (hq1 : 1 ≤ q) (hq2 : q ≤ 18) (e1 : x1 = rSort (mI A 244 j)) (eL : xL = rLen (mI A 244 j) (mI A 243 j) (nI q)) (e2 : x2 = rCaught (mI A 243 j) (nI q)) (e3 : x3 = rHeard (mI A 245 j) (nI q)) (e4 : x4 = rGuess (mI A 245 j) (nI q)) (s0 : x = 0 → ¬ rSort (mI A 244 j) = 0) (s1 : ¬ x = 1) (s2 : ¬ x = -1) (h : RK S A ns nj nm nt nr nc) : RK (sR (sI (rep6 (sNew S 6 j qa) j (nI b) (nI m) (nI q) x1 x2 xL x3 x4) 104 j x) 152 j (some (gG (sNew S 6 j qa) 6 j))) (recX A j b m (nI q) x) ns nj nm nt nr nc := by
  exact ⟨h.rc, (⟨h.ok.1, h.ok.2.1, h.ok.2.2.1, fun i hi => by
    by_cases e : i = j
    · subst e
      exact Or.inr ⟨q, m, hq1, hq2, hm, by simp [recX, mI, sI, up2], by simp [recX, mI, sI, up2]⟩
    · have g1 : mI (recX A j b m (nI q) x) 247 i = mI A 247 i := by simp [recX, mI, sI, up2, e]
      have g2 : mI (recX A j b m (nI q) x) 248 i = mI A 248 i := by simp [recX, mI, sI, up2, e]
      have g3 : mI (recX A j b m (nI q) x) 250 i = mI A 250 i := by simp [recX, mI, sI, up2, e]
      rw [g1, g2, g3]; exact h.ok.2.2.2 i hi⟩), h.mo, h.re, h.pr, (fun i hi => by
    by_cases e : i = j
    · subst e
      rcases h.rp i hi with ⟨-, u, v, y, t⟩ | ⟨p0, -⟩
      · have f96 : mI (sR (sI (rep6 (sNew S 6 i qa) i (nI b) (nI m) (nI q) x1 x2 xL x3 x4) 104 i x) 152 i (some (gG (sNew S 6 i qa) 6 i))) 96 i = x1 := by simp [mI, mR, sI, sR, sNew, rep6, up2]
        have f97 : mI (sR (sI (rep6 (sNew S 6 i qa) i (nI b) (nI m) (nI q) x1 x2 xL x3 x4) 104 i x) 152 i (some (gG (sNew S 6 i qa) 6 i))) 97 i = xL := by simp [mI, mR, sI, sR, sNew, rep6, up2]
        have f98 : mI (sR (sI (rep6 (sNew S 6 i qa) i (nI b) (nI m) (nI q) x1 x2 xL x3 x4) 104 i x) 152 i (some (gG (sNew S 6 i qa) 6 i))) 98 i = x2 := by simp [mI, mR, sI, sR, sNew, rep6, up2]
        have f99 : mI (sR (sI (rep6 (sNew S 6 i qa) i (nI b) (nI m) (nI q) x1 x2 xL x3 x4) 104 i x) 152 i (some (gG (sNew S 6 i qa) 6 i))) 99 i = x3 := by simp [mI, mR, sI, sR, sNew, rep6, up2]
        have f100 : mI (sR (sI (rep6 (sNew S 6 i qa) i (nI b) (nI m) (nI q) x1 x2 xL x3 x4) 104 i x) 152 i (some (gG (sNew S 6 i qa) 6 i))) 100 i = x4 := by simp [mI, mR, sI, sR, sNew, rep6, up2]
        have f101 : mI (sR (sI (rep6 (sNew S 6 i qa) i (nI b) (nI m) (nI q) x1 x2 xL x3 x4) 104 i x) 152 i (some (gG (sNew S 6 i qa) 6 i))) 101 i = nI b := by simp [mI, mR, sI, sR, sNew, rep6, up2]
        have f102 : mI (sR (sI (rep6 (sNew S 6 i qa) i (nI b) (nI m) (nI q) x1 x2 xL x3 x4) 104 i x) 152 i (some (gG (sNew S 6 i qa) 6 i))) 102 i = nI m := by simp [mI, mR, sI, sR, sNew, rep6, up2]
        have f103 : mI (sR (sI (rep6 (sNew S 6 i qa) i (nI b) (nI m) (nI q) x1 x2 xL x3 x4) 104 i x) 152 i (some (gG (sNew S 6 i qa) 6 i))) 103 i = nI q := by simp [mI, mR, sI, sR, sNew, rep6, up2]
        have f104 : mI (sR (sI (rep6 (sNew S 6 i qa) i (nI b) (nI m) (nI q) x1 x2 xL x3 x4) 104 i x) 152 i (some (gG (sNew S 6 i qa) 6 i))) 104 i = x := by simp [mI, mR, sI, sR, sNew, rep6, up2]
        have f105 : mI (sR (sI (rep6 (sNew S 6 i qa) i (nI b) (nI m) (nI q) x1 x2 xL x3 x4) 104 i x) 152 i (some (gG (sNew S 6 i qa) 6 i))) 105 i = -1 := by simp [mI, mR, sI, sR, sNew, rep6, up2]
        have f106 : mI (sR (sI (rep6 (sNew S 6 i qa) i (nI b) (nI m) (nI q) x1 x2 xL x3 x4) 104 i x) 152 i (some (gG (sNew S 6 i qa) 6 i))) 106 i = -1 := by simp [mI, mR, sI, sR, sNew, rep6, up2]
        have f107 : mI (sR (sI (rep6 (sNew S 6 i qa) i (nI b) (nI m) (nI q) x1 x2 xL x3 x4) 104 i x) 152 i (some (gG (sNew S 6 i qa) 6 i))) 107 i = 0 := by simp [mI, mR, sI, sR, sNew, rep6, up2]
        have f108 : mI (sR (sI (rep6 (sNew S 6 i qa) i (nI b) (nI m) (nI q) x1 x2 xL x3 x4) 104 i x) 152 i (some (gG (sNew S 6 i qa) 6 i))) 108 i = 0 := by simp [mI, mR, sI, sR, sNew, rep6, up2]
        have a247 : mI (recX A i b m (nI q) x) 247 i = x := by simp [recX, mI, sI, up2]
        have a248 : mI (recX A i b m (nI q) x) 248 i = nI q := by simp [recX, mI, sI, up2]
        have a249 : mI (recX A i b m (nI q) x) 249 i = nI b := by simp [recX, mI, sI, up2]
        have a250 : mI (recX A i b m (nI q) x) 250 i = nI m := by simp [recX, mI, sI, up2]
        refine Or.inr ⟨up2_s _ _ _ _, Or.inr ⟨rfl, rfl⟩, by rw [a247]; exact s2, ?_⟩
        unfold RCf
        rw [f96, f97, f98, f99, f100, f101, f102, f103, f104, f105, f106, f107, f108, a247, a248, a249, a250]
        refine ⟨e1, eL, e2, e3, e4, rfl, rfl, rfl, rfl, t.symm, fun z => absurd z s1, v.symm, fun r hr => ?_, fun r _ hr => ?_, 0, by decide, rfl⟩
        · have y2 := y r hr
          rw [show sIn 0 (nI r) = false from sIn_0 r (by omega)]
          exact y2
        · exact sIn_0 r (by omega)
      · rw [hn] at p0; exact absurd p0.symm (Option.some_ne_none _)
    · have f96 : mI (sR (sI (rep6 (sNew S 6 j qa) j (nI b) (nI m) (nI q) x1 x2 xL x3 x4) 104 j x) 152 j (some (gG (sNew S 6 j qa) 6 j))) 96 i = mI S 96 i := by simp [mI, mR, sI, sR, sNew, rep6, up2, e]
      have f97 : mI (sR (sI (rep6 (sNew S 6 j qa) j (nI b) (nI m) (nI q) x1 x2 xL x3 x4) 104 j x) 152 j (some (gG (sNew S 6 j qa) 6 j))) 97 i = mI S 97 i := by simp [mI, mR, sI, sR, sNew, rep6, up2, e]
      have f98 : mI (sR (sI (rep6 (sNew S 6 j qa) j (nI b) (nI m) (nI q) x1 x2 xL x3 x4) 104 j x) 152 j (some (gG (sNew S 6 j qa) 6 j))) 98 i = mI S 98 i := by simp [mI, mR, sI, sR, sNew, rep6, up2, e]
      have f99 : mI (sR (sI (rep6 (sNew S 6 j qa) j (nI b) (nI m) (nI q) x1 x2 xL x3 x4) 104 j x) 152 j (some (gG (sNew S 6 j qa) 6 j))) 99 i = mI S 99 i := by simp [mI, mR, sI, sR, sNew, rep6, up2, e]
      have f100 : mI (sR (sI (rep6 (sNew S 6 j qa) j (nI b) (nI m) (nI q) x1 x2 xL x3 x4) 104 j x) 152 j (some (gG (sNew S 6 j qa) 6 j))) 100 i = mI S 100 i := by simp [mI, mR, sI, sR, sNew, rep6, up2, e]
      have f101 : mI (sR (sI (rep6 (sNew S 6 j qa) j (nI b) (nI m) (nI q) x1 x2 xL x3 x4) 104 j x) 152 j (some (gG (sNew S 6 j qa) 6 j))) 101 i = mI S 101 i := by simp [mI, mR, sI, sR, sNew, rep6, up2, e]
      have f102 : mI (sR (sI (rep6 (sNew S 6 j qa) j (nI b) (nI m) (nI q) x1 x2 xL x3 x4) 104 j x) 152 j (some (gG (sNew S 6 j qa) 6 j))) 102 i = mI S 102 i := by simp [mI, mR, sI, sR, sNew, rep6, up2, e]
      have f103 : mI (sR (sI (rep6 (sNew S 6 j qa) j (nI b) (nI m) (nI q) x1 x2 xL x3 x4) 104 j x) 152 j (some (gG (sNew S 6 j qa) 6 j))) 103 i = mI S 103 i := by simp [mI, mR, sI, sR, sNew, rep6, up2, e]
      have f104 : mI (sR (sI (rep6 (sNew S 6 j qa) j (nI b) (nI m) (nI q) x1 x2 xL x3 x4) 104 j x) 152 j (some (gG (sNew S 6 j qa) 6 j))) 104 i = mI S 104 i := by simp [mI, mR, sI, sR, sNew, rep6, up2, e]
      have f105 : mI (sR (sI (rep6 (sNew S 6 j qa) j (nI b) (nI m) (nI q) x1 x2 xL x3 x4) 104 j x) 152 j (some (gG (sNew S 6 j qa) 6 j))) 105 i = mI S 105 i := by simp [mI, mR, sI, sR, sNew, rep6, up2, e]
      have f106 : mI (sR (sI (rep6 (sNew S 6 j qa) j (nI b) (nI m) (nI q) x1 x2 xL x3 x4) 104 j x) 152 j (some (gG (sNew S 6 j qa) 6 j))) 106 i = mI S 106 i := by simp [mI, mR, sI, sR, sNew, rep6, up2, e]
      have f107 : mI (sR (sI (rep6 (sNew S 6 j qa) j (nI b) (nI m) (nI q) x1 x2 xL x3 x4) 104 j x) 152 j (some (gG (sNew S 6 j qa) 6 j))) 107 i = mI S 107 i := by simp [mI, mR, sI, sR, sNew, rep6, up2, e]
      have f108 : mI (sR (sI (rep6 (sNew S 6 j qa) j (nI b) (nI m) (nI q) x1 x2 xL x3 x4) 104 j x) 152 j (some (gG (sNew S 6 j qa) 6 j))) 108 i = mI S 108 i := by simp [mI, mR, sI, sR, sNew, rep6, up2, e]
      have a247 : mI (recX A j b m (nI q) x) 247 i = mI A 247 i := by simp [recX, mI, sI, up2, e]
      have a248 : mI (recX A j b m (nI q) x) 248 i = mI A 248 i := by simp [recX, mI, sI, up2, e]
      have a249 : mI (recX A j b m (nI q) x) 249 i = mI A 249 i := by simp [recX, mI, sI, up2, e]
      have a250 : mI (recX A j b m (nI q) x) 250 i = mI A 250 i := by simp [recX, mI, sI, up2, e]
      have r9 : mR (sR (sI (rep6 (sNew S 6 j qa) j (nI b) (nI m) (nI q) x1 x2 xL x3 x4) 104 j x) 152 j (some (gG (sNew S 6 j qa) 6 j))) 152 i = mR S 152 i := by simp [mI, mR, sI, sR, sNew, rep6, up2, e]
      have g9 : gG (sR (sI (rep6 (sNew S 6 j qa) j (nI b) (nI m) (nI q) x1 x2 xL x3 x4) 104 j x) 152 j (some (gG (sNew S 6 j qa) 6 j))) 6 i = gG S 6 i := by simp [gG, sI, sR, sNew, rep6, up2, e]
      have y := h.rp i hi
      unfold RCr RCf at y ⊢
      rw [f96, f97, f98, f99, f100, f101, f102, f103, f104, f105, f106, f107, f108, a247, a248, a249, a250, r9, g9]
      exact y.imp id (fun z => ⟨z.1, Or.inl z.2.1, z.2.2⟩)), h.wi, h.tu, h.qu, (fun i hi z => by
    have y := h.q1 i hi z
    by_cases e : i = j
    · subst e
      rcases h.rp i hi with ⟨-, -, v, -⟩ | ⟨p0, -⟩
      · exact absurd v z
      · rw [hn] at p0; exact absurd p0.symm (Option.some_ne_none _)
    · have g1 : mI (recX A j b m (nI q) x) 247 i = mI A 247 i := by simp [recX, mI, sI, up2, e]
      rw [g1]; exact y), (fun i hi z => by
    by_cases e : i = j
    · subst e
      have g1 : mI (recX A i b m (nI q) x) 247 i = x := by simp [recX, mI, sI, up2]
      rw [g1] at z; exact s0 z
    · have g1 : mI (recX A j b m (nI q) x) 247 i = mI A 247 i := by simp [recX, mI, sI, up2, e]
      rw [g1] at z; exact h.q2 i hi z), (fun k hk => by
    have u : mI A 247 j = -1 := by
      rcases h.rp j hj with ⟨-, u, -⟩ | ⟨p0, -⟩
      · exact u
      · rw [hn] at p0; exact absurd p0.symm (Option.some_ne_none _)
    have p0 : rBy A k j = false := by unfold rBy; rw [u]; rfl
    have po : ∀ i, i < nt → ¬ i = j → rBy (recX A j b m (nI q) x) k i = rBy A k i := fun i _ e => by
      have g1 : mI (recX A j b m (nI q) x) 247 i = mI A 247 i := by simp [recX, mI, sI, up2, e]
      have g3 : mI (recX A j b m (nI q) x) 250 i = mI A 250 i := by simp [recX, mI, sI, up2, e]
      unfold rBy
      rw [g1, g3]
    have g1 : mI (recX A j b m (nI q) x) 247 j = x := by simp [recX, mI, sI, up2]
    have g3 : mI (recX A j b m (nI q) x) 250 j = nI m := by simp [recX, mI, sI, up2]
    by_cases e : k = m
    · subst e
      have c1 : mI (recX A j b k (nI q) x) 195 k = mI A 195 k + 1 := by simp [recX, mI, sI, up2]
      rw [c1, h.q3 k hk]
      refine (rCnt_up p0 ?_ nt hj po).symm
      unfold rBy
      rw [g1, g3, decide_eq_true s2, decide_eq_true rfl]; rfl
    · have c1 : mI (recX A j b m (nI q) x) 195 k = mI A 195 k := by simp [recX, mI, sI, up2, e]
      rw [c1, h.q3 k hk]
      refine (rCnt_c nt (fun i hi => ?_)).symm
      by_cases f : i = j
      · subst f
        rw [p0]
        unfold rBy
        rw [g1, g3, decide_eq_false (fun z => e ((nI_eq (by omega) (by omega)).mp z).symm), Bool.and_false]
      · exact po i hi f), (by
    have u : mI A 247 j = -1 := by
      rcases h.rp j hj with ⟨-, u, -⟩ | ⟨p0, -⟩
      · exact u
      · rw [hn] at p0; exact absurd p0.symm (Option.some_ne_none _)
    have go : ∀ i, ¬ i = j → mI (recX A j b m (nI q) x) 247 i = mI A 247 i := fun i e => by simp [recX, mI, sI, up2, e]
    have g1 : mI (recX A j b m (nI q) x) 247 j = x := by simp [recX, mI, sI, up2]
    have g2 : mI (recX A j b m (nI q) x) 261 0 = mI A 261 0 := by simp [recX, mI, sI, up2]
    have g3 : ∀ i, mI (recX A j b m (nI q) x) 252 i = mI A 252 i := fun i => by simp [recX, mI, sI, up2]
    refine ⟨g2.trans (h.q4.1.trans (rCnt_c nt (fun k hk => ?_))), fun i hi z => ?_⟩
    · show decide (mI A 247 k = 1) = decide (mI (recX A j b m (nI q) x) 247 k = 1)
      by_cases e : k = j
      · subst e; rw [g1, u, decide_eq_false s1]; rfl
      · rw [go k e]
    · by_cases e : i = j
      · subst e; rw [g1] at z; exact absurd z s1
      · rw [go i e] at z; rw [g2, g3]; exact h.q4.2 i hi z), h.q6, (fun i hi z r hr => by
    have u : mI A 247 j = -1 := by
      rcases h.rp j hj with ⟨-, u, -⟩ | ⟨p0, -⟩
      · exact u
      · rw [hn] at p0; exact absurd p0.symm (Option.some_ne_none _)
    have ea : mA (recX A j b m (nI q) x) 35 r i = mA A 35 r i := rfl
    rw [ea]
    by_cases e : i = j
    · exact h.q7 i hi (by rw [e, u]; decide) r hr
    · rw [show mI (recX A j b m (nI q) x) 247 i = mI A 247 i by simp [recX, mI, sI, up2, e]] at z; exact h.q7 i hi z r hr), (fun i hi z => by
    have u : mI A 247 j = -1 := by
      rcases h.rp j hj with ⟨-, u, -⟩ | ⟨p0, -⟩
      · exact u
      · rw [hn] at p0; exact absurd p0.symm (Option.some_ne_none _)
    have e3 : mI (recX A j b m (nI q) x) 253 i = mI A 253 i := by simp [recX, mI, sI, up2]
    rw [e3] at z
    by_cases e : i = j
    · subst e
      have y := (h.q1 i hi z).1
      rw [u] at y; exact absurd y (by decide)
    · rw [show mI (recX A j b m (nI q) x) 247 i = mI A 247 i by simp [recX, mI, sI, up2, e], show mI (recX A j b m (nI q) x) 248 i = mI A 248 i by simp [recX, mI, sI, up2, e], show mI (recX A j b m (nI q) x) 246 i = mI A 246 i by simp [recX, mI, sI, up2], show mI (recX A j b m (nI q) x) 245 i = mI A 245 i by simp [recX, mI, sI, up2]]; exact h.q8 i hi z), h.q9, h.rz⟩
