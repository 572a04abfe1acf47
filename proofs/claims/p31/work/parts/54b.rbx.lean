theorem kBT {S T : HS} (k : Kq (hvT LB) hNo hNo S T) : KeepT S T := k.le (fun t i h => by
    cases c : hvT LB t i with
    | false => rfl
    | true =>
      have z : (t = 39 ∧ i = 1) ∨ (t = 39 ∧ i = 2) := by simpa [hvT] using c
      rcases z with ⟨rfl, rfl⟩ | ⟨rfl, rfl⟩ <;> exact absurd h (by decide)) (fun f i _ => rfl) (fun f i _ => rfl)
def mtB (nm N a b : Nat) : Bool := (decide (a < N) && (decide (b < N) && (decide (a / nm = b / nm) || decide (a % nm = b % nm))))
def pS (nm N x : Nat) : Int32 := if x < N then nI (x / nm) else -1
def pM (nm N x : Nat) : Int32 := if x < N then nI (x % nm) else -1
def rSm (Q : Nat → Nat → Nat) (nm N a b c : Nat) : Nat := rQ Q nm N a + rQ Q nm N b + rQ Q nm N c
/-- the row of the best: the sum, then each set's station and monitor -/
def rR (nm N g ta tb tc : Nat) : Nat → Int32
  | 0 => nI g
  | 1 => pS nm N ta
  | 2 => pM nm N ta
  | 3 => pS nm N tb
  | 4 => pM nm N tb
  | 5 => pS nm N tc
  | _ => pM nm N tc
def rBw (Q : Nat → Nat → Nat) : Nat → Int32
  | 0 => nI (bG Q 3 nF nF)
  | 1 => rS (bCk Q 0)
  | 2 => rM (bCk Q 0)
  | 3 => rS (bCk Q 1)
  | 4 => rM (bCk Q 1)
  | 5 => rS (bCk Q 2)
  | _ => rM (bCk Q 2)
/-- (x, y, z) ahead of (a, b, c) -/
def lx (a b c x y z : Nat) : Prop := x < a ∨ (x = a ∧ (y < b ∨ (y = b ∧ z < c)))
def BI (Q : Nat → Nat → Nat) (nm N g ta tb tc a b c : Nat) : Prop := (∀ x y z, x ≤ N → y ≤ N → z ≤ N → rVd Q nm N x y z → lx a b c x y z → rSm Q nm N x y z ≤ g) ∧ ((g = 0 ∧ ta = N ∧ tb = N ∧ tc = N) ∨ (0 < g ∧ ta ≤ N ∧ tb ≤ N ∧ tc ≤ N ∧ rVd Q nm N ta tb tc ∧ rSm Q nm N ta tb tc = g ∧ ∀ x y z, x ≤ N → y ≤ N → z ≤ N → rVd Q nm N x y z → lx ta tb tc x y z → rSm Q nm N x y z < g))
section BIS
variable {Q : Nat → Nat → Nat} {ns nm N g ta tb tc a b c k : Nat} {S M : Nat → Bool}
theorem mt_1 (h : ¬ a < N) : b2i (mtB nm N a b) = 0 := by unfold mtB; rw [decide_eq_false h, Bool.false_and]; rfl
theorem mt_2 (h : ¬ b < N) : b2i (mtB nm N a b) = 0 := by unfold mtB; rw [decide_eq_false h, Bool.false_and, Bool.and_false]; rfl
theorem mt_3 (ha : a < N) (hb : b < N) (h : a / nm = b / nm) : b2i (mtB nm N a b) = 1 := by unfold mtB; rw [decide_eq_true ha, decide_eq_true hb, decide_eq_true h]; rfl
theorem mt_5 (ha : a < N) (hb : b < N) (h : a % nm = b % nm) : b2i (mtB nm N a b) = 1 := by unfold mtB; rw [decide_eq_true ha, decide_eq_true hb, decide_eq_true h, Bool.or_true]; rfl
theorem mt_4 (h : ¬ a / nm = b / nm) (h2 : ¬ a % nm = b % nm) : b2i (mtB nm N a b) = 0 := by unfold mtB; rw [decide_eq_false h, decide_eq_false h2, Bool.or_false, Bool.and_false, Bool.and_false]; rfl
theorem mtB_t (h : mtB nm N a b = true) : rMt nm N a b := by
  unfold mtB at h
  rw [Bool.and_eq_true_iff, Bool.and_eq_true_iff, Bool.or_eq_true_iff] at h
  exact ⟨of_decide_eq_true h.1, of_decide_eq_true h.2.1, h.2.2.imp of_decide_eq_true of_decide_eq_true⟩
theorem mtB_f (h : mtB nm N a b = false) : ¬ rMt nm N a b := fun ⟨h1, h2, h3⟩ => by
  have e : mtB nm N a b = true := by
    unfold mtB
    rw [decide_eq_true h1, decide_eq_true h2, Bool.true_and, Bool.true_and, Bool.or_eq_true_iff]
    exact h3.imp decide_eq_true decide_eq_true
  rw [e] at h; exact absurd h (by decide)
theorem rQ_18 (h : ∀ s m, Q s m ≤ 18) : rQ Q nm N a ≤ 18 := by
  unfold rQ
  split
  · exact h _ _
  · exact Nat.zero_le _
theorem rSm_54 (h : ∀ s m, Q s m ≤ 18) : rSm Q nm N a b c ≤ 54 := by
  unfold rSm
  have h1 := rQ_18 (nm := nm) (N := N) (a := a) h
  have h2 := rQ_18 (nm := nm) (N := N) (a := b) h
  have h3 := rQ_18 (nm := nm) (N := N) (a := c) h
  omega
theorem rOk_g (h : N ≤ a) : rOk Q nm N a := fun l => absurd l (Nat.not_lt.mpr h)
theorem rOk_p (h : ¬ nI (rQ Q nm N a) = 0) : rOk Q nm N a := fun l => Nat.pos_of_ne_zero (fun z => h (by unfold rQ; rw [if_pos l, z]; rfl))
theorem rOk_n (l : a < N) (h18 : ∀ s m, Q s m ≤ 18) (h : nI (rQ Q nm N a) = 0) : ¬ rOk Q nm N a := fun k => by
  have p := k l
  have b := h18 (a / nm) (a % nm)
  unfold rQ at h
  rw [if_pos l] at h
  have e := (nI_eq (a := Q (a / nm) (a % nm)) (b := 0) (by omega) (by decide)).mp h
  omega
theorem BI.start : BI Q nm N 0 N N N 0 0 0 := ⟨fun x y z _ _ _ _ l => by unfold lx at l; omega, Or.inl ⟨rfl, rfl, rfl, rfl⟩⟩
theorem BI.skA (h : BI Q nm N g ta tb tc a 0 0) (n : ¬ rOk Q nm N a) : BI Q nm N g ta tb tc (a + 1) 0 0 := ⟨fun x y z hx hy hz v l => h.1 x y z hx hy hz v (by
  have ne : ¬ x = a := fun e => n (by rw [← e]; exact v.1)
  unfold lx at *; omega), h.2⟩
theorem BI.skB (h : BI Q nm N g ta tb tc a b 0) (n : ¬ rOk Q nm N b ∨ rMt nm N a b) : BI Q nm N g ta tb tc a (b + 1) 0 := ⟨fun x y z hx hy hz v l => h.1 x y z hx hy hz v (by
  have ne : ¬ (x = a ∧ y = b) := fun ⟨e1, e2⟩ => n.elim (fun n => n (by rw [← e2]; exact v.2.1)) (fun n => v.2.2.2.1 (by rw [e1, e2]; exact n))
  unfold lx at *; omega), h.2⟩
theorem BI.endB (h : BI Q nm N g ta tb tc a (N + 1) 0) : BI Q nm N g ta tb tc (a + 1) 0 0 := ⟨fun x y z hx hy hz v l => h.1 x y z hx hy hz v (by unfold lx at *; omega), h.2⟩
theorem BI.skC (h : BI Q nm N g ta tb tc a b c) (n : ¬ rOk Q nm N c ∨ rMt nm N a c ∨ rMt nm N b c ∨ rSm Q nm N a b c ≤ g) : BI Q nm N g ta tb tc a b (c + 1) := ⟨fun x y z hx hy hz v l => by
  by_cases e : x = a ∧ y = b ∧ z = c
  · obtain ⟨rfl, rfl, rfl⟩ := e
    rcases n with n | n | n | n
    · exact absurd v.2.2.1 n
    · exact absurd n v.2.2.2.2.1
    · exact absurd n v.2.2.2.2.2
    · exact n
  · exact h.1 x y z hx hy hz v (by unfold lx at *; omega), h.2⟩
theorem BI.endC (h : BI Q nm N g ta tb tc a b (N + 1)) : BI Q nm N g ta tb tc a (b + 1) 0 := ⟨fun x y z hx hy hz v l => h.1 x y z hx hy hz v (by unfold lx at *; omega), h.2⟩
theorem BI.new (h : BI Q nm N g ta tb tc a b c) (v : rVd Q nm N a b c) (ha : a ≤ N) (hb : b ≤ N) (hc : c ≤ N) (hg : g < rSm Q nm N a b c) : BI Q nm N (rSm Q nm N a b c) a b c a b (c + 1) := ⟨fun x y z hx hy hz v l => by
  by_cases e : x = a ∧ y = b ∧ z = c
  · obtain ⟨rfl, rfl, rfl⟩ := e
    exact Nat.le_refl _
  · exact Nat.le_of_lt (Nat.lt_of_le_of_lt (h.1 x y z hx hy hz v (by unfold lx at *; omega)) hg), Or.inr ⟨by omega, ha, hb, hc, v, rfl, fun x y z hx hy hz v l => Nat.lt_of_le_of_lt (h.1 x y z hx hy hz v l) hg⟩⟩
theorem pS_is (hN : N = ns * nm) (h8 : ns ≤ 8) (h5 : nm ≤ 5) (hz : ∀ s m, ¬ (s < ns ∧ m < nm) → Q s m = 0) : pS nm N (rCh Q nm N k S M) = rS (bCh Q k S M) ∧ pM nm N (rCh Q nm N k S M) = rM (bCh Q k S M) := by
  obtain ⟨-, -, -, -, x5, x6⟩ := rCh_is (k := k) (S := S) (M := M) hN h8 h5 hz
  unfold pS pM rS rM
  by_cases d : bCh Q k S M < 40
  · rw [if_pos (x5.mpr d), if_pos d, (x6 d).1, if_pos (x5.mpr d), if_pos d, (x6 d).2]; exact ⟨rfl, rfl⟩
  · rw [if_neg (fun z => d (x5.mp z)), if_neg d, if_neg (fun z => d (x5.mp z)), if_neg d]; exact ⟨rfl, rfl⟩
theorem BI.fin (hN : N = ns * nm) (h8 : ns ≤ 8) (h5 : nm ≤ 5) (hz : ∀ s m, ¬ (s < ns ∧ m < nm) → Q s m = 0) (h : BI Q nm N g ta tb tc (N + 1) 0 0) : ∀ j, j < 7 → rR nm N g ta tb tc j = rBw Q j := by
  obtain ⟨e1, e2, e3, e4⟩ := rTri hN h8 h5 hz (fun x y z hx hy hz' v => h.1 x y z hx hy hz' v (Or.inl (Nat.lt_succ_of_le hx))) h.2
  intro j hj
  match j, hj with
  | 0, _ => exact congrArg nI e1
  | 1, _ => rw [e2]; exact (pS_is hN h8 h5 hz).1
  | 2, _ => rw [e2]; exact (pS_is hN h8 h5 hz).2
  | 3, _ => rw [e3]; exact (pS_is hN h8 h5 hz).1
  | 4, _ => rw [e3]; exact (pS_is hN h8 h5 hz).2
  | 5, _ => rw [e4]; exact (pS_is hN h8 h5 hz).1
  | 6, _ => rw [e4]; exact (pS_is hN h8 h5 hz).2
  | n + 7, h => exact absurd h (by omega)
theorem rR_0 : ∀ j, 0 < j → rR nm N 0 N N N j = -1 := fun j hj => by
  match j, hj with
  | 0, h => exact absurd h (Nat.lt_irrefl _)
  | 1, _ => exact if_neg (Nat.lt_irrefl _)
  | 2, _ => exact if_neg (Nat.lt_irrefl _)
  | 3, _ => exact if_neg (Nat.lt_irrefl _)
  | 4, _ => exact if_neg (Nat.lt_irrefl _)
  | 5, _ => exact if_neg (Nat.lt_irrefl _)
  | n + 6, _ => exact if_neg (Nat.lt_irrefl _)
theorem rR_upd {f : Nat → Int32} : ∀ j, j < 7 → upd (upd (upd (upd (upd (upd (upd f 0 (nI g)) 1 (pS nm N ta)) 2 (pM nm N ta)) 3 (pS nm N tb)) 4 (pM nm N tb)) 5 (pS nm N tc)) 6 (pM nm N tc) j = rR nm N g ta tb tc j := fun j hj => by
  match j, hj with
  | 0, _ => rfl
  | 1, _ => rfl
  | 2, _ => rfl
  | 3, _ => rfl
  | 4, _ => rfl
  | 5, _ => rfl
  | 6, _ => rfl
  | n + 7, h => exact absurd h (by omega)
theorem rB_S : ∀ j, j < 3 → rBw Q (1 + 2 * j) = rS (bCk Q j) ∧ rBw Q (1 + 2 * j + 1) = rM (bCk Q j) := fun j hj => by
  match j, hj with
  | 0, _ => exact ⟨rfl, rfl⟩
  | 1, _ => exact ⟨rfl, rfl⟩
  | 2, _ => exact ⟨rfl, rfl⟩
  | n + 3, h => exact absurd h (by omega)
end BIS
theorem bQ_z {A : HS} {ns nj nm s m : Nat} {a : Int32} (h : ¬ (s < ns ∧ m < nm)) : bQ A ns nj nm a s m = 0 := if_neg h
theorem put_eq {S : HS} {q : Nat} {v1 v2 s1 s2 : Int32} (hq : q + 1 < 7) (e1 : s1 = v1) (e2 : s2 = v2) : sA (sA S 39 1 (upd (mA S 39 1) (nI q).toNatClampNeg v1)) 39 1 (upd (mA (sA S 39 1 (upd (mA S 39 1) (nI q).toNatClampNeg v1)) 39 1) (nI (q + 1)).toNatClampNeg v2) = sA (sA S 39 1 (upd (mA S 39 1) q s1)) 39 1 (upd (upd (mA S 39 1) q s1) (q + 1) s2) := by
  rw [e1, e2, nI_clamp (by omega), nI_clamp (by omega), sA_s]

abbrev rm_r_X16_meet : Room := { frames := 0, cells := 0, slots := 0, locals := 0 }
set_option maxHeartbeats 4000000 in
set_option maxRecDepth 100000 in
theorem r_X16_meet {s0 : State} {l : Launch} {D : va_G} {cy : Nat → ClassId} (G : Gl s0 l D cy) (S : HS) (a b n0 m0 N : Nat) (hN : N = n0 * m0) (ha : a ≤ N) (hb9 : b ≤ N) (hn : n0 ≤ 8) (hm : m0 ≤ 5) : Ctr s0 l D cy yX16_meet cX16_meet 4 (some .boolean) rm_r_X16_meet S [.int (nI a), .int (nI b), .int (nI n0), .int (nI m0)] (PU S (some (.int (b2i (mtB m0 N a b))))) := by
  refine pro "CavershamShiftModel" G rfl rfl (Nat.le_of_ble_eq_true rfl) (fun p e s m below meth c ls X w hnm hl => ?_)
  have hx := X.1
  have hb := X.2.1
  have hown := X.2.2.2.1
  have hts := X.2.2.2.2.1
  have hl : lv_has ls 4 [(0, .int (nI a)), (1, .int (nI b)), (2, .int (nI n0)), (3, .int (nI m0))] := hl
  subst hN
  have hnm : n0 * m0 ≤ 40 := Nat.mul_le_mul hn hm
  have hda := Nat.div_le_self a m0
  have hdb := Nat.div_le_self b m0
  have hma := Nat.mod_le a m0
  have hmb := Nat.mod_le b m0
  refine lv_iload_n hx hb dX16_meet_0 rfl (lv_at hl 0 rfl) ?_
  refine lv_iload_n hx hb dX16_meet_1 rfl (lv_at hl 2 rfl) ?_
  refine lv_iload_n hx hb dX16_meet_2 rfl (lv_at hl 3 rfl) ?_
  refine lv_imul hx hb dX16_meet_3 ?_
  refine lv_topi (fun z1 ez1 => ?_)
  obtain rfl : z1 = nI (n0 * m0) := ez1.trans (pk_mul n0 m0)
  refine lv_icmp_ge (tgt := 36) hx hb dX16_meet_4 (by decide) (fun hg1 => ?_) (fun hg1 => ?_)
  · have hx1 : ¬ a < n0 * m0 := Nat.not_lt.mpr ((nI_leI (a := n0 * m0) (b := a) (by omega) (by omega)).mp hg1)
    refine lv_iconst (v := 0) hx hb dX16_meet_36 (by decide) ?_
    exact rZ X w rfl dX16_meet_37 (by decide) (by decide) (by decide) (pu_i (by first | exact mt_1 hx1 | exact mt_2 hx2 | exact mt_3 ha2 hb2 hx3 | exact mt_5 ha2 hb2 hx4 | exact mt_4 hx3 hx4))
  · have ha2 : a < n0 * m0 := Nat.lt_of_not_le (fun z => hg1 ((nI_leI (a := n0 * m0) (b := a) (by omega) (by omega)).mpr z))
    have hm0 : 0 < m0 := nn_h ha2
    refine lv_iload_n hx hb dX16_meet_7 rfl (lv_at hl 1 rfl) ?_
    refine lv_iload_n hx hb dX16_meet_8 rfl (lv_at hl 2 rfl) ?_
    refine lv_iload_n hx hb dX16_meet_9 rfl (lv_at hl 3 rfl) ?_
    refine lv_imul hx hb dX16_meet_10 ?_
    refine lv_topi (fun z2 ez2 => ?_)
    obtain rfl : z2 = nI (n0 * m0) := ez2.trans (pk_mul n0 m0)
    refine lv_icmp_ge (tgt := 36) hx hb dX16_meet_11 (by decide) (fun hg2 => ?_) (fun hg2 => ?_)
    · have hx2 : ¬ b < n0 * m0 := Nat.not_lt.mpr ((nI_leI (a := n0 * m0) (b := b) (by omega) (by omega)).mp hg2)
      refine lv_iconst (v := 0) hx hb dX16_meet_36 (by decide) ?_
      exact rZ X w rfl dX16_meet_37 (by decide) (by decide) (by decide) (pu_i (by first | exact mt_1 hx1 | exact mt_2 hx2 | exact mt_3 ha2 hb2 hx3 | exact mt_5 ha2 hb2 hx4 | exact mt_4 hx3 hx4))
    · have hb2 : b < n0 * m0 := Nat.lt_of_not_le (fun z => hg2 ((nI_leI (a := n0 * m0) (b := b) (by omega) (by omega)).mpr z))
      refine lv_iload_n hx hb dX16_meet_14 rfl (lv_at hl 0 rfl) ?_
      refine lv_iload_n hx hb dX16_meet_15 rfl (lv_at hl 3 rfl) ?_
      refine lv_idiv hx hb dX16_meet_16 (nI_ne0 hm0 (by omega)) ?_
      refine lv_topi (fun z3 ez3 => ?_)
      obtain rfl : z3 = nI (a / m0) := ez3.trans (pk_div (by omega) hm0 (by omega))
      refine lv_iload_n hx hb dX16_meet_17 rfl (lv_at hl 1 rfl) ?_
      refine lv_iload_n hx hb dX16_meet_18 rfl (lv_at hl 3 rfl) ?_
      refine lv_idiv hx hb dX16_meet_19 (nI_ne0 hm0 (by omega)) ?_
      refine lv_topi (fun z4 ez4 => ?_)
      obtain rfl : z4 = nI (b / m0) := ez4.trans (pk_div (by omega) hm0 (by omega))
      refine lv_icmp_eq (tgt := 32) hx hb dX16_meet_20 (by decide) (fun hg3 => ?_) (fun hg3 => ?_)
      · have hx3 : a / m0 = b / m0 := (nI_eq (by omega) (by omega)).mp hg3
        refine lv_iconst (v := 1) hx hb dX16_meet_32 (by decide) ?_
        refine lv_goto (tgt := 37) hx hb dX16_meet_33 (by decide) ?_
        exact rZ X w rfl dX16_meet_37 (by decide) (by decide) (by decide) (pu_i (by first | exact mt_1 hx1 | exact mt_2 hx2 | exact mt_3 ha2 hb2 hx3 | exact mt_5 ha2 hb2 hx4 | exact mt_4 hx3 hx4))
      · have hx3 : ¬ a / m0 = b / m0 := fun z => hg3 (by rw [z])
        refine lv_iload_n hx hb dX16_meet_23 rfl (lv_at hl 0 rfl) ?_
        refine lv_iload_n hx hb dX16_meet_24 rfl (lv_at hl 3 rfl) ?_
        refine lv_irem hx hb dX16_meet_25 (nI_ne0 hm0 (by omega)) ?_
        refine lv_topi (fun z5 ez5 => ?_)
        obtain rfl : z5 = nI (a % m0) := ez5.trans (pk_rem (by omega) hm0 (by omega))
        refine lv_iload_n hx hb dX16_meet_26 rfl (lv_at hl 1 rfl) ?_
        refine lv_iload_n hx hb dX16_meet_27 rfl (lv_at hl 3 rfl) ?_
        refine lv_irem hx hb dX16_meet_28 (nI_ne0 hm0 (by omega)) ?_
        refine lv_topi (fun z6 ez6 => ?_)
        obtain rfl : z6 = nI (b % m0) := ez6.trans (pk_rem (by omega) hm0 (by omega))
        refine lv_icmp_ne (tgt := 36) hx hb dX16_meet_29 (by decide) (fun hg4 => ?_) (fun hg4 => ?_)
        · have hx4 : ¬ a % m0 = b % m0 := fun z => hg4 (by rw [z])
          refine lv_iconst (v := 0) hx hb dX16_meet_36 (by decide) ?_
          exact rZ X w rfl dX16_meet_37 (by decide) (by decide) (by decide) (pu_i (by first | exact mt_1 hx1 | exact mt_2 hx2 | exact mt_3 ha2 hb2 hx3 | exact mt_5 ha2 hb2 hx4 | exact mt_4 hx3 hx4))
        · have hx4 : a % m0 = b % m0 := (nI_eq (by omega) (by omega)).mp hg4
          refine lv_iconst (v := 1) hx hb dX16_meet_32 (by decide) ?_
          refine lv_goto (tgt := 37) hx hb dX16_meet_33 (by decide) ?_
          exact rZ X w rfl dX16_meet_37 (by decide) (by decide) (by decide) (pu_i (by first | exact mt_1 hx1 | exact mt_2 hx2 | exact mt_3 ha2 hb2 hx3 | exact mt_5 ha2 hb2 hx4 | exact mt_4 hx3 hx4))

abbrev rm_r_X16_put : Room := { frames := 0, cells := 0, slots := 0, locals := 0 }
set_option maxHeartbeats 4000000 in
set_option maxRecDepth 100000 in
theorem r_X16_put {s0 : State} {l : Launch} {D : va_G} {cy : Nat → ClassId} (G : Gl s0 l D cy) (S : HS) (q x n0 m0 N : Nat) (hN : N = n0 * m0) (hq : q + 1 < 7) (hx9 : x ≤ N) (hn : n0 ≤ 8) (hm : m0 ≤ 5) (hV : vV S 39 1) (hN9 : mN S 39 1 = 7) : Ctr s0 l D cy yX16_put cX16_put 5 none rm_r_X16_put S [.ref (gG S 39 1), .int (nI q), .int (nI x), .int (nI n0), .int (nI m0)] (fun v S' => none = v ∧ S' = (sA (sA S 39 1 (upd (mA S 39 1) q (pS m0 N x))) 39 1 (upd (upd (mA S 39 1) q (pS m0 N x)) (q + 1) (pM m0 N x)))) := by
  refine pro "CavershamShiftModel" G rfl rfl (Nat.le_of_ble_eq_true rfl) (fun p e s m below meth c ls X w hnm hl => ?_)
  have hx := X.1
  have hb := X.2.1
  have hown := X.2.2.2.1
  have hts := X.2.2.2.2.1
  have hl : lv_has ls 5 [(0, .ref (gG S 39 1)), (1, .int (nI q)), (2, .int (nI x)), (3, .int (nI n0)), (4, .int (nI m0))] := hl
  subst hN
  have hnm : n0 * m0 ≤ 40 := Nat.mul_le_mul hn hm
  refine lv_aload_n hx hb dX16_put_0 rfl (lv_at hl 0 rfl) ?_
  refine lv_iload_n hx hb dX16_put_1 rfl (lv_at hl 1 rfl) ?_
  refine lv_iload_n hx hb dX16_put_2 rfl (lv_at hl 2 rfl) ?_
  refine lv_iload_n hx hb dX16_put_3 rfl (lv_at hl 3 rfl) ?_
  refine lv_iload hx hb dX16_put_4 (lv_at hl 4 rfl) ?_
  refine lv_imul hx hb dX16_put_6 ?_
  refine lv_topi (fun z1 ez1 => ?_)
  obtain rfl : z1 = nI (n0 * m0) := ez1.trans (pk_mul n0 m0)
  refine lv_icmp_ne (tgt := 14) hx hb dX16_put_7 (by decide) (fun hc7 => ?_) (fun hc7 => ?_)
  · have hx2 : x < n0 * m0 := by have e : ¬ x = n0 * m0 := fun z => hc7 (by rw [z]); omega
    have hm0 : 0 < m0 := nn_h hx2
    have es1 : pS m0 (n0 * m0) x = nI (x / m0) := if_pos hx2
    refine lv_iload_n hx hb dX16_put_14 rfl (lv_at hl 2 rfl) ?_
    refine lv_iload hx hb dX16_put_15 (lv_at hl 4 rfl) ?_
    refine lv_idiv hx hb dX16_put_17 (nI_ne0 hm0 (by omega)) ?_
    refine lv_topi (fun z2 ez2 => ?_)
    obtain rfl : z2 = nI (x / m0) := ez2.trans (pk_div (by omega) hm0 (by omega))
    refine aStI (S := S) (t := 39) X w hV (by decide) rfl rfl ((show vp_in (nI q) (mN S 39 1) by rw [hN9]; exact nI_vp (Nat.lt_of_succ_lt hq) (by decide))) dX16_put_18 (fun H locs w => ?_)
    refine lv_aload_n hx hb dX16_put_19 rfl (lv_at hl 0 rfl) ?_
    refine lv_iload_n hx hb dX16_put_20 rfl (lv_at hl 1 rfl) ?_
    refine lv_iconst (v := 1) hx hb dX16_put_21 (by decide) ?_
    refine lv_iadd hx hb dX16_put_22 ?_
    refine lv_topi (fun z3 ez3 => ?_)
    obtain rfl : z3 = nI (q + 1) := ez3.trans (nI_1 _)
    refine lv_iload_n hx hb dX16_put_23 rfl (lv_at hl 2 rfl) ?_
    refine lv_iload_n hx hb dX16_put_24 rfl (lv_at hl 3 rfl) ?_
    refine lv_iload hx hb dX16_put_25 (lv_at hl 4 rfl) ?_
    refine lv_imul hx hb dX16_put_27 ?_
    refine lv_topi (fun z4 ez4 => ?_)
    obtain rfl : z4 = nI (n0 * m0) := ez4.trans (pk_mul n0 m0)
    refine lv_icmp_ne (tgt := 35) hx hb dX16_put_28 (by decide) (fun hc28 => ?_) (fun hc28 => ?_)
    · have hx2 : x < n0 * m0 := by have e : ¬ x = n0 * m0 := fun z => hc28 (by rw [z]); omega
      have hm0 : 0 < m0 := nn_h hx2
      have es2 : pM m0 (n0 * m0) x = nI (x % m0) := if_pos hx2
      refine lv_iload_n hx hb dX16_put_35 rfl (lv_at hl 2 rfl) ?_
      refine lv_iload hx hb dX16_put_36 (lv_at hl 4 rfl) ?_
      refine lv_irem hx hb dX16_put_38 (nI_ne0 hm0 (by omega)) ?_
      refine lv_topi (fun z5 ez5 => ?_)
      obtain rfl : z5 = nI (x % m0) := ez5.trans (pk_rem (by omega) hm0 (by omega))
      refine aStI (S := (sA S 39 1 (upd (mA S 39 1) (nI q).toNatClampNeg (nI (x / m0))))) (t := 39) X w hV (by decide) rfl rfl ((show vp_in (nI (q + 1)) (mN S 39 1) by rw [hN9]; exact nI_vp hq (by decide))) dX16_put_39 (fun H locs w => ?_)
      exact rV X w rfl dX16_put_40 (by decide) (by decide) (⟨rfl, put_eq hq es1 es2⟩)
    · have hx3 : x = n0 * m0 := (nI_eq (by omega) (by omega)).mp hc28
      have es2 : pM m0 (n0 * m0) x = -1 := if_neg (by omega)
      refine lv_iconst (v := (-1)) hx hb dX16_put_31 (by decide) ?_
      refine lv_goto (tgt := 39) hx hb dX16_put_32 (by decide) ?_
      refine aStI (S := (sA S 39 1 (upd (mA S 39 1) (nI q).toNatClampNeg (nI (x / m0))))) (t := 39) X w hV (by decide) rfl rfl ((show vp_in (nI (q + 1)) (mN S 39 1) by rw [hN9]; exact nI_vp hq (by decide))) dX16_put_39 (fun H locs w => ?_)
      exact rV X w rfl dX16_put_40 (by decide) (by decide) (⟨rfl, put_eq hq es1 es2⟩)
  · have hx3 : x = n0 * m0 := (nI_eq (by omega) (by omega)).mp hc7
    have es1 : pS m0 (n0 * m0) x = -1 := if_neg (by omega)
    refine lv_iconst (v := (-1)) hx hb dX16_put_10 (by decide) ?_
    refine lv_goto (tgt := 18) hx hb dX16_put_11 (by decide) ?_
    refine aStI (S := S) (t := 39) X w hV (by decide) rfl rfl ((show vp_in (nI q) (mN S 39 1) by rw [hN9]; exact nI_vp (Nat.lt_of_succ_lt hq) (by decide))) dX16_put_18 (fun H locs w => ?_)
    refine lv_aload_n hx hb dX16_put_19 rfl (lv_at hl 0 rfl) ?_
    refine lv_iload_n hx hb dX16_put_20 rfl (lv_at hl 1 rfl) ?_
    refine lv_iconst (v := 1) hx hb dX16_put_21 (by decide) ?_
    refine lv_iadd hx hb dX16_put_22 ?_
    refine lv_topi (fun z6 ez6 => ?_)
    obtain rfl : z6 = nI (q + 1) := ez6.trans (nI_1 _)
    refine lv_iload_n hx hb dX16_put_23 rfl (lv_at hl 2 rfl) ?_
    refine lv_iload_n hx hb dX16_put_24 rfl (lv_at hl 3 rfl) ?_
    refine lv_iload hx hb dX16_put_25 (lv_at hl 4 rfl) ?_
    refine lv_imul hx hb dX16_put_27 ?_
    refine lv_topi (fun z7 ez7 => ?_)
    obtain rfl : z7 = nI (n0 * m0) := ez7.trans (pk_mul n0 m0)
    refine lv_icmp_ne (tgt := 35) hx hb dX16_put_28 (by decide) (fun hc28 => ?_) (fun hc28 => ?_)
    · have hx2 : x < n0 * m0 := by have e : ¬ x = n0 * m0 := fun z => hc28 (by rw [z]); omega
      have hm0 : 0 < m0 := nn_h hx2
      have es2 : pM m0 (n0 * m0) x = nI (x % m0) := if_pos hx2
      refine lv_iload_n hx hb dX16_put_35 rfl (lv_at hl 2 rfl) ?_
      refine lv_iload hx hb dX16_put_36 (lv_at hl 4 rfl) ?_
      refine lv_irem hx hb dX16_put_38 (nI_ne0 hm0 (by omega)) ?_
      refine lv_topi (fun z8 ez8 => ?_)
      obtain rfl : z8 = nI (x % m0) := ez8.trans (pk_rem (by omega) hm0 (by omega))
      refine aStI (S := (sA S 39 1 (upd (mA S 39 1) (nI q).toNatClampNeg (-1)))) (t := 39) X w hV (by decide) rfl rfl ((show vp_in (nI (q + 1)) (mN S 39 1) by rw [hN9]; exact nI_vp hq (by decide))) dX16_put_39 (fun H locs w => ?_)
      exact rV X w rfl dX16_put_40 (by decide) (by decide) (⟨rfl, put_eq hq es1 es2⟩)
    · have hx3 : x = n0 * m0 := (nI_eq (by omega) (by omega)).mp hc28
      have es2 : pM m0 (n0 * m0) x = -1 := if_neg (by omega)
      refine lv_iconst (v := (-1)) hx hb dX16_put_31 (by decide) ?_
      refine lv_goto (tgt := 39) hx hb dX16_put_32 (by decide) ?_
      refine aStI (S := (sA S 39 1 (upd (mA S 39 1) (nI q).toNatClampNeg (-1)))) (t := 39) X w hV (by decide) rfl rfl ((show vp_in (nI (q + 1)) (mN S 39 1) by rw [hN9]; exact nI_vp hq (by decide))) dX16_put_39 (fun H locs w => ?_)
      exact rV X w rfl dX16_put_40 (by decide) (by decide) (⟨rfl, put_eq hq es1 es2⟩)

abbrev rm_r_X16_bestNow : Room := { frames := 6, cells := 2, slots := 48, locals := 137 }
set_option maxHeartbeats 4000000 in
set_option maxRecDepth 100000 in
theorem r_X16_bestNow {s0 : State} {l : Launch} {D : va_G} {cy : Nat → ClassId} (G : Gl s0 l D cy) (S : HS) (ea ns nj nm nt nr nq : Nat) (h : RI ea S ns nj nm nt nr nq) (at_ : Int32) (hT : ∀ x ∈ LB, ¬ vV S x.1 x.2) (A : HS) (hF : RF s0 S A nq nt) : Ctr s0 l D cy yX16_bestNow cX16_bestNow 10 (some (.array .int)) rm_r_X16_bestNow S [.ref (gG S 16 0), .int at_] (fun v S' => some (.ref (gG S' 39 1)) = v ∧ RI ea S' ns nj nm nt nr nq ∧ Kq (hvT LB) hNo hNo S S' ∧ vV S' 39 1 ∧ mN S' 39 1 = 7 ∧ ∀ j, j < 7 → mA S' 39 1 j = rBw (bQ A ns nj nm at_) j) := by
  refine pro "CavershamShiftModel" G rfl rfl (Nat.le_of_ble_eq_true rfl) (fun p e s m below meth c ls X w hnm hl => ?_)
  have hx := X.1
  have hb := X.2.1
  have hown := X.2.2.2.1
  have hts := X.2.2.2.2.1
  have hl : lv_has ls 10 [(0, .ref (gG S 16 0)), (1, .int at_)] := hl
  have h0 := h
  have hK : Kq (hvT LB) hNo hNo S S := Kq.rf
  have nv39_1 : ¬ vV S 39 1 := hT (39, 1) (by decide)
  have nv39_2 : ¬ vV S 39 2 := hT (39, 2) (by decide)
  have hnm : ns * nm ≤ 40 := Nat.mul_le_mul h.b_st h.b_mo
  obtain ⟨nn, hnn⟩ : ∃ nn, nn = ns * nm := ⟨_, rfl⟩
  rw [← hnn] at hnm
  refine lv_aload_n hx hb dX16_bestNow_0 rfl (lv_at hl 0 rfl) ?_
  refine g_16_6 (S := S) (x := (some (gG S 17 6))) X w h.v wF_X16_16 (h.f_st) dX16_bestNow_1 ?_
  refine cF (S := S) (t := 17) (nA := 0) (As := []) (rest := []) X w hl h.l_st.1 (m_size G S ea 6 ns h.l_st) wY_Jx4a65c_size_8abf5 wM_X16_73 wIn_Jx4a65c_size_8abf5 wSe_Jx4a65c_Jx4a65c_size_8abf5_of_java_util_List_size___I wI_Jx4a65c fw_size (by decide) rfl (by decide +kernel) rfl rfl dX16_bestNow_4 ⟨by decide, by decide⟩ (Nat.le_of_ble_eq_true rfl) (⟨Nat.le_of_ble_eq_true rfl, Nat.le_of_ble_eq_true rfl⟩) (fun v1 S1 H locs hp w => ?_)
  obtain ⟨rfl, rfl⟩ := hp
  refine lv_istore_n (lv' := [(2, .int (nI ns)), (0, .ref (gG S 16 0)), (1, .int at_)]) hx hb dX16_bestNow_9 rfl hl (by decide) rfl (fun ls hl => ?_)
  refine lv_aload_n hx hb dX16_bestNow_10 rfl (lv_at hl 1 rfl) ?_
  refine g_16_8 (S := S) (x := (some (gG S 17 8))) X w h.v wF_X16_23 (h.f_mo) dX16_bestNow_11 ?_
  refine cF (S := S) (t := 17) (nA := 0) (As := []) (rest := []) X w hl h.l_mo.1 (m_size G S ea 8 nm h.l_mo) wY_Jx4a65c_size_8abf5 wM_X16_73 wIn_Jx4a65c_size_8abf5 wSe_Jx4a65c_Jx4a65c_size_8abf5_of_java_util_List_size___I wI_Jx4a65c fw_size (by decide) rfl (by decide +kernel) rfl rfl dX16_bestNow_14 ⟨by decide, by decide⟩ (Nat.le_of_ble_eq_true rfl) (⟨Nat.le_of_ble_eq_true rfl, Nat.le_of_ble_eq_true rfl⟩) (fun v2 S1 H locs hp w => ?_)
  obtain ⟨rfl, rfl⟩ := hp
  refine lv_istore_n (lv' := [(3, .int (nI nm)), (2, .int (nI ns)), (0, .ref (gG S 16 0)), (1, .int at_)]) hx hb dX16_bestNow_19 rfl hl (by decide) rfl (fun ls hl => ?_)
  refine lv_iload_n hx hb dX16_bestNow_20 rfl (lv_at hl 1 rfl) ?_
  refine lv_iload_n hx hb dX16_bestNow_21 rfl (lv_at hl 0 rfl) ?_
  refine lv_imul hx hb dX16_bestNow_22 ?_
  refine lv_topi (fun z3 ez3 => ?_)
  obtain rfl : z3 = nI nn := ez3.trans (by rw [pk_mul, ← hnn])
  refine lv_iconst (v := 1) hx hb dX16_bestNow_23 (by decide) ?_
  refine lv_iadd hx hb dX16_bestNow_24 ?_
  refine lv_topi (fun z4 ez4 => ?_)
  obtain rfl : z4 = nI (nn + 1) := ez4.trans (nI_1 _)
  refine nwI (S := S) (atype := .int) (ty := .int) (n := (nn + 1)) X w 39 2 (nv39_2) (by decide) rfl rfl (Or.inl ⟨rfl, rfl⟩) wA_int (rfl) (by omega) dX16_bestNow_25 (Nat.le_of_ble_eq_true rfl) (show 0 + (nn + 1) ≤ 48 by omega) (fun q39_2 S2 H hS2 w => ?_)
  subst hS2
  have v39_2 : vV (sArr S 39 2 q39_2 (nn + 1)) 39 2 := Or.inr ⟨rfl, rfl⟩
  have n39_2 : mN (sArr S 39 2 q39_2 (nn + 1)) 39 2 = (nn + 1) := rfl
  have e39_2 : gG (sArr S 39 2 q39_2 (nn + 1)) 39 2 = q39_2 := rfl
  have h : RI ea (sArr S 39 2 q39_2 (nn + 1)) ns nj nm nt nr nq := h.arr (by decide)
  have hK : Kq (hvT LB) hNo hNo S (sArr S 39 2 q39_2 (nn + 1)) := hK.arr rfl
  have nv39_1 : ¬ vV (sArr S 39 2 q39_2 (nn + 1)) 39 1 := fun z => z.elim nv39_1 (fun z => absurd z (by decide))
  refine lv_astore (lv' := [(4, .ref (gG (sArr S 39 2 q39_2 (nn + 1)) 39 2)), (3, .int (nI nm)), (2, .int (nI ns)), (0, .ref (gG S 16 0)), (1, .int at_)]) hx hb dX16_bestNow_27 hl (by decide) rfl (fun ls hl => ?_)
  refine lv_iconst (v := 0) hx hb dX16_bestNow_29 (by decide) ?_
  refine lv_istore (lv' := [(5, .int 0), (4, .ref (gG (sArr S 39 2 q39_2 (nn + 1)) 39 2)), (3, .int (nI nm)), (2, .int (nI ns)), (0, .ref (gG S 16 0)), (1, .int at_)]) hx hb dX16_bestNow_30 hl (by decide) rfl (fun ls hl => ?_)
  have L32 : ∀ (N : Nat) (k32 : Nat) (T32 : HS) (H : Heap) (locs : List Loc) (ls : Array Slot), nn - k32 < N → (k32 ≤ nn) → (∀ q, mA T32 39 2 q = if q < k32 then nI (rQ (bQ A ns nj nm at_) nm nn q) else 0) → (RI ea T32 ns nj nm nt nr nq) → (Kq (hvT LB) hNo hNo S T32) → (¬ vV T32 39 1) → (vV T32 39 2) → (mN T32 39 2 = (nn + 1)) → (gG T32 39 2 = q39_2) → Wd s0 D cy T32 s.heap H locs → lv_has ls 10 [(5, .int (nI k32)), (4, .ref (gG (sArr S 39 2 q39_2 (nn + 1)) 39 2)), (3, .int (nI nm)), (2, .int (nI ns)), (0, .ref (gG S 16 0)), (1, .int at_)] → W p l e rm_r_X16_bestNow s m ([.ref (gG S 16 0), .int at_] : List Value).toArray below meth c H locs (0 + 1) (0 + (nn + 1)) (MQ below (GQ s0 D cy (fun v S' => some (.ref (gG S' 39 1)) = v ∧ RI ea S' ns nj nm nt nr nq ∧ Kq (hvT LB) hNo hNo S S' ∧ vV S' 39 1 ∧ mN S' 39 1 = 7 ∧ ∀ j, j < 7 → mA S' 39 1 j = rBw (bQ A ns nj nm at_) j)) ([.ref (gG S 16 0), .int at_] : List Value).toArray s rm_r_X16_bestNow.cells rm_r_X16_bestNow.slots (A0 s0)) (F0 m 32 ls []) := by
    clear nv39_1 v39_2 n39_2 e39_2
    intro N
    induction N with
    | zero => intros; omega
    | succ N ih32 =>
      intro k32 T32 H locs ls hmu hk_k32 hq2 h hK_T32 nv39_1 v39_2 n39_2 e39_2 w hl
      have hK := hK_T32
      refine lv_iload hx hb dX16_bestNow_32 (lv_at hl 0 rfl) ?_
      refine lv_iload_n hx hb dX16_bestNow_34 rfl (lv_at hl 3 rfl) ?_
      refine lv_iload_n hx hb dX16_bestNow_35 rfl (lv_at hl 2 rfl) ?_
      refine lv_imul hx hb dX16_bestNow_36 ?_
      refine lv_topi (fun z5 ez5 => ?_)
      obtain rfl : z5 = nI nn := ez5.trans (by rw [pk_mul, ← hnn])
      refine lv_icmp_ge (tgt := 64) hx hb dX16_bestNow_37 (by decide) (fun hc_k32 => ?_) (fun hc_k32 => ?_)
      · have hge_k32 : nn ≤ k32 := by
          skip
          exact (nI_leI (a := nn) (b := k32) (by omega) (by omega)).mp hc_k32
        have hq2 : ∀ q, mA T32 39 2 q = nI (rQ (bQ A ns nj nm at_) nm nn q) := fun q => by
          rw [hq2 q]
          by_cases e : q < k32
          · rw [if_pos e]
          · rw [if_neg e]; exact (show (0 : Int32) = nI 0 from rfl).trans (congrArg nI (if_neg (show ¬ q < nn by omega))).symm
        have hr0 : ∀ j, j < 0 → mA T32 39 1 j = rR nm nn 0 nn nn nn j := fun j hj => absurd hj (Nat.not_lt_zero j)
        refine lv_bipush (v := 7) hx hb dX16_bestNow_64 (by decide) ?_
        refine nwI (S := T32) (atype := .int) (ty := .int) (n := 7) X w 39 1 (nv39_1) (by decide) rfl rfl (Or.inl ⟨rfl, rfl⟩) wA_int (rfl) (by decide) dX16_bestNow_66 (Nat.le_of_ble_eq_true rfl) (show 0 + (nn + 1) + 7 ≤ 48 by omega) (fun q39_1 S2 H hS2 w => ?_)
        subst hS2
        have v39_1 : vV (sArr T32 39 1 q39_1 7) 39 1 := Or.inr ⟨rfl, rfl⟩
        have n39_1 : mN (sArr T32 39 1 q39_1 7) 39 1 = 7 := rfl
        have e39_1 : gG (sArr T32 39 1 q39_1 7) 39 1 = q39_1 := rfl
        have v39_2 : vV (sArr T32 39 1 q39_1 7) 39 2 := Or.inl v39_2
        have n39_2 : mN (sArr T32 39 1 q39_1 7) 39 2 = (nn + 1) := n39_2
        have e39_2 : gG (sArr T32 39 1 q39_1 7) 39 2 = q39_2 := e39_2
        have h : RI ea (sArr T32 39 1 q39_1 7) ns nj nm nt nr nq := h.arr (by decide)
        have hK : Kq (hvT LB) hNo hNo S (sArr T32 39 1 q39_1 7) := hK.arr rfl
        refine lv_dup hx hb dX16_bestNow_68 rfl ?_
        refine lv_iconst (v := 0) hx hb dX16_bestNow_69 (by decide) ?_
        refine lv_iconst (v := 0) hx hb dX16_bestNow_70 (by decide) ?_
        refine aStI (S := (sArr T32 39 1 q39_1 7)) (t := 39) X w v39_1 (by decide) rfl rfl (by rw [n39_1]; unfold vp_in; decide) dX16_bestNow_71 (fun H locs w => ?_)
        have h : RI ea (sA (sArr T32 39 1 q39_1 7) 39 1 (upd (mA (sArr T32 39 1 q39_1 7) 39 1) (0 : Int32).toNatClampNeg 0)) ns nj nm nt nr nq := h.stA (by decide)
        have hK : Kq (hvT LB) hNo hNo S (sA (sArr T32 39 1 q39_1 7) 39 1 (upd (mA (sArr T32 39 1 q39_1 7) 39 1) (0 : Int32).toNatClampNeg 0)) := hK.sA rfl
        have hr0 : ∀ j, j < 1 → mA (sA (sArr T32 39 1 q39_1 7) 39 1 (upd (mA (sArr T32 39 1 q39_1 7) 39 1) (0 : Int32).toNatClampNeg 0)) 39 1 j = rR nm nn 0 nn nn nn j := fun j hj => by
          rw [show mA (sA (sArr T32 39 1 q39_1 7) 39 1 (upd (mA (sArr T32 39 1 q39_1 7) 39 1) (0 : Int32).toNatClampNeg 0)) 39 1 = upd (mA (sArr T32 39 1 q39_1 7) 39 1) (0 : Int32).toNatClampNeg 0 from sA_s, show (0 : Int32).toNatClampNeg = 0 by decide]
          by_cases d : j = 0
          · rw [d, upd_s]; exact rfl
          · rw [upd_o d]; first | exact hr0 j (by omega) | (exfalso; omega)
        obtain ⟨U6, h, hK_U6, v39_2', n39_2', e39_2', hq2', v39_1', n39_1', e39_1', hr0', w⟩ : ∃ U6 : HS, (RI ea U6 ns nj nm nt nr nq) ∧ (Kq (hvT LB) hNo hNo S U6) ∧ (vV U6 39 2) ∧ (mN U6 39 2 = (nn + 1)) ∧ (gG U6 39 2 = q39_2) ∧ (∀ q, mA U6 39 2 q = nI (rQ (bQ A ns nj nm at_) nm nn q)) ∧ (vV U6 39 1) ∧ (mN U6 39 1 = 7) ∧ (gG U6 39 1 = q39_1) ∧ (∀ j, j < 1 → mA U6 39 1 j = rR nm nn 0 nn nn nn j) ∧ Wd s0 D cy U6 s.heap H locs := ⟨_, h, hK, v39_2, n39_2, e39_2, hq2, v39_1, n39_1, e39_1, hr0, w⟩
        clear v39_2 n39_2 e39_2 hq2 v39_1 n39_1 e39_1 hr0
        have v39_2 := v39_2'; clear v39_2'
        have n39_2 := n39_2'; clear n39_2'
        have e39_2 := e39_2'; clear e39_2'
        have hq2 := hq2'; clear hq2'
        have v39_1 := v39_1'; clear v39_1'
        have n39_1 := n39_1'; clear n39_1'
        have e39_1 := e39_1'; clear e39_1'
        have hr0 := hr0'; clear hr0'
        have hK := hK_U6
        refine lv_dup hx hb dX16_bestNow_72 rfl ?_
        refine lv_iconst (v := 1) hx hb dX16_bestNow_73 (by decide) ?_
        refine lv_iconst (v := (-1)) hx hb dX16_bestNow_74 (by decide) ?_
        refine rE2 ((show gG (sArr T32 39 1 q39_1 7) 39 1 = q39_1 from rfl).trans e39_1.symm) ?_
        refine aStI (S := U6) (t := 39) X w v39_1 (by decide) rfl rfl (by rw [n39_1]; unfold vp_in; decide) dX16_bestNow_75 (fun H locs w => ?_)
        have h : RI ea (sA U6 39 1 (upd (mA U6 39 1) (1 : Int32).toNatClampNeg (-1))) ns nj nm nt nr nq := h.stA (by decide)
        have hK : Kq (hvT LB) hNo hNo S (sA U6 39 1 (upd (mA U6 39 1) (1 : Int32).toNatClampNeg (-1))) := hK.sA rfl
        have hr0 : ∀ j, j < 2 → mA (sA U6 39 1 (upd (mA U6 39 1) (1 : Int32).toNatClampNeg (-1))) 39 1 j = rR nm nn 0 nn nn nn j := fun j hj => by
          rw [show mA (sA U6 39 1 (upd (mA U6 39 1) (1 : Int32).toNatClampNeg (-1))) 39 1 = upd (mA U6 39 1) (1 : Int32).toNatClampNeg (-1) from sA_s, show (1 : Int32).toNatClampNeg = 1 by decide]
          by_cases d : j = 1
          · rw [d, upd_s]; exact (rR_0 1 (by decide)).symm
          · rw [upd_o d]; first | exact hr0 j (by omega) | (exfalso; omega)
        obtain ⟨U7, h, hK_U7, v39_2', n39_2', e39_2', hq2', v39_1', n39_1', e39_1', hr0', w⟩ : ∃ U7 : HS, (RI ea U7 ns nj nm nt nr nq) ∧ (Kq (hvT LB) hNo hNo S U7) ∧ (vV U7 39 2) ∧ (mN U7 39 2 = (nn + 1)) ∧ (gG U7 39 2 = q39_2) ∧ (∀ q, mA U7 39 2 q = nI (rQ (bQ A ns nj nm at_) nm nn q)) ∧ (vV U7 39 1) ∧ (mN U7 39 1 = 7) ∧ (gG U7 39 1 = q39_1) ∧ (∀ j, j < 2 → mA U7 39 1 j = rR nm nn 0 nn nn nn j) ∧ Wd s0 D cy U7 s.heap H locs := ⟨_, h, hK, v39_2, n39_2, e39_2, hq2, v39_1, n39_1, e39_1, hr0, w⟩
        clear v39_2 n39_2 e39_2 hq2 v39_1 n39_1 e39_1 hr0
        have v39_2 := v39_2'; clear v39_2'
        have n39_2 := n39_2'; clear n39_2'
        have e39_2 := e39_2'; clear e39_2'
        have hq2 := hq2'; clear hq2'
        have v39_1 := v39_1'; clear v39_1'
        have n39_1 := n39_1'; clear n39_1'
        have e39_1 := e39_1'; clear e39_1'
        have hr0 := hr0'; clear hr0'
        have hK := hK_U7
        refine lv_dup hx hb dX16_bestNow_76 rfl ?_
        refine lv_iconst (v := 2) hx hb dX16_bestNow_77 (by decide) ?_
        refine lv_iconst (v := (-1)) hx hb dX16_bestNow_78 (by decide) ?_
        refine rE2 ((show gG (sArr T32 39 1 q39_1 7) 39 1 = q39_1 from rfl).trans e39_1.symm) ?_
        refine aStI (S := U7) (t := 39) X w v39_1 (by decide) rfl rfl (by rw [n39_1]; unfold vp_in; decide) dX16_bestNow_79 (fun H locs w => ?_)
        have h : RI ea (sA U7 39 1 (upd (mA U7 39 1) (2 : Int32).toNatClampNeg (-1))) ns nj nm nt nr nq := h.stA (by decide)
        have hK : Kq (hvT LB) hNo hNo S (sA U7 39 1 (upd (mA U7 39 1) (2 : Int32).toNatClampNeg (-1))) := hK.sA rfl
        have hr0 : ∀ j, j < 3 → mA (sA U7 39 1 (upd (mA U7 39 1) (2 : Int32).toNatClampNeg (-1))) 39 1 j = rR nm nn 0 nn nn nn j := fun j hj => by
          rw [show mA (sA U7 39 1 (upd (mA U7 39 1) (2 : Int32).toNatClampNeg (-1))) 39 1 = upd (mA U7 39 1) (2 : Int32).toNatClampNeg (-1) from sA_s, show (2 : Int32).toNatClampNeg = 2 by decide]
          by_cases d : j = 2
          · rw [d, upd_s]; exact (rR_0 2 (by decide)).symm
          · rw [upd_o d]; first | exact hr0 j (by omega) | (exfalso; omega)
        obtain ⟨U8, h, hK_U8, v39_2', n39_2', e39_2', hq2', v39_1', n39_1', e39_1', hr0', w⟩ : ∃ U8 : HS, (RI ea U8 ns nj nm nt nr nq) ∧ (Kq (hvT LB) hNo hNo S U8) ∧ (vV U8 39 2) ∧ (mN U8 39 2 = (nn + 1)) ∧ (gG U8 39 2 = q39_2) ∧ (∀ q, mA U8 39 2 q = nI (rQ (bQ A ns nj nm at_) nm nn q)) ∧ (vV U8 39 1) ∧ (mN U8 39 1 = 7) ∧ (gG U8 39 1 = q39_1) ∧ (∀ j, j < 3 → mA U8 39 1 j = rR nm nn 0 nn nn nn j) ∧ Wd s0 D cy U8 s.heap H locs := ⟨_, h, hK, v39_2, n39_2, e39_2, hq2, v39_1, n39_1, e39_1, hr0, w⟩
        clear v39_2 n39_2 e39_2 hq2 v39_1 n39_1 e39_1 hr0
        have v39_2 := v39_2'; clear v39_2'
        have n39_2 := n39_2'; clear n39_2'
        have e39_2 := e39_2'; clear e39_2'
        have hq2 := hq2'; clear hq2'
        have v39_1 := v39_1'; clear v39_1'
        have n39_1 := n39_1'; clear n39_1'
        have e39_1 := e39_1'; clear e39_1'
        have hr0 := hr0'; clear hr0'
        have hK := hK_U8
        refine lv_dup hx hb dX16_bestNow_80 rfl ?_
        refine lv_iconst (v := 3) hx hb dX16_bestNow_81 (by decide) ?_
        refine lv_iconst (v := (-1)) hx hb dX16_bestNow_82 (by decide) ?_
        refine rE2 ((show gG (sArr T32 39 1 q39_1 7) 39 1 = q39_1 from rfl).trans e39_1.symm) ?_
        refine aStI (S := U8) (t := 39) X w v39_1 (by decide) rfl rfl (by rw [n39_1]; unfold vp_in; decide) dX16_bestNow_83 (fun H locs w => ?_)
        have h : RI ea (sA U8 39 1 (upd (mA U8 39 1) (3 : Int32).toNatClampNeg (-1))) ns nj nm nt nr nq := h.stA (by decide)
        have hK : Kq (hvT LB) hNo hNo S (sA U8 39 1 (upd (mA U8 39 1) (3 : Int32).toNatClampNeg (-1))) := hK.sA rfl
        have hr0 : ∀ j, j < 4 → mA (sA U8 39 1 (upd (mA U8 39 1) (3 : Int32).toNatClampNeg (-1))) 39 1 j = rR nm nn 0 nn nn nn j := fun j hj => by
          rw [show mA (sA U8 39 1 (upd (mA U8 39 1) (3 : Int32).toNatClampNeg (-1))) 39 1 = upd (mA U8 39 1) (3 : Int32).toNatClampNeg (-1) from sA_s, show (3 : Int32).toNatClampNeg = 3 by decide]
          by_cases d : j = 3
          · rw [d, upd_s]; exact (rR_0 3 (by decide)).symm
          · rw [upd_o d]; first | exact hr0 j (by omega) | (exfalso; omega)
        obtain ⟨U9, h, hK_U9, v39_2', n39_2', e39_2', hq2', v39_1', n39_1', e39_1', hr0', w⟩ : ∃ U9 : HS, (RI ea U9 ns nj nm nt nr nq) ∧ (Kq (hvT LB) hNo hNo S U9) ∧ (vV U9 39 2) ∧ (mN U9 39 2 = (nn + 1)) ∧ (gG U9 39 2 = q39_2) ∧ (∀ q, mA U9 39 2 q = nI (rQ (bQ A ns nj nm at_) nm nn q)) ∧ (vV U9 39 1) ∧ (mN U9 39 1 = 7) ∧ (gG U9 39 1 = q39_1) ∧ (∀ j, j < 4 → mA U9 39 1 j = rR nm nn 0 nn nn nn j) ∧ Wd s0 D cy U9 s.heap H locs := ⟨_, h, hK, v39_2, n39_2, e39_2, hq2, v39_1, n39_1, e39_1, hr0, w⟩
        clear v39_2 n39_2 e39_2 hq2 v39_1 n39_1 e39_1 hr0
        have v39_2 := v39_2'; clear v39_2'
        have n39_2 := n39_2'; clear n39_2'
        have e39_2 := e39_2'; clear e39_2'
        have hq2 := hq2'; clear hq2'
        have v39_1 := v39_1'; clear v39_1'
        have n39_1 := n39_1'; clear n39_1'
        have e39_1 := e39_1'; clear e39_1'
        have hr0 := hr0'; clear hr0'
        have hK := hK_U9
        refine lv_dup hx hb dX16_bestNow_84 rfl ?_
        refine lv_iconst (v := 4) hx hb dX16_bestNow_85 (by decide) ?_
        refine lv_iconst (v := (-1)) hx hb dX16_bestNow_86 (by decide) ?_
        refine rE2 ((show gG (sArr T32 39 1 q39_1 7) 39 1 = q39_1 from rfl).trans e39_1.symm) ?_
        refine aStI (S := U9) (t := 39) X w v39_1 (by decide) rfl rfl (by rw [n39_1]; unfold vp_in; decide) dX16_bestNow_87 (fun H locs w => ?_)
        have h : RI ea (sA U9 39 1 (upd (mA U9 39 1) (4 : Int32).toNatClampNeg (-1))) ns nj nm nt nr nq := h.stA (by decide)
        have hK : Kq (hvT LB) hNo hNo S (sA U9 39 1 (upd (mA U9 39 1) (4 : Int32).toNatClampNeg (-1))) := hK.sA rfl
        have hr0 : ∀ j, j < 5 → mA (sA U9 39 1 (upd (mA U9 39 1) (4 : Int32).toNatClampNeg (-1))) 39 1 j = rR nm nn 0 nn nn nn j := fun j hj => by
          rw [show mA (sA U9 39 1 (upd (mA U9 39 1) (4 : Int32).toNatClampNeg (-1))) 39 1 = upd (mA U9 39 1) (4 : Int32).toNatClampNeg (-1) from sA_s, show (4 : Int32).toNatClampNeg = 4 by decide]
          by_cases d : j = 4
          · rw [d, upd_s]; exact (rR_0 4 (by decide)).symm
          · rw [upd_o d]; first | exact hr0 j (by omega) | (exfalso; omega)
        obtain ⟨U10, h, hK_U10, v39_2', n39_2', e39_2', hq2', v39_1', n39_1', e39_1', hr0', w⟩ : ∃ U10 : HS, (RI ea U10 ns nj nm nt nr nq) ∧ (Kq (hvT LB) hNo hNo S U10) ∧ (vV U10 39 2) ∧ (mN U10 39 2 = (nn + 1)) ∧ (gG U10 39 2 = q39_2) ∧ (∀ q, mA U10 39 2 q = nI (rQ (bQ A ns nj nm at_) nm nn q)) ∧ (vV U10 39 1) ∧ (mN U10 39 1 = 7) ∧ (gG U10 39 1 = q39_1) ∧ (∀ j, j < 5 → mA U10 39 1 j = rR nm nn 0 nn nn nn j) ∧ Wd s0 D cy U10 s.heap H locs := ⟨_, h, hK, v39_2, n39_2, e39_2, hq2, v39_1, n39_1, e39_1, hr0, w⟩
        clear v39_2 n39_2 e39_2 hq2 v39_1 n39_1 e39_1 hr0
        have v39_2 := v39_2'; clear v39_2'
        have n39_2 := n39_2'; clear n39_2'
        have e39_2 := e39_2'; clear e39_2'
        have hq2 := hq2'; clear hq2'
        have v39_1 := v39_1'; clear v39_1'
        have n39_1 := n39_1'; clear n39_1'
        have e39_1 := e39_1'; clear e39_1'
        have hr0 := hr0'; clear hr0'
        have hK := hK_U10
        refine lv_dup hx hb dX16_bestNow_88 rfl ?_
        refine lv_iconst (v := 5) hx hb dX16_bestNow_89 (by decide) ?_
        refine lv_iconst (v := (-1)) hx hb dX16_bestNow_90 (by decide) ?_
        refine rE2 ((show gG (sArr T32 39 1 q39_1 7) 39 1 = q39_1 from rfl).trans e39_1.symm) ?_
        refine aStI (S := U10) (t := 39) X w v39_1 (by decide) rfl rfl (by rw [n39_1]; unfold vp_in; decide) dX16_bestNow_91 (fun H locs w => ?_)
        have h : RI ea (sA U10 39 1 (upd (mA U10 39 1) (5 : Int32).toNatClampNeg (-1))) ns nj nm nt nr nq := h.stA (by decide)
        have hK : Kq (hvT LB) hNo hNo S (sA U10 39 1 (upd (mA U10 39 1) (5 : Int32).toNatClampNeg (-1))) := hK.sA rfl
        have hr0 : ∀ j, j < 6 → mA (sA U10 39 1 (upd (mA U10 39 1) (5 : Int32).toNatClampNeg (-1))) 39 1 j = rR nm nn 0 nn nn nn j := fun j hj => by
          rw [show mA (sA U10 39 1 (upd (mA U10 39 1) (5 : Int32).toNatClampNeg (-1))) 39 1 = upd (mA U10 39 1) (5 : Int32).toNatClampNeg (-1) from sA_s, show (5 : Int32).toNatClampNeg = 5 by decide]
          by_cases d : j = 5
          · rw [d, upd_s]; exact (rR_0 5 (by decide)).symm
          · rw [upd_o d]; first | exact hr0 j (by omega) | (exfalso; omega)
        obtain ⟨U11, h, hK_U11, v39_2', n39_2', e39_2', hq2', v39_1', n39_1', e39_1', hr0', w⟩ : ∃ U11 : HS, (RI ea U11 ns nj nm nt nr nq) ∧ (Kq (hvT LB) hNo hNo S U11) ∧ (vV U11 39 2) ∧ (mN U11 39 2 = (nn + 1)) ∧ (gG U11 39 2 = q39_2) ∧ (∀ q, mA U11 39 2 q = nI (rQ (bQ A ns nj nm at_) nm nn q)) ∧ (vV U11 39 1) ∧ (mN U11 39 1 = 7) ∧ (gG U11 39 1 = q39_1) ∧ (∀ j, j < 6 → mA U11 39 1 j = rR nm nn 0 nn nn nn j) ∧ Wd s0 D cy U11 s.heap H locs := ⟨_, h, hK, v39_2, n39_2, e39_2, hq2, v39_1, n39_1, e39_1, hr0, w⟩
        clear v39_2 n39_2 e39_2 hq2 v39_1 n39_1 e39_1 hr0
        have v39_2 := v39_2'; clear v39_2'
        have n39_2 := n39_2'; clear n39_2'
        have e39_2 := e39_2'; clear e39_2'
        have hq2 := hq2'; clear hq2'
        have v39_1 := v39_1'; clear v39_1'
        have n39_1 := n39_1'; clear n39_1'
        have e39_1 := e39_1'; clear e39_1'
        have hr0 := hr0'; clear hr0'
        have hK := hK_U11
        refine lv_dup hx hb dX16_bestNow_92 rfl ?_
        refine lv_bipush (v := 6) hx hb dX16_bestNow_93 (by decide) ?_
        refine lv_iconst (v := (-1)) hx hb dX16_bestNow_95 (by decide) ?_
        refine rE2 ((show gG (sArr T32 39 1 q39_1 7) 39 1 = q39_1 from rfl).trans e39_1.symm) ?_
        refine aStI (S := U11) (t := 39) X w v39_1 (by decide) rfl rfl (by rw [n39_1]; unfold vp_in; decide) dX16_bestNow_96 (fun H locs w => ?_)
        have h : RI ea (sA U11 39 1 (upd (mA U11 39 1) (6 : Int32).toNatClampNeg (-1))) ns nj nm nt nr nq := h.stA (by decide)
        have hK : Kq (hvT LB) hNo hNo S (sA U11 39 1 (upd (mA U11 39 1) (6 : Int32).toNatClampNeg (-1))) := hK.sA rfl
        have hr0 : ∀ j, j < 7 → mA (sA U11 39 1 (upd (mA U11 39 1) (6 : Int32).toNatClampNeg (-1))) 39 1 j = rR nm nn 0 nn nn nn j := fun j hj => by
          rw [show mA (sA U11 39 1 (upd (mA U11 39 1) (6 : Int32).toNatClampNeg (-1))) 39 1 = upd (mA U11 39 1) (6 : Int32).toNatClampNeg (-1) from sA_s, show (6 : Int32).toNatClampNeg = 6 by decide]
          by_cases d : j = 6
          · rw [d, upd_s]; exact (rR_0 6 (by decide)).symm
          · rw [upd_o d]; first | exact hr0 j (by omega) | (exfalso; omega)
        obtain ⟨U12, h, hK_U12, v39_2', n39_2', e39_2', hq2', v39_1', n39_1', e39_1', hr0', w⟩ : ∃ U12 : HS, (RI ea U12 ns nj nm nt nr nq) ∧ (Kq (hvT LB) hNo hNo S U12) ∧ (vV U12 39 2) ∧ (mN U12 39 2 = (nn + 1)) ∧ (gG U12 39 2 = q39_2) ∧ (∀ q, mA U12 39 2 q = nI (rQ (bQ A ns nj nm at_) nm nn q)) ∧ (vV U12 39 1) ∧ (mN U12 39 1 = 7) ∧ (gG U12 39 1 = q39_1) ∧ (∀ j, j < 7 → mA U12 39 1 j = rR nm nn 0 nn nn nn j) ∧ Wd s0 D cy U12 s.heap H locs := ⟨_, h, hK, v39_2, n39_2, e39_2, hq2, v39_1, n39_1, e39_1, hr0, w⟩
        clear v39_2 n39_2 e39_2 hq2 v39_1 n39_1 e39_1 hr0
        have v39_2 := v39_2'; clear v39_2'
        have n39_2 := n39_2'; clear n39_2'
        have e39_2 := e39_2'; clear e39_2'
        have hq2 := hq2'; clear hq2'
        have v39_1 := v39_1'; clear v39_1'
        have n39_1 := n39_1'; clear n39_1'
        have e39_1 := e39_1'; clear e39_1'
        have hr0 := hr0'; clear hr0'
        have hK := hK_U12
        refine lv_astore (lv' := [(5, .ref (gG (sArr T32 39 1 q39_1 7) 39 1)), (4, .ref (gG (sArr S 39 2 q39_2 (nn + 1)) 39 2)), (3, .int (nI nm)), (2, .int (nI ns)), (0, .ref (gG S 16 0)), (1, .int at_)]) hx hb dX16_bestNow_97 hl (by decide) rfl (fun ls hl => ?_)
        have hB : BI (bQ A ns nj nm at_) nm nn 0 nn nn nn 0 0 0 := BI.start
        have hg54 : 0 ≤ 54 := Nat.zero_le _
        have hrow := hr0
        refine lv_iconst (v := 0) hx hb dX16_bestNow_99 (by decide) ?_
        refine lv_istore (lv' := [(6, .int 0), (5, .ref (gG (sArr T32 39 1 q39_1 7) 39 1)), (4, .ref (gG (sArr S 39 2 q39_2 (nn + 1)) 39 2)), (3, .int (nI nm)), (2, .int (nI ns)), (0, .ref (gG S 16 0)), (1, .int at_)]) hx hb dX16_bestNow_100 hl (by decide) rfl (fun ls hl => ?_)
        have L102 : ∀ (N : Nat) (k102 : Nat) (g102 : Nat) (ta102 : Nat) (tb102 : Nat) (tc102 : Nat) (T102 : HS) (H : Heap) (locs : List Loc) (ls : Array Slot), nn + 1 - k102 < N → (k102 ≤ nn + 1) → (BI (bQ A ns nj nm at_) nm nn g102 ta102 tb102 tc102 k102 0 0) → (∀ j, j < 7 → mA T102 39 1 j = rR nm nn g102 ta102 tb102 tc102 j) → (g102 ≤ 54) → (RI ea T102 ns nj nm nt nr nq) → (Kq (hvT LB) hNo hNo S T102) → (vV T102 39 2) → (mN T102 39 2 = (nn + 1)) → (gG T102 39 2 = q39_2) → (∀ q, mA T102 39 2 q = nI (rQ (bQ A ns nj nm at_) nm nn q)) → (vV T102 39 1) → (mN T102 39 1 = 7) → (gG T102 39 1 = q39_1) → Wd s0 D cy T102 s.heap H locs → lv_has ls 10 [(6, .int (nI k102)), (5, .ref (gG (sArr T32 39 1 q39_1 7) 39 1)), (4, .ref (gG (sArr S 39 2 q39_2 (nn + 1)) 39 2)), (3, .int (nI nm)), (2, .int (nI ns)), (0, .ref (gG S 16 0)), (1, .int at_)] → W p l e rm_r_X16_bestNow s m ([.ref (gG S 16 0), .int at_] : List Value).toArray below meth c H locs (0 + 1 + 1) (0 + (nn + 1) + 7) (MQ below (GQ s0 D cy (fun v S' => some (.ref (gG S' 39 1)) = v ∧ RI ea S' ns nj nm nt nr nq ∧ Kq (hvT LB) hNo hNo S S' ∧ vV S' 39 1 ∧ mN S' 39 1 = 7 ∧ ∀ j, j < 7 → mA S' 39 1 j = rBw (bQ A ns nj nm at_) j)) ([.ref (gG S 16 0), .int at_] : List Value).toArray s rm_r_X16_bestNow.cells rm_r_X16_bestNow.slots (A0 s0)) (F0 m 102 ls []) := by
          clear v39_2 n39_2 e39_2 hq2 v39_1 n39_1 e39_1
          intro N
          induction N with
          | zero => intros; omega
          | succ N ih102 =>
            intro k102 g102 ta102 tb102 tc102 T102 H locs ls hmu hk_k102 hB hrow hg54 h hK_T102 v39_2 n39_2 e39_2 hq2 v39_1 n39_1 e39_1 w hl
            have hK := hK_T102
            refine lv_iload hx hb dX16_bestNow_102 (lv_at hl 0 rfl) ?_
            refine lv_iload_n hx hb dX16_bestNow_104 rfl (lv_at hl 4 rfl) ?_
            refine lv_iload_n hx hb dX16_bestNow_105 rfl (lv_at hl 3 rfl) ?_
            refine lv_imul hx hb dX16_bestNow_106 ?_
            refine lv_topi (fun z13 ez13 => ?_)
            obtain rfl : z13 = nI nn := ez13.trans (by rw [pk_mul, ← hnn])
            refine lv_icmp_gt (tgt := 310) hx hb dX16_bestNow_107 (by decide) (fun hc_k102 => ?_) (fun hc_k102 => ?_)
            · have hge_k102 : nn + 1 ≤ k102 := (nI_ltI (a := nn) (b := k102) (by omega) (by omega)).mp hc_k102
              rw [show k102 = nn + 1 by omega] at hB
              have hfin : ∀ j, j < 7 → mA T102 39 1 j = rBw (bQ A ns nj nm at_) j := fun j hj => (hrow j hj).trans (BI.fin hnn h0.b_st h0.b_mo (fun s m z => bQ_z z) hB j hj)
              refine lv_aload hx hb dX16_bestNow_310 (lv_at hl 1 rfl) ?_
              have w := w.d39
              have h : RI ea (dr39 T102) ns nj nm nt nr nq := h.d39
              have hK : Kq (hvT LB) hNo hNo S (dr39 T102) := Kq.d39 hK
              refine rE0 ((show gG (sArr T32 39 1 q39_1 7) 39 1 = q39_1 from rfl).trans e39_1.symm) ?_
              exact rA (v := (some (gG (dr39 T102) 39 1))) X w rfl (Or.inr ⟨_, rfl⟩) dX16_bestNow_312 (Nat.le_of_ble_eq_true rfl) (show 0 + (nn + 1) + 7 ≤ 48 by omega) (⟨rfl, h, hK, ⟨v39_1, fun e => by omega⟩, n39_1, hfin⟩)
            · have hlt_k102 : k102 < nn + 1 := Nat.lt_of_not_le (fun z => hc_k102 ((nI_ltI (a := nn) (b := k102) (by omega) (by omega)).mpr z))
              refine lv_iload hx hb dX16_bestNow_110 (lv_at hl 0 rfl) ?_
              refine lv_iload_n hx hb dX16_bestNow_112 rfl (lv_at hl 4 rfl) ?_
              refine lv_iload_n hx hb dX16_bestNow_113 rfl (lv_at hl 3 rfl) ?_
              refine lv_imul hx hb dX16_bestNow_114 ?_
              refine lv_topi (fun z14 ez14 => ?_)
              obtain rfl : z14 = nI nn := ez14.trans (by rw [pk_mul, ← hnn])
              have J129 : ∀  (H : Heap) (locs : List Loc) (ls : Array Slot), (rOk (bQ A ns nj nm at_) nm nn k102) → Wd s0 D cy T102 s.heap H locs → lv_has ls 10 [(6, .int (nI k102)), (5, .ref (gG (sArr T32 39 1 q39_1 7) 39 1)), (4, .ref (gG (sArr S 39 2 q39_2 (nn + 1)) 39 2)), (3, .int (nI nm)), (2, .int (nI ns)), (0, .ref (gG S 16 0)), (1, .int at_)] → W p l e rm_r_X16_bestNow s m ([.ref (gG S 16 0), .int at_] : List Value).toArray below meth c H locs (0 + 1 + 1) (0 + (nn + 1) + 7) (MQ below (GQ s0 D cy (fun v S' => some (.ref (gG S' 39 1)) = v ∧ RI ea S' ns nj nm nt nr nq ∧ Kq (hvT LB) hNo hNo S S' ∧ vV S' 39 1 ∧ mN S' 39 1 = 7 ∧ ∀ j, j < 7 → mA S' 39 1 j = rBw (bQ A ns nj nm at_) j)) ([.ref (gG S 16 0), .int at_] : List Value).toArray s rm_r_X16_bestNow.cells rm_r_X16_bestNow.slots (A0 s0)) (F0 m 129 ls []) := by
                intro  H locs ls hok w hl
                refine lv_iconst (v := 0) hx hb dX16_bestNow_129 (by decide) ?_
                refine lv_istore (lv' := [(7, .int 0), (6, .int (nI k102)), (5, .ref (gG (sArr T32 39 1 q39_1 7) 39 1)), (4, .ref (gG (sArr S 39 2 q39_2 (nn + 1)) 39 2)), (3, .int (nI nm)), (2, .int (nI ns)), (0, .ref (gG S 16 0)), (1, .int at_)]) hx hb dX16_bestNow_130 hl (by decide) rfl (fun ls hl => ?_)
                have L132 : ∀ (N : Nat) (k132 : Nat) (g132 : Nat) (ta132 : Nat) (tb132 : Nat) (tc132 : Nat) (T132 : HS) (H : Heap) (locs : List Loc) (ls : Array Slot), nn + 1 - k132 < N → (k132 ≤ nn + 1) → (BI (bQ A ns nj nm at_) nm nn g132 ta132 tb132 tc132 k102 k132 0) → (∀ j, j < 7 → mA T132 39 1 j = rR nm nn g132 ta132 tb132 tc132 j) → (g132 ≤ 54) → (RI ea T132 ns nj nm nt nr nq) → (Kq (hvT LB) hNo hNo S T132) → (vV T132 39 2) → (mN T132 39 2 = (nn + 1)) → (gG T132 39 2 = q39_2) → (∀ q, mA T132 39 2 q = nI (rQ (bQ A ns nj nm at_) nm nn q)) → (vV T132 39 1) → (mN T132 39 1 = 7) → (gG T132 39 1 = q39_1) → Wd s0 D cy T132 s.heap H locs → lv_has ls 10 [(7, .int (nI k132)), (6, .int (nI k102)), (5, .ref (gG (sArr T32 39 1 q39_1 7) 39 1)), (4, .ref (gG (sArr S 39 2 q39_2 (nn + 1)) 39 2)), (3, .int (nI nm)), (2, .int (nI ns)), (0, .ref (gG S 16 0)), (1, .int at_)] → W p l e rm_r_X16_bestNow s m ([.ref (gG S 16 0), .int at_] : List Value).toArray below meth c H locs (0 + 1 + 1) (0 + (nn + 1) + 7) (MQ below (GQ s0 D cy (fun v S' => some (.ref (gG S' 39 1)) = v ∧ RI ea S' ns nj nm nt nr nq ∧ Kq (hvT LB) hNo hNo S S' ∧ vV S' 39 1 ∧ mN S' 39 1 = 7 ∧ ∀ j, j < 7 → mA S' 39 1 j = rBw (bQ A ns nj nm at_) j)) ([.ref (gG S 16 0), .int at_] : List Value).toArray s rm_r_X16_bestNow.cells rm_r_X16_bestNow.slots (A0 s0)) (F0 m 132 ls []) := by
                  clear v39_2 n39_2 e39_2 hq2 v39_1 n39_1 e39_1
                  intro N
                  induction N with
                  | zero => intros; omega
                  | succ N ih132 =>
                    intro k132 g132 ta132 tb132 tc132 T132 H locs ls hmu hk_k132 hB hrow hg54 h hK_T132 v39_2 n39_2 e39_2 hq2 v39_1 n39_1 e39_1 w hl
                    have hK := hK_T132
                    refine lv_iload hx hb dX16_bestNow_132 (lv_at hl 0 rfl) ?_
                    refine lv_iload_n hx hb dX16_bestNow_134 rfl (lv_at hl 5 rfl) ?_
                    refine lv_iload_n hx hb dX16_bestNow_135 rfl (lv_at hl 4 rfl) ?_
                    refine lv_imul hx hb dX16_bestNow_136 ?_
                    refine lv_topi (fun z15 ez15 => ?_)
                    obtain rfl : z15 = nI nn := ez15.trans (by rw [pk_mul, ← hnn])
                    refine lv_icmp_gt (tgt := 304) hx hb dX16_bestNow_137 (by decide) (fun hc_k132 => ?_) (fun hc_k132 => ?_)
                    · have hge_k132 : nn + 1 ≤ k132 := (nI_ltI (a := nn) (b := k132) (by omega) (by omega)).mp hc_k132
                      rw [show k132 = nn + 1 by omega] at hB
                      have hB : BI (bQ A ns nj nm at_) nm nn g132 ta132 tb132 tc132 (k102 + 1) 0 0 := hB.endB
                      refine lv_iinc (v := nI (k102 + 1)) (lv' := [(6, .int (nI (k102 + 1))), (7, .int (nI k132)), (5, .ref (gG (sArr T32 39 1 q39_1 7) 39 1)), (4, .ref (gG (sArr S 39 2 q39_2 (nn + 1)) 39 2)), (3, .int (nI nm)), (2, .int (nI ns)), (0, .ref (gG S 16 0)), (1, .int at_)]) hx hb dX16_bestNow_304 hl (k := 1) rfl (nI_1 _) (by decide) rfl (fun ls hl => ?_)
                      refine lv_goto (tgt := 102) hx hb dX16_bestNow_307 (by decide) ?_
                      exact ih102 (k102 + 1) g132 ta132 tb132 tc132 T132 _ _ _ (by omega) (hlt_k102) (hB) (hrow) (hg54) (h) (hK) (v39_2) (n39_2) (e39_2) (hq2) (v39_1) (n39_1) (e39_1) w (lv_sub hl [0, 2, 3, 4, 5, 6, 7] rfl)
                    · have hlt_k132 : k132 < nn + 1 := Nat.lt_of_not_le (fun z => hc_k132 ((nI_ltI (a := nn) (b := k132) (by omega) (by omega)).mpr z))
                      refine lv_iload hx hb dX16_bestNow_140 (lv_at hl 0 rfl) ?_
                      refine lv_iload_n hx hb dX16_bestNow_142 rfl (lv_at hl 5 rfl) ?_
                      refine lv_iload_n hx hb dX16_bestNow_143 rfl (lv_at hl 4 rfl) ?_
                      refine lv_imul hx hb dX16_bestNow_144 ?_
                      refine lv_topi (fun z16 ez16 => ?_)
                      obtain rfl : z16 = nI nn := ez16.trans (by rw [pk_mul, ← hnn])
                      have J156 : ∀  (H : Heap) (locs : List Loc) (ls : Array Slot), (rOk (bQ A ns nj nm at_) nm nn k132) → Wd s0 D cy T132 s.heap H locs → lv_has ls 10 [(7, .int (nI k132)), (6, .int (nI k102)), (5, .ref (gG (sArr T32 39 1 q39_1 7) 39 1)), (4, .ref (gG (sArr S 39 2 q39_2 (nn + 1)) 39 2)), (3, .int (nI nm)), (2, .int (nI ns)), (0, .ref (gG S 16 0)), (1, .int at_)] → W p l e rm_r_X16_bestNow s m ([.ref (gG S 16 0), .int at_] : List Value).toArray below meth c H locs (0 + 1 + 1) (0 + (nn + 1) + 7) (MQ below (GQ s0 D cy (fun v S' => some (.ref (gG S' 39 1)) = v ∧ RI ea S' ns nj nm nt nr nq ∧ Kq (hvT LB) hNo hNo S S' ∧ vV S' 39 1 ∧ mN S' 39 1 = 7 ∧ ∀ j, j < 7 → mA S' 39 1 j = rBw (bQ A ns nj nm at_) j)) ([.ref (gG S 16 0), .int at_] : List Value).toArray s rm_r_X16_bestNow.cells rm_r_X16_bestNow.slots (A0 s0)) (F0 m 156 ls []) := by
                        intro  H locs ls hokb w hl
                        refine lv_iload hx hb dX16_bestNow_156 (lv_at hl 1 rfl) ?_
                        refine lv_iload hx hb dX16_bestNow_158 (lv_at hl 0 rfl) ?_
                        refine lv_iload_n hx hb dX16_bestNow_160 rfl (lv_at hl 5 rfl) ?_
                        refine lv_iload_n hx hb dX16_bestNow_161 rfl (lv_at hl 4 rfl) ?_
                        refine cS (S := T132) (nA := 4) (As := [.int (nI k102), .int (nI k132), .int (nI ns), .int (nI nm)]) (rest := []) X w hl (r_X16_meet G T132 k102 k132 ns nm nn hnn (by omega) (by omega) h.b_st h.b_mo) wY_X16_meet wM_X16_355 wSt_X16_meet wI_X16 (by decide +kernel) rfl rfl dX16_bestNow_162 ⟨by decide, by decide⟩ (Nat.le_of_ble_eq_true rfl) (⟨(show 0 + 1 + 1 + 0 ≤ 2 by omega), (show 0 + (nn + 1) + 7 + 0 ≤ 48 by omega)⟩) (fun v17 S1 H locs hp w => ?_)
                        obtain ⟨rfl, rfl⟩ := hp
                        refine lv_if_eq (tgt := 171) hx hb dX16_bestNow_165 (by decide) (fun h165 => ?_) (fun h165 => ?_)
                        · have hm1 : ¬ rMt nm nn k102 k132 := mtB_f (b2i_f h165)
                          refine lv_iconst (v := 0) hx hb dX16_bestNow_171 (by decide) ?_
                          refine lv_istore (lv' := [(8, .int 0), (7, .int (nI k132)), (6, .int (nI k102)), (5, .ref (gG (sArr T32 39 1 q39_1 7) 39 1)), (4, .ref (gG (sArr S 39 2 q39_2 (nn + 1)) 39 2)), (3, .int (nI nm)), (2, .int (nI ns)), (0, .ref (gG S 16 0)), (1, .int at_)]) hx hb dX16_bestNow_172 hl (by decide) rfl (fun ls hl => ?_)
                          have L174 : ∀ (N : Nat) (k174 : Nat) (g174 : Nat) (ta174 : Nat) (tb174 : Nat) (tc174 : Nat) (T174 : HS) (H : Heap) (locs : List Loc) (ls : Array Slot), nn + 1 - k174 < N → (k174 ≤ nn + 1) → (BI (bQ A ns nj nm at_) nm nn g174 ta174 tb174 tc174 k102 k132 k174) → (∀ j, j < 7 → mA T174 39 1 j = rR nm nn g174 ta174 tb174 tc174 j) → (g174 ≤ 54) → (RI ea T174 ns nj nm nt nr nq) → (Kq (hvT LB) hNo hNo S T174) → (vV T174 39 2) → (mN T174 39 2 = (nn + 1)) → (gG T174 39 2 = q39_2) → (∀ q, mA T174 39 2 q = nI (rQ (bQ A ns nj nm at_) nm nn q)) → (vV T174 39 1) → (mN T174 39 1 = 7) → (gG T174 39 1 = q39_1) → Wd s0 D cy T174 s.heap H locs → lv_has ls 10 [(8, .int (nI k174)), (7, .int (nI k132)), (6, .int (nI k102)), (5, .ref (gG (sArr T32 39 1 q39_1 7) 39 1)), (4, .ref (gG (sArr S 39 2 q39_2 (nn + 1)) 39 2)), (3, .int (nI nm)), (2, .int (nI ns)), (0, .ref (gG S 16 0)), (1, .int at_)] → W p l e rm_r_X16_bestNow s m ([.ref (gG S 16 0), .int at_] : List Value).toArray below meth c H locs (0 + 1 + 1) (0 + (nn + 1) + 7) (MQ below (GQ s0 D cy (fun v S' => some (.ref (gG S' 39 1)) = v ∧ RI ea S' ns nj nm nt nr nq ∧ Kq (hvT LB) hNo hNo S S' ∧ vV S' 39 1 ∧ mN S' 39 1 = 7 ∧ ∀ j, j < 7 → mA S' 39 1 j = rBw (bQ A ns nj nm at_) j)) ([.ref (gG S 16 0), .int at_] : List Value).toArray s rm_r_X16_bestNow.cells rm_r_X16_bestNow.slots (A0 s0)) (F0 m 174 ls []) := by
                            clear v39_2 n39_2 e39_2 hq2 v39_1 n39_1 e39_1
                            intro N
                            induction N with
                            | zero => intros; omega
                            | succ N ih174 =>
                              intro k174 g174 ta174 tb174 tc174 T174 H locs ls hmu hk_k174 hB hrow hg54 h hK_T174 v39_2 n39_2 e39_2 hq2 v39_1 n39_1 e39_1 w hl
                              have hK := hK_T174
                              refine lv_iload hx hb dX16_bestNow_174 (lv_at hl 0 rfl) ?_
                              refine lv_iload_n hx hb dX16_bestNow_176 rfl (lv_at hl 6 rfl) ?_
                              refine lv_iload_n hx hb dX16_bestNow_177 rfl (lv_at hl 5 rfl) ?_
                              refine lv_imul hx hb dX16_bestNow_178 ?_
                              refine lv_topi (fun z18 ez18 => ?_)
                              obtain rfl : z18 = nI nn := ez18.trans (by rw [pk_mul, ← hnn])
                              refine lv_icmp_gt (tgt := 298) hx hb dX16_bestNow_179 (by decide) (fun hc_k174 => ?_) (fun hc_k174 => ?_)
                              · have hge_k174 : nn + 1 ≤ k174 := (nI_ltI (a := nn) (b := k174) (by omega) (by omega)).mp hc_k174
                                have hge_k174 : nn + 1 ≤ k174 := (nI_ltI (a := nn) (b := k174) (by omega) (by omega)).mp hc_k174
                                rw [show k174 = nn + 1 by omega] at hB
                                have hB : BI (bQ A ns nj nm at_) nm nn g174 ta174 tb174 tc174 k102 (k132 + 1) 0 := hB.endC
                                refine lv_iinc (v := nI (k132 + 1)) (lv' := [(7, .int (nI (k132 + 1))), (8, .int (nI k174)), (6, .int (nI k102)), (5, .ref (gG (sArr T32 39 1 q39_1 7) 39 1)), (4, .ref (gG (sArr S 39 2 q39_2 (nn + 1)) 39 2)), (3, .int (nI nm)), (2, .int (nI ns)), (0, .ref (gG S 16 0)), (1, .int at_)]) hx hb dX16_bestNow_298 hl (k := 1) rfl (nI_1 _) (by decide) rfl (fun ls hl => ?_)
                                refine lv_goto (tgt := 132) hx hb dX16_bestNow_301 (by decide) ?_
                                exact ih132 (k132 + 1) g174 ta174 tb174 tc174 T174 _ _ _ (by omega) (hlt_k132) (hB) (hrow) (hg54) (h) (hK) (v39_2) (n39_2) (e39_2) (hq2) (v39_1) (n39_1) (e39_1) w (lv_sub hl [0, 2, 3, 4, 5, 6, 7, 8] rfl)
                              · have hlt_k174 : k174 < nn + 1 := Nat.lt_of_not_le (fun z => hc_k174 ((nI_ltI (a := nn) (b := k174) (by omega) (by omega)).mpr z))
                                have hlt_k174 : k174 < nn + 1 := Nat.lt_of_not_le (fun z => hc_k174 ((nI_ltI (a := nn) (b := k174) (by omega) (by omega)).mpr z))
                                refine lv_iload hx hb dX16_bestNow_182 (lv_at hl 0 rfl) ?_
                                refine lv_iload_n hx hb dX16_bestNow_184 rfl (lv_at hl 6 rfl) ?_
                                refine lv_iload_n hx hb dX16_bestNow_185 rfl (lv_at hl 5 rfl) ?_
                                refine lv_imul hx hb dX16_bestNow_186 ?_
                                refine lv_topi (fun z19 ez19 => ?_)
                                obtain rfl : z19 = nI nn := ez19.trans (by rw [pk_mul, ← hnn])
                                have J198 : ∀  (H : Heap) (locs : List Loc) (ls : Array Slot), (rOk (bQ A ns nj nm at_) nm nn k174) → Wd s0 D cy T174 s.heap H locs → lv_has ls 10 [(8, .int (nI k174)), (7, .int (nI k132)), (6, .int (nI k102)), (5, .ref (gG (sArr T32 39 1 q39_1 7) 39 1)), (4, .ref (gG (sArr S 39 2 q39_2 (nn + 1)) 39 2)), (3, .int (nI nm)), (2, .int (nI ns)), (0, .ref (gG S 16 0)), (1, .int at_)] → W p l e rm_r_X16_bestNow s m ([.ref (gG S 16 0), .int at_] : List Value).toArray below meth c H locs (0 + 1 + 1) (0 + (nn + 1) + 7) (MQ below (GQ s0 D cy (fun v S' => some (.ref (gG S' 39 1)) = v ∧ RI ea S' ns nj nm nt nr nq ∧ Kq (hvT LB) hNo hNo S S' ∧ vV S' 39 1 ∧ mN S' 39 1 = 7 ∧ ∀ j, j < 7 → mA S' 39 1 j = rBw (bQ A ns nj nm at_) j)) ([.ref (gG S 16 0), .int at_] : List Value).toArray s rm_r_X16_bestNow.cells rm_r_X16_bestNow.slots (A0 s0)) (F0 m 198 ls []) := by
                                  intro  H locs ls hokc w hl
                                  refine lv_iload hx hb dX16_bestNow_198 (lv_at hl 2 rfl) ?_
                                  refine lv_iload hx hb dX16_bestNow_200 (lv_at hl 0 rfl) ?_
                                  refine lv_iload_n hx hb dX16_bestNow_202 rfl (lv_at hl 6 rfl) ?_
                                  refine lv_iload_n hx hb dX16_bestNow_203 rfl (lv_at hl 5 rfl) ?_
                                  refine cS (S := T174) (nA := 4) (As := [.int (nI k102), .int (nI k174), .int (nI ns), .int (nI nm)]) (rest := []) X w hl (r_X16_meet G T174 k102 k174 ns nm nn hnn (by omega) (by omega) h.b_st h.b_mo) wY_X16_meet wM_X16_355 wSt_X16_meet wI_X16 (by decide +kernel) rfl rfl dX16_bestNow_204 ⟨by decide, by decide⟩ (Nat.le_of_ble_eq_true rfl) (⟨(show 0 + 1 + 1 + 0 ≤ 2 by omega), (show 0 + (nn + 1) + 7 + 0 ≤ 48 by omega)⟩) (fun v20 S1 H locs hp w => ?_)
                                  obtain ⟨rfl, rfl⟩ := hp
                                  refine lv_if_ne (tgt := 292) hx hb dX16_bestNow_207 (by decide) (fun h207 => ?_) (fun h207 => ?_)
                                  · have hB : BI (bQ A ns nj nm at_) nm nn g174 ta174 tb174 tc174 k102 k132 (k174 + 1) := hB.skC (Or.inr (Or.inl (mtB_t (b2i_t h207))))
                                    refine lv_iinc (v := nI (k174 + 1)) (lv' := [(8, .int (nI (k174 + 1))), (7, .int (nI k132)), (6, .int (nI k102)), (5, .ref (gG (sArr T32 39 1 q39_1 7) 39 1)), (4, .ref (gG (sArr S 39 2 q39_2 (nn + 1)) 39 2)), (3, .int (nI nm)), (2, .int (nI ns)), (0, .ref (gG S 16 0)), (1, .int at_)]) hx hb dX16_bestNow_292 hl (k := 0) rfl (nI_1 _) (by decide) rfl (fun ls hl => ?_)
                                    refine lv_goto (tgt := 174) hx hb dX16_bestNow_295 (by decide) ?_
                                    exact ih174 (k174 + 1) g174 ta174 tb174 tc174 T174 _ _ _ (by omega) (hlt_k174) (hB) (hrow) (hg54) (h) (hK) (v39_2) (n39_2) (e39_2) (hq2) (v39_1) (n39_1) (e39_1) w (lv_sub hl [0, 1, 2, 3, 4, 5, 6, 7, 8] rfl)
                                  · have hm2 : ¬ rMt nm nn k102 k174 := mtB_f (b2i_f h207)
                                    refine lv_iload hx hb dX16_bestNow_210 (lv_at hl 1 rfl) ?_
                                    refine lv_iload hx hb dX16_bestNow_212 (lv_at hl 0 rfl) ?_
                                    refine lv_iload_n hx hb dX16_bestNow_214 rfl (lv_at hl 6 rfl) ?_
                                    refine lv_iload_n hx hb dX16_bestNow_215 rfl (lv_at hl 5 rfl) ?_
                                    refine cS (S := T174) (nA := 4) (As := [.int (nI k132), .int (nI k174), .int (nI ns), .int (nI nm)]) (rest := []) X w hl (r_X16_meet G T174 k132 k174 ns nm nn hnn (by omega) (by omega) h.b_st h.b_mo) wY_X16_meet wM_X16_355 wSt_X16_meet wI_X16 (by decide +kernel) rfl rfl dX16_bestNow_216 ⟨by decide, by decide⟩ (Nat.le_of_ble_eq_true rfl) (⟨(show 0 + 1 + 1 + 0 ≤ 2 by omega), (show 0 + (nn + 1) + 7 + 0 ≤ 48 by omega)⟩) (fun v21 S1 H locs hp w => ?_)
                                    obtain ⟨rfl, rfl⟩ := hp
                                    refine lv_if_eq (tgt := 225) hx hb dX16_bestNow_219 (by decide) (fun h219 => ?_) (fun h219 => ?_)
                                    · have hm3 : ¬ rMt nm nn k132 k174 := mtB_f (b2i_f h219)
                                      refine lv_aload hx hb dX16_bestNow_225 (lv_at hl 4 rfl) ?_
                                      refine lv_iload hx hb dX16_bestNow_227 (lv_at hl 2 rfl) ?_
                                      refine rE1 ((show gG (sArr S 39 2 q39_2 (nn + 1)) 39 2 = q39_2 from rfl).trans e39_2.symm) ?_
                                      refine aLdI (S := T174) (t := 39) (v := nI (rQ (bQ A ns nj nm at_) nm nn k102)) X w v39_2 (by decide) rfl rfl (by rw [n39_2]; exact nI_vp (show k102 < nn + 1 by omega) (by omega)) (by rw [nI_clamp (by omega)]; exact hq2 k102) dX16_bestNow_229 ?_
                                      refine lv_aload hx hb dX16_bestNow_230 (lv_at hl 4 rfl) ?_
                                      refine lv_iload hx hb dX16_bestNow_232 (lv_at hl 1 rfl) ?_
                                      refine rE1 ((show gG (sArr S 39 2 q39_2 (nn + 1)) 39 2 = q39_2 from rfl).trans e39_2.symm) ?_
                                      refine aLdI (S := T174) (t := 39) (v := nI (rQ (bQ A ns nj nm at_) nm nn k132)) X w v39_2 (by decide) rfl rfl (by rw [n39_2]; exact nI_vp (show k132 < nn + 1 by omega) (by omega)) (by rw [nI_clamp (by omega)]; exact hq2 k132) dX16_bestNow_234 ?_
                                      refine lv_iadd hx hb dX16_bestNow_235 ?_
                                      refine lv_topi (fun z22 ez22 => ?_)
                                      obtain rfl : z22 = nI (rQ (bQ A ns nj nm at_) nm nn k102 + rQ (bQ A ns nj nm at_) nm nn k132) := ez22.trans (nI_add _ _)
                                      refine lv_aload hx hb dX16_bestNow_236 (lv_at hl 4 rfl) ?_
                                      refine lv_iload hx hb dX16_bestNow_238 (lv_at hl 0 rfl) ?_
                                      refine rE1 ((show gG (sArr S 39 2 q39_2 (nn + 1)) 39 2 = q39_2 from rfl).trans e39_2.symm) ?_
                                      refine aLdI (S := T174) (t := 39) (v := nI (rQ (bQ A ns nj nm at_) nm nn k174)) X w v39_2 (by decide) rfl rfl (by rw [n39_2]; exact nI_vp (show k174 < nn + 1 by omega) (by omega)) (by rw [nI_clamp (by omega)]; exact hq2 k174) dX16_bestNow_240 ?_
                                      refine lv_iadd hx hb dX16_bestNow_241 ?_
                                      refine lv_topi (fun z23 ez23 => ?_)
                                      obtain rfl : z23 = nI (rSm (bQ A ns nj nm at_) nm nn k102 k132 k174) := ez23.trans (nI_add _ _)
                                      have hs54 : rSm (bQ A ns nj nm at_) nm nn k102 k132 k174 ≤ 54 := rSm_54 (fun s m => bQ_18)
                                      refine lv_istore (lv' := [(9, .int (nI (rSm (bQ A ns nj nm at_) nm nn k102 k132 k174))), (8, .int (nI k174)), (7, .int (nI k132)), (6, .int (nI k102)), (5, .ref (gG (sArr T32 39 1 q39_1 7) 39 1)), (4, .ref (gG (sArr S 39 2 q39_2 (nn + 1)) 39 2)), (3, .int (nI nm)), (2, .int (nI ns)), (0, .ref (gG S 16 0)), (1, .int at_)]) hx hb dX16_bestNow_242 hl (by decide) rfl (fun ls hl => ?_)
                                      refine lv_iload hx hb dX16_bestNow_244 (lv_at hl 0 rfl) ?_
                                      refine lv_aload hx hb dX16_bestNow_246 (lv_at hl 4 rfl) ?_
                                      refine lv_iconst (v := 0) hx hb dX16_bestNow_248 (by decide) ?_
                                      refine rE1 ((show gG (sArr T32 39 1 q39_1 7) 39 1 = q39_1 from rfl).trans e39_1.symm) ?_
                                      refine aLdI (S := T174) (t := 39) (v := nI g174) X w v39_1 (by decide) rfl rfl (by rw [n39_1]; unfold vp_in; decide) (by rw [show (0 : Int32).toNatClampNeg = 0 by decide]; exact hrow 0 (by decide)) dX16_bestNow_249 ?_
                                      refine lv_icmp_gt (tgt := 256) hx hb dX16_bestNow_250 (by decide) (fun h250 => ?_) (fun h250 => ?_)
                                      · have hgt : g174 < rSm (bQ A ns nj nm at_) nm nn k102 k132 k174 := (nI_ltI (by omega) (by omega)).mp h250
                                        refine lv_aload hx hb dX16_bestNow_256 (lv_at hl 4 rfl) ?_
                                        refine lv_iconst (v := 0) hx hb dX16_bestNow_258 (by decide) ?_
                                        refine lv_iload hx hb dX16_bestNow_259 (lv_at hl 0 rfl) ?_
                                        refine rE2 ((show gG (sArr T32 39 1 q39_1 7) 39 1 = q39_1 from rfl).trans e39_1.symm) ?_
                                        refine aStI (S := T174) (t := 39) X w v39_1 (by decide) rfl rfl (by rw [n39_1]; unfold vp_in; decide) dX16_bestNow_261 (fun H locs w => ?_)
                                        have h : RI ea (sA T174 39 1 (upd (mA T174 39 1) (0 : Int32).toNatClampNeg (nI (rSm (bQ A ns nj nm at_) nm nn k102 k132 k174)))) ns nj nm nt nr nq := h.stA (by decide)
                                        have hK : Kq (hvT LB) hNo hNo S (sA T174 39 1 (upd (mA T174 39 1) (0 : Int32).toNatClampNeg (nI (rSm (bQ A ns nj nm at_) nm nn k102 k132 k174)))) := hK.sA rfl
                                        have hr1 : mA (sA T174 39 1 (upd (mA T174 39 1) (0 : Int32).toNatClampNeg (nI (rSm (bQ A ns nj nm at_) nm nn k102 k132 k174)))) 39 1 = upd (mA T174 39 1) 0 (nI (rSm (bQ A ns nj nm at_) nm nn k102 k132 k174)) := by rw [show mA (sA T174 39 1 (upd (mA T174 39 1) (0 : Int32).toNatClampNeg (nI (rSm (bQ A ns nj nm at_) nm nn k102 k132 k174)))) 39 1 = upd (mA T174 39 1) (0 : Int32).toNatClampNeg (nI (rSm (bQ A ns nj nm at_) nm nn k102 k132 k174)) from sA_s, show (0 : Int32).toNatClampNeg = 0 by decide]
                                        obtain ⟨U24, h, hK_U24, v39_2', n39_2', e39_2', hq2', v39_1', n39_1', e39_1', hr1', w⟩ : ∃ U24 : HS, (RI ea U24 ns nj nm nt nr nq) ∧ (Kq (hvT LB) hNo hNo S U24) ∧ (vV U24 39 2) ∧ (mN U24 39 2 = (nn + 1)) ∧ (gG U24 39 2 = q39_2) ∧ (∀ q, mA U24 39 2 q = nI (rQ (bQ A ns nj nm at_) nm nn q)) ∧ (vV U24 39 1) ∧ (mN U24 39 1 = 7) ∧ (gG U24 39 1 = q39_1) ∧ (mA U24 39 1 = upd (mA T174 39 1) 0 (nI (rSm (bQ A ns nj nm at_) nm nn k102 k132 k174))) ∧ Wd s0 D cy U24 s.heap H locs := ⟨_, h, hK, v39_2, n39_2, e39_2, hq2, v39_1, n39_1, e39_1, hr1, w⟩
                                        clear v39_2 n39_2 e39_2 hq2 v39_1 n39_1 e39_1 hr1
                                        have v39_2 := v39_2'; clear v39_2'
                                        have n39_2 := n39_2'; clear n39_2'
                                        have e39_2 := e39_2'; clear e39_2'
                                        have hq2 := hq2'; clear hq2'
                                        have v39_1 := v39_1'; clear v39_1'
                                        have n39_1 := n39_1'; clear n39_1'
                                        have e39_1 := e39_1'; clear e39_1'
                                        have hr1 := hr1'; clear hr1'
                                        have hK := hK_U24
                                        refine lv_aload hx hb dX16_bestNow_262 (lv_at hl 4 rfl) ?_
                                        refine lv_iconst (v := 1) hx hb dX16_bestNow_264 (by decide) ?_
                                        refine lv_iload hx hb dX16_bestNow_265 (lv_at hl 3 rfl) ?_
                                        refine lv_iload_n hx hb dX16_bestNow_267 rfl (lv_at hl 7 rfl) ?_
                                        refine lv_iload_n hx hb dX16_bestNow_268 rfl (lv_at hl 6 rfl) ?_
                                        refine rE4 ((show gG (sArr T32 39 1 q39_1 7) 39 1 = q39_1 from rfl).trans e39_1.symm) ?_
                                        refine cS (S := U24) (nA := 5) (As := [.ref (gG U24 39 1), .int 1, .int (nI k102), .int (nI ns), .int (nI nm)]) (rest := []) X w hl (r_X16_put G U24 1 k102 ns nm nn hnn (by decide) (by omega) h.b_st h.b_mo v39_1 n39_1) wY_X16_put wM_X16_359 wSt_X16_put wI_X16 (by decide +kernel) rfl rfl dX16_bestNow_269 ⟨by decide, by decide⟩ (Nat.le_of_ble_eq_true rfl) (⟨(show 0 + 1 + 1 + 0 ≤ 2 by omega), (show 0 + (nn + 1) + 7 + 0 ≤ 48 by omega)⟩) (fun v26 S1 H locs hp w => ?_)
                                        obtain ⟨rfl, rfl⟩ := hp
                                        have h : RI ea (sA (sA U24 39 1 (upd (mA U24 39 1) 1 (pS nm nn k102))) 39 1 (upd (upd (mA U24 39 1) 1 (pS nm nn k102)) (1 + 1) (pM nm nn k102))) ns nj nm nt nr nq := (h.stA (by decide)).stA (by decide)
                                        have hK : Kq (hvT LB) hNo hNo S (sA (sA U24 39 1 (upd (mA U24 39 1) 1 (pS nm nn k102))) 39 1 (upd (upd (mA U24 39 1) 1 (pS nm nn k102)) (1 + 1) (pM nm nn k102))) := (hK.sA rfl).sA rfl
                                        have hr1 : mA (sA (sA U24 39 1 (upd (mA U24 39 1) 1 (pS nm nn k102))) 39 1 (upd (upd (mA U24 39 1) 1 (pS nm nn k102)) (1 + 1) (pM nm nn k102))) 39 1 = upd (upd (upd (mA T174 39 1) 0 (nI (rSm (bQ A ns nj nm at_) nm nn k102 k132 k174))) 1 (pS nm nn k102)) (1 + 1) (pM nm nn k102) := by rw [show mA (sA (sA U24 39 1 (upd (mA U24 39 1) 1 (pS nm nn k102))) 39 1 (upd (upd (mA U24 39 1) 1 (pS nm nn k102)) (1 + 1) (pM nm nn k102))) 39 1 = upd (upd (mA U24 39 1) 1 (pS nm nn k102)) (1 + 1) (pM nm nn k102) from sA_s, hr1]
                                        obtain ⟨U25, h, hK_U25, v39_2', n39_2', e39_2', hq2', v39_1', n39_1', e39_1', hr1', w⟩ : ∃ U25 : HS, (RI ea U25 ns nj nm nt nr nq) ∧ (Kq (hvT LB) hNo hNo S U25) ∧ (vV U25 39 2) ∧ (mN U25 39 2 = (nn + 1)) ∧ (gG U25 39 2 = q39_2) ∧ (∀ q, mA U25 39 2 q = nI (rQ (bQ A ns nj nm at_) nm nn q)) ∧ (vV U25 39 1) ∧ (mN U25 39 1 = 7) ∧ (gG U25 39 1 = q39_1) ∧ (mA U25 39 1 = upd (upd (upd (mA T174 39 1) 0 (nI (rSm (bQ A ns nj nm at_) nm nn k102 k132 k174))) 1 (pS nm nn k102)) (1 + 1) (pM nm nn k102)) ∧ Wd s0 D cy U25 s.heap H locs := ⟨_, h, hK, v39_2, n39_2, e39_2, hq2, v39_1, n39_1, e39_1, hr1, w⟩
                                        clear v39_2 n39_2 e39_2 hq2 v39_1 n39_1 e39_1 hr1
                                        have v39_2 := v39_2'; clear v39_2'
                                        have n39_2 := n39_2'; clear n39_2'
                                        have e39_2 := e39_2'; clear e39_2'
                                        have hq2 := hq2'; clear hq2'
                                        have v39_1 := v39_1'; clear v39_1'
                                        have n39_1 := n39_1'; clear n39_1'
                                        have e39_1 := e39_1'; clear e39_1'
                                        have hr1 := hr1'; clear hr1'
                                        have hK := hK_U25
                                        refine lv_aload hx hb dX16_bestNow_272 (lv_at hl 4 rfl) ?_
                                        refine lv_iconst (v := 3) hx hb dX16_bestNow_274 (by decide) ?_
                                        refine lv_iload hx hb dX16_bestNow_275 (lv_at hl 2 rfl) ?_
                                        refine lv_iload_n hx hb dX16_bestNow_277 rfl (lv_at hl 7 rfl) ?_
                                        refine lv_iload_n hx hb dX16_bestNow_278 rfl (lv_at hl 6 rfl) ?_
                                        refine rE4 ((show gG (sArr T32 39 1 q39_1 7) 39 1 = q39_1 from rfl).trans e39_1.symm) ?_
                                        refine cS (S := U25) (nA := 5) (As := [.ref (gG U25 39 1), .int 3, .int (nI k132), .int (nI ns), .int (nI nm)]) (rest := []) X w hl (r_X16_put G U25 3 k132 ns nm nn hnn (by decide) (by omega) h.b_st h.b_mo v39_1 n39_1) wY_X16_put wM_X16_359 wSt_X16_put wI_X16 (by decide +kernel) rfl rfl dX16_bestNow_279 ⟨by decide, by decide⟩ (Nat.le_of_ble_eq_true rfl) (⟨(show 0 + 1 + 1 + 0 ≤ 2 by omega), (show 0 + (nn + 1) + 7 + 0 ≤ 48 by omega)⟩) (fun v28 S1 H locs hp w => ?_)
                                        obtain ⟨rfl, rfl⟩ := hp
                                        have h : RI ea (sA (sA U25 39 1 (upd (mA U25 39 1) 3 (pS nm nn k132))) 39 1 (upd (upd (mA U25 39 1) 3 (pS nm nn k132)) (3 + 1) (pM nm nn k132))) ns nj nm nt nr nq := (h.stA (by decide)).stA (by decide)
                                        have hK : Kq (hvT LB) hNo hNo S (sA (sA U25 39 1 (upd (mA U25 39 1) 3 (pS nm nn k132))) 39 1 (upd (upd (mA U25 39 1) 3 (pS nm nn k132)) (3 + 1) (pM nm nn k132))) := (hK.sA rfl).sA rfl
                                        have hr1 : mA (sA (sA U25 39 1 (upd (mA U25 39 1) 3 (pS nm nn k132))) 39 1 (upd (upd (mA U25 39 1) 3 (pS nm nn k132)) (3 + 1) (pM nm nn k132))) 39 1 = upd (upd (upd (upd (upd (mA T174 39 1) 0 (nI (rSm (bQ A ns nj nm at_) nm nn k102 k132 k174))) 1 (pS nm nn k102)) (1 + 1) (pM nm nn k102)) 3 (pS nm nn k132)) (3 + 1) (pM nm nn k132) := by rw [show mA (sA (sA U25 39 1 (upd (mA U25 39 1) 3 (pS nm nn k132))) 39 1 (upd (upd (mA U25 39 1) 3 (pS nm nn k132)) (3 + 1) (pM nm nn k132))) 39 1 = upd (upd (mA U25 39 1) 3 (pS nm nn k132)) (3 + 1) (pM nm nn k132) from sA_s, hr1]
                                        obtain ⟨U27, h, hK_U27, v39_2', n39_2', e39_2', hq2', v39_1', n39_1', e39_1', hr1', w⟩ : ∃ U27 : HS, (RI ea U27 ns nj nm nt nr nq) ∧ (Kq (hvT LB) hNo hNo S U27) ∧ (vV U27 39 2) ∧ (mN U27 39 2 = (nn + 1)) ∧ (gG U27 39 2 = q39_2) ∧ (∀ q, mA U27 39 2 q = nI (rQ (bQ A ns nj nm at_) nm nn q)) ∧ (vV U27 39 1) ∧ (mN U27 39 1 = 7) ∧ (gG U27 39 1 = q39_1) ∧ (mA U27 39 1 = upd (upd (upd (upd (upd (mA T174 39 1) 0 (nI (rSm (bQ A ns nj nm at_) nm nn k102 k132 k174))) 1 (pS nm nn k102)) (1 + 1) (pM nm nn k102)) 3 (pS nm nn k132)) (3 + 1) (pM nm nn k132)) ∧ Wd s0 D cy U27 s.heap H locs := ⟨_, h, hK, v39_2, n39_2, e39_2, hq2, v39_1, n39_1, e39_1, hr1, w⟩
                                        clear v39_2 n39_2 e39_2 hq2 v39_1 n39_1 e39_1 hr1
                                        have v39_2 := v39_2'; clear v39_2'
                                        have n39_2 := n39_2'; clear n39_2'
                                        have e39_2 := e39_2'; clear e39_2'
                                        have hq2 := hq2'; clear hq2'
                                        have v39_1 := v39_1'; clear v39_1'
                                        have n39_1 := n39_1'; clear n39_1'
                                        have e39_1 := e39_1'; clear e39_1'
                                        have hr1 := hr1'; clear hr1'
                                        have hK := hK_U27
                                        refine lv_aload hx hb dX16_bestNow_282 (lv_at hl 4 rfl) ?_
                                        refine lv_iconst (v := 5) hx hb dX16_bestNow_284 (by decide) ?_
                                        refine lv_iload hx hb dX16_bestNow_285 (lv_at hl 1 rfl) ?_
                                        refine lv_iload_n hx hb dX16_bestNow_287 rfl (lv_at hl 7 rfl) ?_
                                        refine lv_iload_n hx hb dX16_bestNow_288 rfl (lv_at hl 6 rfl) ?_
                                        refine rE4 ((show gG (sArr T32 39 1 q39_1 7) 39 1 = q39_1 from rfl).trans e39_1.symm) ?_
                                        refine cS (S := U27) (nA := 5) (As := [.ref (gG U27 39 1), .int 5, .int (nI k174), .int (nI ns), .int (nI nm)]) (rest := []) X w hl (r_X16_put G U27 5 k174 ns nm nn hnn (by decide) (by omega) h.b_st h.b_mo v39_1 n39_1) wY_X16_put wM_X16_359 wSt_X16_put wI_X16 (by decide +kernel) rfl rfl dX16_bestNow_289 ⟨by decide, by decide⟩ (Nat.le_of_ble_eq_true rfl) (⟨(show 0 + 1 + 1 + 0 ≤ 2 by omega), (show 0 + (nn + 1) + 7 + 0 ≤ 48 by omega)⟩) (fun v30 S1 H locs hp w => ?_)
                                        obtain ⟨rfl, rfl⟩ := hp
                                        have h : RI ea (sA (sA U27 39 1 (upd (mA U27 39 1) 5 (pS nm nn k174))) 39 1 (upd (upd (mA U27 39 1) 5 (pS nm nn k174)) (5 + 1) (pM nm nn k174))) ns nj nm nt nr nq := (h.stA (by decide)).stA (by decide)
                                        have hK : Kq (hvT LB) hNo hNo S (sA (sA U27 39 1 (upd (mA U27 39 1) 5 (pS nm nn k174))) 39 1 (upd (upd (mA U27 39 1) 5 (pS nm nn k174)) (5 + 1) (pM nm nn k174))) := (hK.sA rfl).sA rfl
                                        have hr1 : mA (sA (sA U27 39 1 (upd (mA U27 39 1) 5 (pS nm nn k174))) 39 1 (upd (upd (mA U27 39 1) 5 (pS nm nn k174)) (5 + 1) (pM nm nn k174))) 39 1 = upd (upd (upd (upd (upd (upd (upd (mA T174 39 1) 0 (nI (rSm (bQ A ns nj nm at_) nm nn k102 k132 k174))) 1 (pS nm nn k102)) (1 + 1) (pM nm nn k102)) 3 (pS nm nn k132)) (3 + 1) (pM nm nn k132)) 5 (pS nm nn k174)) (5 + 1) (pM nm nn k174) := by rw [show mA (sA (sA U27 39 1 (upd (mA U27 39 1) 5 (pS nm nn k174))) 39 1 (upd (upd (mA U27 39 1) 5 (pS nm nn k174)) (5 + 1) (pM nm nn k174))) 39 1 = upd (upd (mA U27 39 1) 5 (pS nm nn k174)) (5 + 1) (pM nm nn k174) from sA_s, hr1]
                                        obtain ⟨U29, h, hK_U29, v39_2', n39_2', e39_2', hq2', v39_1', n39_1', e39_1', hr1', w⟩ : ∃ U29 : HS, (RI ea U29 ns nj nm nt nr nq) ∧ (Kq (hvT LB) hNo hNo S U29) ∧ (vV U29 39 2) ∧ (mN U29 39 2 = (nn + 1)) ∧ (gG U29 39 2 = q39_2) ∧ (∀ q, mA U29 39 2 q = nI (rQ (bQ A ns nj nm at_) nm nn q)) ∧ (vV U29 39 1) ∧ (mN U29 39 1 = 7) ∧ (gG U29 39 1 = q39_1) ∧ (mA U29 39 1 = upd (upd (upd (upd (upd (upd (upd (mA T174 39 1) 0 (nI (rSm (bQ A ns nj nm at_) nm nn k102 k132 k174))) 1 (pS nm nn k102)) (1 + 1) (pM nm nn k102)) 3 (pS nm nn k132)) (3 + 1) (pM nm nn k132)) 5 (pS nm nn k174)) (5 + 1) (pM nm nn k174)) ∧ Wd s0 D cy U29 s.heap H locs := ⟨_, h, hK, v39_2, n39_2, e39_2, hq2, v39_1, n39_1, e39_1, hr1, w⟩
                                        clear v39_2 n39_2 e39_2 hq2 v39_1 n39_1 e39_1 hr1
                                        have v39_2 := v39_2'; clear v39_2'
                                        have n39_2 := n39_2'; clear n39_2'
                                        have e39_2 := e39_2'; clear e39_2'
                                        have hq2 := hq2'; clear hq2'
                                        have v39_1 := v39_1'; clear v39_1'
                                        have n39_1 := n39_1'; clear n39_1'
                                        have e39_1 := e39_1'; clear e39_1'
                                        have hr1 := hr1'; clear hr1'
                                        have hK := hK_U29
                                        have hrow : ∀ j, j < 7 → mA U29 39 1 j = rR nm nn (rSm (bQ A ns nj nm at_) nm nn k102 k132 k174) k102 k132 k174 j := fun j hj => by rw [hr1]; exact rR_upd j hj
                                        have hB : BI (bQ A ns nj nm at_) nm nn (rSm (bQ A ns nj nm at_) nm nn k102 k132 k174) k102 k132 k174 k102 k132 (k174 + 1) := hB.new ⟨hok, hokb, hokc, hm1, hm2, hm3⟩ (by omega) (by omega) (by omega) hgt
                                        have hg54 : rSm (bQ A ns nj nm at_) nm nn k102 k132 k174 ≤ 54 := hs54
                                        refine lv_iinc (v := nI (k174 + 1)) (lv' := [(8, .int (nI (k174 + 1))), (9, .int (nI (rSm (bQ A ns nj nm at_) nm nn k102 k132 k174))), (7, .int (nI k132)), (6, .int (nI k102)), (5, .ref (gG (sArr T32 39 1 q39_1 7) 39 1)), (4, .ref (gG (sArr S 39 2 q39_2 (nn + 1)) 39 2)), (3, .int (nI nm)), (2, .int (nI ns)), (0, .ref (gG S 16 0)), (1, .int at_)]) hx hb dX16_bestNow_292 hl (k := 1) rfl (nI_1 _) (by decide) rfl (fun ls hl => ?_)
                                        refine lv_goto (tgt := 174) hx hb dX16_bestNow_295 (by decide) ?_
                                        exact ih174 (k174 + 1) (rSm (bQ A ns nj nm at_) nm nn k102 k132 k174) k102 k132 k174 U29 _ _ _ (by omega) (hlt_k174) (hB) (hrow) (hg54) (h) (hK) (v39_2) (n39_2) (e39_2) (hq2) (v39_1) (n39_1) (e39_1) w (lv_sub hl [0, 2, 3, 4, 5, 6, 7, 8, 9] rfl)
                                      · have hB : BI (bQ A ns nj nm at_) nm nn g174 ta174 tb174 tc174 k102 k132 (k174 + 1) := hB.skC (Or.inr (Or.inr (Or.inr (Nat.le_of_not_lt (fun z => h250 ((nI_ltI (by omega) (by omega)).mpr z))))))
                                        refine lv_goto (tgt := 292) hx hb dX16_bestNow_253 (by decide) ?_
                                        refine lv_iinc (v := nI (k174 + 1)) (lv' := [(8, .int (nI (k174 + 1))), (9, .int (nI (rSm (bQ A ns nj nm at_) nm nn k102 k132 k174))), (7, .int (nI k132)), (6, .int (nI k102)), (5, .ref (gG (sArr T32 39 1 q39_1 7) 39 1)), (4, .ref (gG (sArr S 39 2 q39_2 (nn + 1)) 39 2)), (3, .int (nI nm)), (2, .int (nI ns)), (0, .ref (gG S 16 0)), (1, .int at_)]) hx hb dX16_bestNow_292 hl (k := 1) rfl (nI_1 _) (by decide) rfl (fun ls hl => ?_)
                                        refine lv_goto (tgt := 174) hx hb dX16_bestNow_295 (by decide) ?_
                                        exact ih174 (k174 + 1) g174 ta174 tb174 tc174 T174 _ _ _ (by omega) (hlt_k174) (hB) (hrow) (hg54) (h) (hK) (v39_2) (n39_2) (e39_2) (hq2) (v39_1) (n39_1) (e39_1) w (lv_sub hl [0, 2, 3, 4, 5, 6, 7, 8, 9] rfl)
                                    · have hB : BI (bQ A ns nj nm at_) nm nn g174 ta174 tb174 tc174 k102 k132 (k174 + 1) := hB.skC (Or.inr (Or.inr (Or.inl (mtB_t (b2i_t h219)))))
                                      refine lv_goto (tgt := 292) hx hb dX16_bestNow_222 (by decide) ?_
                                      refine lv_iinc (v := nI (k174 + 1)) (lv' := [(8, .int (nI (k174 + 1))), (7, .int (nI k132)), (6, .int (nI k102)), (5, .ref (gG (sArr T32 39 1 q39_1 7) 39 1)), (4, .ref (gG (sArr S 39 2 q39_2 (nn + 1)) 39 2)), (3, .int (nI nm)), (2, .int (nI ns)), (0, .ref (gG S 16 0)), (1, .int at_)]) hx hb dX16_bestNow_292 hl (k := 0) rfl (nI_1 _) (by decide) rfl (fun ls hl => ?_)
                                      refine lv_goto (tgt := 174) hx hb dX16_bestNow_295 (by decide) ?_
                                      exact ih174 (k174 + 1) g174 ta174 tb174 tc174 T174 _ _ _ (by omega) (hlt_k174) (hB) (hrow) (hg54) (h) (hK) (v39_2) (n39_2) (e39_2) (hq2) (v39_1) (n39_1) (e39_1) w (lv_sub hl [0, 1, 2, 3, 4, 5, 6, 7, 8] rfl)
                                refine lv_icmp_ge (tgt := 198) hx hb dX16_bestNow_187 (by decide) (fun h187 => ?_) (fun h187 => ?_)
                                · have hokc : rOk (bQ A ns nj nm at_) nm nn k174 := rOk_g ((nI_leI (a := nn) (b := k174) (by omega) (by omega)).mp h187)
                                  exact J198  _ _ _ (hokc) w (lv_sub hl [0, 1, 2, 3, 4, 5, 6, 7, 8] rfl)
                                · have hlh187 : k174 < nn := Nat.lt_of_not_le (fun z => h187 ((nI_leI (a := nn) (b := k174) (by omega) (by omega)).mpr z))
                                  refine lv_aload hx hb dX16_bestNow_190 (lv_at hl 4 rfl) ?_
                                  refine lv_iload hx hb dX16_bestNow_192 (lv_at hl 0 rfl) ?_
                                  refine rE1 ((show gG (sArr S 39 2 q39_2 (nn + 1)) 39 2 = q39_2 from rfl).trans e39_2.symm) ?_
                                  refine aLdI (S := T174) (t := 39) (v := nI (rQ (bQ A ns nj nm at_) nm nn k174)) X w v39_2 (by decide) rfl rfl (by rw [n39_2]; exact nI_vp (show k174 < nn + 1 by omega) (by omega)) (by rw [nI_clamp (by omega)]; exact hq2 k174) dX16_bestNow_194 ?_
                                  refine lv_if_eq (tgt := 292) hx hb dX16_bestNow_195 (by decide) (fun h195 => ?_) (fun h195 => ?_)
                                  · have hB : BI (bQ A ns nj nm at_) nm nn g174 ta174 tb174 tc174 k102 k132 (k174 + 1) := hB.skC (Or.inl (rOk_n hlh187 (fun s m => bQ_18) h195))
                                    refine lv_iinc (v := nI (k174 + 1)) (lv' := [(8, .int (nI (k174 + 1))), (7, .int (nI k132)), (6, .int (nI k102)), (5, .ref (gG (sArr T32 39 1 q39_1 7) 39 1)), (4, .ref (gG (sArr S 39 2 q39_2 (nn + 1)) 39 2)), (3, .int (nI nm)), (2, .int (nI ns)), (0, .ref (gG S 16 0)), (1, .int at_)]) hx hb dX16_bestNow_292 hl (k := 0) rfl (nI_1 _) (by decide) rfl (fun ls hl => ?_)
                                    refine lv_goto (tgt := 174) hx hb dX16_bestNow_295 (by decide) ?_
                                    exact ih174 (k174 + 1) g174 ta174 tb174 tc174 T174 _ _ _ (by omega) (hlt_k174) (hB) (hrow) (hg54) (h) (hK) (v39_2) (n39_2) (e39_2) (hq2) (v39_1) (n39_1) (e39_1) w (lv_sub hl [0, 1, 2, 3, 4, 5, 6, 7, 8] rfl)
                                  · have hokc : rOk (bQ A ns nj nm at_) nm nn k174 := rOk_p h195
                                    exact J198  _ _ _ (hokc) w (lv_sub hl [0, 1, 2, 3, 4, 5, 6, 7, 8] rfl)
                          exact L174 _ 0 g132 ta132 tb132 tc132 T132 _ _ _ (Nat.lt_succ_self _) (Nat.zero_le _) (hB) (hrow) (hg54) (h) (hK) (v39_2) (n39_2) (e39_2) (hq2) (v39_1) (n39_1) (e39_1) w (lv_sub hl [0, 1, 2, 3, 4, 5, 6, 7, 8] rfl)
                        · have hB : BI (bQ A ns nj nm at_) nm nn g132 ta132 tb132 tc132 k102 (k132 + 1) 0 := hB.skB (Or.inr (mtB_t (b2i_t h165)))
                          refine lv_goto (tgt := 298) hx hb dX16_bestNow_168 (by decide) ?_
                          refine lv_iinc (v := nI (k132 + 1)) (lv' := [(7, .int (nI (k132 + 1))), (6, .int (nI k102)), (5, .ref (gG (sArr T32 39 1 q39_1 7) 39 1)), (4, .ref (gG (sArr S 39 2 q39_2 (nn + 1)) 39 2)), (3, .int (nI nm)), (2, .int (nI ns)), (0, .ref (gG S 16 0)), (1, .int at_)]) hx hb dX16_bestNow_298 hl (k := 0) rfl (nI_1 _) (by decide) rfl (fun ls hl => ?_)
                          refine lv_goto (tgt := 132) hx hb dX16_bestNow_301 (by decide) ?_
                          exact ih132 (k132 + 1) g132 ta132 tb132 tc132 T132 _ _ _ (by omega) (hlt_k132) (hB) (hrow) (hg54) (h) (hK) (v39_2) (n39_2) (e39_2) (hq2) (v39_1) (n39_1) (e39_1) w (lv_sub hl [0, 1, 2, 3, 4, 5, 6, 7] rfl)
                      refine lv_icmp_ge (tgt := 156) hx hb dX16_bestNow_145 (by decide) (fun h145 => ?_) (fun h145 => ?_)
                      · have hokb : rOk (bQ A ns nj nm at_) nm nn k132 := rOk_g ((nI_leI (a := nn) (b := k132) (by omega) (by omega)).mp h145)
                        exact J156  _ _ _ (hokb) w (lv_sub hl [0, 1, 2, 3, 4, 5, 6, 7] rfl)
                      · have hlh145 : k132 < nn := Nat.lt_of_not_le (fun z => h145 ((nI_leI (a := nn) (b := k132) (by omega) (by omega)).mpr z))
                        refine lv_aload hx hb dX16_bestNow_148 (lv_at hl 3 rfl) ?_
                        refine lv_iload hx hb dX16_bestNow_150 (lv_at hl 0 rfl) ?_
                        refine rE1 ((show gG (sArr S 39 2 q39_2 (nn + 1)) 39 2 = q39_2 from rfl).trans e39_2.symm) ?_
                        refine aLdI (S := T132) (t := 39) (v := nI (rQ (bQ A ns nj nm at_) nm nn k132)) X w v39_2 (by decide) rfl rfl (by rw [n39_2]; exact nI_vp (show k132 < nn + 1 by omega) (by omega)) (by rw [nI_clamp (by omega)]; exact hq2 k132) dX16_bestNow_152 ?_
                        refine lv_if_eq (tgt := 298) hx hb dX16_bestNow_153 (by decide) (fun h153 => ?_) (fun h153 => ?_)
                        · have hB : BI (bQ A ns nj nm at_) nm nn g132 ta132 tb132 tc132 k102 (k132 + 1) 0 := hB.skB (Or.inl (rOk_n hlh145 (fun s m => bQ_18) h153))
                          refine lv_iinc (v := nI (k132 + 1)) (lv' := [(7, .int (nI (k132 + 1))), (6, .int (nI k102)), (5, .ref (gG (sArr T32 39 1 q39_1 7) 39 1)), (4, .ref (gG (sArr S 39 2 q39_2 (nn + 1)) 39 2)), (3, .int (nI nm)), (2, .int (nI ns)), (0, .ref (gG S 16 0)), (1, .int at_)]) hx hb dX16_bestNow_298 hl (k := 0) rfl (nI_1 _) (by decide) rfl (fun ls hl => ?_)
                          refine lv_goto (tgt := 132) hx hb dX16_bestNow_301 (by decide) ?_
                          exact ih132 (k132 + 1) g132 ta132 tb132 tc132 T132 _ _ _ (by omega) (hlt_k132) (hB) (hrow) (hg54) (h) (hK) (v39_2) (n39_2) (e39_2) (hq2) (v39_1) (n39_1) (e39_1) w (lv_sub hl [0, 1, 2, 3, 4, 5, 6, 7] rfl)
                        · have hokb : rOk (bQ A ns nj nm at_) nm nn k132 := rOk_p h153
                          exact J156  _ _ _ (hokb) w (lv_sub hl [0, 1, 2, 3, 4, 5, 6, 7] rfl)
                exact L132 _ 0 g102 ta102 tb102 tc102 T102 _ _ _ (Nat.lt_succ_self _) (Nat.zero_le _) (hB) (hrow) (hg54) (h) (hK) (v39_2) (n39_2) (e39_2) (hq2) (v39_1) (n39_1) (e39_1) w (lv_sub hl [0, 1, 2, 3, 4, 5, 6, 7] rfl)
              refine lv_icmp_ge (tgt := 129) hx hb dX16_bestNow_115 (by decide) (fun h115 => ?_) (fun h115 => ?_)
              · have hok : rOk (bQ A ns nj nm at_) nm nn k102 := rOk_g ((nI_leI (a := nn) (b := k102) (by omega) (by omega)).mp h115)
                exact J129  _ _ _ (hok) w (lv_sub hl [0, 1, 2, 3, 4, 5, 6] rfl)
              · have hlh115 : k102 < nn := Nat.lt_of_not_le (fun z => h115 ((nI_leI (a := nn) (b := k102) (by omega) (by omega)).mpr z))
                refine lv_aload hx hb dX16_bestNow_118 (lv_at hl 2 rfl) ?_
                refine lv_iload hx hb dX16_bestNow_120 (lv_at hl 0 rfl) ?_
                refine rE1 ((show gG (sArr S 39 2 q39_2 (nn + 1)) 39 2 = q39_2 from rfl).trans e39_2.symm) ?_
                refine aLdI (S := T102) (t := 39) (v := nI (rQ (bQ A ns nj nm at_) nm nn k102)) X w v39_2 (by decide) rfl rfl (by rw [n39_2]; exact nI_vp (show k102 < nn + 1 by omega) (by omega)) (by rw [nI_clamp (by omega)]; exact hq2 k102) dX16_bestNow_122 ?_
                refine lv_if_ne (tgt := 129) hx hb dX16_bestNow_123 (by decide) (fun h123 => ?_) (fun h123 => ?_)
                · have hok : rOk (bQ A ns nj nm at_) nm nn k102 := rOk_p h123
                  exact J129  _ _ _ (hok) w (lv_sub hl [0, 1, 2, 3, 4, 5, 6] rfl)
                · have hB : BI (bQ A ns nj nm at_) nm nn g102 ta102 tb102 tc102 (k102 + 1) 0 0 := hB.skA (rOk_n hlh115 (fun s m => bQ_18) h123)
                  refine lv_goto (tgt := 304) hx hb dX16_bestNow_126 (by decide) ?_
                  refine lv_iinc (v := nI (k102 + 1)) (lv' := [(6, .int (nI (k102 + 1))), (5, .ref (gG (sArr T32 39 1 q39_1 7) 39 1)), (4, .ref (gG (sArr S 39 2 q39_2 (nn + 1)) 39 2)), (3, .int (nI nm)), (2, .int (nI ns)), (0, .ref (gG S 16 0)), (1, .int at_)]) hx hb dX16_bestNow_304 hl (k := 0) rfl (nI_1 _) (by decide) rfl (fun ls hl => ?_)
                  refine lv_goto (tgt := 102) hx hb dX16_bestNow_307 (by decide) ?_
                  exact ih102 (k102 + 1) g102 ta102 tb102 tc102 T102 _ _ _ (by omega) (hlt_k102) (hB) (hrow) (hg54) (h) (hK) (v39_2) (n39_2) (e39_2) (hq2) (v39_1) (n39_1) (e39_1) w (lv_sub hl [0, 1, 2, 3, 4, 5, 6] rfl)
        exact L102 _ 0 0 nn nn nn U12 _ _ _ (Nat.lt_succ_self _) (Nat.zero_le _) (hB) (hrow) (hg54) (h) (hK) (v39_2) (n39_2) (e39_2) (hq2) (v39_1) (n39_1) (e39_1) w (lv_sub hl [0, 1, 2, 3, 4, 5, 6] rfl)
      · have hlt_k32 : k32 < nn := by
          skip
          exact Nat.lt_of_not_le (fun z => hc_k32 ((nI_leI (a := nn) (b := k32) (by omega) (by omega)).mpr z))
        have hm0 : 0 < nm := nn_h (n := ns) (by rw [← hnn]; exact hlt_k32)
        have hdv : k32 / nm < ns := nn_d (by rw [← hnn]; exact hlt_k32)
        have hm5 := h.b_mo
        refine lv_aload hx hb dX16_bestNow_40 (lv_at hl 1 rfl) ?_
        refine lv_iload hx hb dX16_bestNow_42 (lv_at hl 0 rfl) ?_
        refine lv_aload_n hx hb dX16_bestNow_44 rfl (lv_at hl 4 rfl) ?_
        refine lv_iload hx hb dX16_bestNow_45 (lv_at hl 0 rfl) ?_
        refine lv_iload_n hx hb dX16_bestNow_47 rfl (lv_at hl 2 rfl) ?_
        refine lv_irem hx hb dX16_bestNow_48 (nI_ne0 hm0 (by omega)) ?_
        refine lv_topi (fun z31 ez31 => ?_)
        obtain rfl : z31 = nI (k32 % nm) := ez31.trans (pk_rem (by omega) hm0 (by omega))
        refine lv_iload hx hb dX16_bestNow_49 (lv_at hl 0 rfl) ?_
        refine lv_iload_n hx hb dX16_bestNow_51 rfl (lv_at hl 2 rfl) ?_
        refine lv_idiv hx hb dX16_bestNow_52 (nI_ne0 hm0 (by omega)) ?_
        refine lv_topi (fun z32 ez32 => ?_)
        obtain rfl : z32 = nI (k32 / nm) := ez32.trans (pk_div (by omega) hm0 (by omega))
        refine lv_iload_n hx hb dX16_bestNow_53 rfl (lv_at hl 5 rfl) ?_
        refine rE3 ((rfl).trans ((hK_T32.G (t := 16) (i := 0) rfl)).symm) ?_
        refine cV (S := T32) (nA := 3) (As := [.int (nI (k32 % nm)), .int (nI (k32 / nm)), .int at_]) (rest := [.int (nI k32), .ref (gG (sArr S 39 2 q39_2 (nn + 1)) 39 2)]) X w hl h.v (m_X16_qualityNow G T32 ea ns nj nm nt nr nq h (k32 % nm) (k32 / nm) (Nat.mod_lt _ hm0) hdv at_) wY_X16_qualityNow wM_X16_115 wIn_X16_qualityNow wSe_X16_X16_qualityNow wI_X16 (by decide) rfl (by decide +kernel) rfl rfl dX16_bestNow_54 ⟨by decide, by decide⟩ (Nat.le_of_ble_eq_true rfl) (⟨(show 0 + 1 + 0 ≤ 2 by omega), (show 0 + (nn + 1) + 0 ≤ 48 by omega)⟩) (fun v33 S1 H locs hp w => ?_)
        obtain ⟨rfl, rfl⟩ := hp
        refine rE2 ((show gG (sArr S 39 2 q39_2 (nn + 1)) 39 2 = q39_2 from rfl).trans e39_2.symm) ?_
        refine aStI (S := T32) (t := 39) X w v39_2 (by decide) rfl rfl (by rw [n39_2]; exact nI_vp (Nat.lt_succ_of_lt hlt_k32) (by omega)) dX16_bestNow_57 (fun H locs w => ?_)
        have h : RI ea (sA T32 39 2 (upd (mA T32 39 2) (nI k32).toNatClampNeg (rQual T32 ns nj (k32 % nm) (k32 / nm) at_))) ns nj nm nt nr nq := h.stA (by decide)
        have hK : Kq (hvT LB) hNo hNo S (sA T32 39 2 (upd (mA T32 39 2) (nI k32).toNatClampNeg (rQual T32 ns nj (k32 % nm) (k32 / nm) at_))) := hK.sA rfl
        have hq2 : ∀ q, mA (sA T32 39 2 (upd (mA T32 39 2) (nI k32).toNatClampNeg (rQual T32 ns nj (k32 % nm) (k32 / nm) at_))) 39 2 q = if q < k32 + 1 then nI (rQ (bQ A ns nj nm at_) nm nn q) else 0 := fun q => by
          rw [show mA (sA T32 39 2 (upd (mA T32 39 2) (nI k32).toNatClampNeg (rQual T32 ns nj (k32 % nm) (k32 / nm) at_))) 39 2 = upd (mA T32 39 2) (nI k32).toNatClampNeg (rQual T32 ns nj (k32 % nm) (k32 / nm) at_) from sA_s, nI_clamp (by omega)]
          by_cases d : q = k32
          · rw [d, upd_s, if_pos (Nat.lt_succ_self _), (hF.keepT (kBT hK_T32)).qual, bQ_v hdv (Nat.mod_lt _ hm0)]; exact (congrArg nI (if_pos hlt_k32)).symm
          · rw [upd_o d, hq2 q]
            by_cases e : q < k32
            · rw [if_pos e, if_pos (Nat.lt_succ_of_lt e)]
            · rw [if_neg e, if_neg (show ¬ q < k32 + 1 by omega)]
        refine lv_iinc (v := nI (k32 + 1)) (lv' := [(5, .int (nI (k32 + 1))), (4, .ref (gG (sArr S 39 2 q39_2 (nn + 1)) 39 2)), (3, .int (nI nm)), (2, .int (nI ns)), (0, .ref (gG S 16 0)), (1, .int at_)]) hx hb dX16_bestNow_58 hl (k := 0) rfl (nI_1 _) (by decide) rfl (fun ls hl => ?_)
        refine lv_goto (tgt := 32) hx hb dX16_bestNow_61 (by decide) ?_
        exact ih32 (k32 + 1) (sA T32 39 2 (upd (mA T32 39 2) (nI k32).toNatClampNeg (rQual T32 ns nj (k32 % nm) (k32 / nm) at_))) _ _ _ (by omega) (hlt_k32) (hq2) (h) (hK) (nv39_1) (v39_2) (n39_2) (e39_2) w (lv_sub hl [0, 1, 2, 3, 4, 5] rfl)
  exact L32 _ 0 (sArr S 39 2 q39_2 (nn + 1)) _ _ _ (Nat.lt_succ_self _) (Nat.zero_le _) (fun q => (congrFun (show mA (sArr S 39 2 q39_2 (nn + 1)) 39 2 = (fun _ => 0) from up2_s (mA S) 39 2 (fun _ => 0)) q).trans (if_neg (Nat.not_lt_zero q)).symm) (h) (hK) (nv39_1) (v39_2) (n39_2) (e39_2) w (lv_sub hl [0, 1, 2, 3, 4, 5] rfl)

