theorem hold_eq {v lo hi : Int32} (h : lo ≤ hi) : sHold v lo hi = rHold v lo hi := by
  unfold sHold sMax sMin rHold
  by_cases c1 : v < lo
  · have c2 : v < hi := Int32.lt_of_lt_of_le c1 h
    rw [if_pos c1, if_pos c2, if_neg (fun z => Int32.lt_irrefl (Int32.lt_trans z c1))]
  · rw [if_neg c1]
    by_cases c2 : hi < v
    · rw [if_pos c2, if_neg (fun z => Int32.lt_irrefl (Int32.lt_trans z c2))]
      by_cases c3 : lo < hi
      · rw [if_pos c3]
      · rw [if_neg c3]; exact Int32.le_antisymm h (Int32.not_lt.mp c3)
    · rw [if_neg c2]
      by_cases c3 : v < hi
      · rw [if_pos c3]
        by_cases c4 : lo < v
        · rw [if_pos c4]
        · rw [if_neg c4]; exact Int32.le_antisymm (Int32.not_lt.mp c1) (Int32.not_lt.mp c4)
      · have e : v = hi := Int32.le_antisymm (Int32.not_lt.mp c2) (Int32.not_lt.mp c3)
        rw [if_neg c3, ← e]
        by_cases c4 : lo < v
        · rw [if_pos c4]
        · rw [if_neg c4]; exact Int32.le_antisymm (Int32.not_lt.mp c1) (Int32.not_lt.mp c4)
/-- x without its last n digits -/
def cDiv (x : Int32) : Nat → Int32
  | 0 => x
  | n + 1 => cDiv x n / 10
/-- the picture in order: the shift names what there is; what talks are told as is in its bounds -/
def AOK (A : HS) (ns nm nt : Nat) : Prop :=
  (∀ x k, x < 24 → k < 3 → (mA A 36 x k = -1 ∧ mA A 37 x k = -1) ∨ ∃ s m, s < ns ∧ m < nm ∧ mA A 36 x k = nI s ∧ mA A 37 x k = nI m) ∧
  (∀ j, j < ns → ∃ g, g < 5 ∧ mI A 227 j = nI g) ∧
  (∀ j, j < nt → (∃ t, t < 720 ∧ mI A 241 j = nI t) ∧ (∃ w, w ≤ 300 ∧ mI A 243 j = nI w) ∧ (∃ w, w ≤ 9 ∧ mI A 244 j = nI w) ∧ (∃ f, f < 65536 ∧ mI A 245 j = nI f) ∧ (mI A 246 j = -1 ∨ ∃ f, f < 65536 ∧ mI A 246 j = nI f)) ∧
  (∀ j, j < nt → mI A 247 j = -1 ∨ ∃ q m, 1 ≤ q ∧ q ≤ 18 ∧ m < nm ∧ mI A 248 j = nI q ∧ mI A 250 j = nI m)
/-- the queue of corrections stands in the picture as the row (60, 0): how many, and which talks -/
def qN (A : HS) : Nat := mN A 60 0
def qT (A : HS) (i : Nat) : Nat := (mA A 60 0 i).toNatClampNeg
def sQ (A : HS) (n : Nat) (f : Nat → Int32) : HS := (A.1, A.2.1, A.2.2.1, A.2.2.2.1, up2 A.2.2.2.2.1 60 0 n, up2 A.2.2.2.2.2.1 60 0 f, A.2.2.2.2.2.2)
/-- the class's monitors, readers, prints -/
def RCm (S A : HS) (nm : Nat) : Prop := ∀ m, m < nm → (∀ k, k < 5 → cDiv (mI S 49 m) k - cDiv (mI S 49 m) k / 10 * 10 = mA A 34 m k) ∧ mI S 50 m = mI A 193 m ∧ mI S 51 m = mI A 194 m
def RCd (S A : HS) (nr : Nat) : Prop := ∀ r, r < nr → mI S 81 r = mI A 208 r ∧ mI S 82 r = mI A 209 r
def RCp (S A : HS) (nt : Nat) : Prop := ∀ j, j < nt → mI S 151 j = mI A 246 j
/-- a report as the class has it -/
def RCf (S A : HS) (nr j : Nat) : Prop :=
  mI S 96 j = rSort (mI A 244 j) ∧ mI S 97 j = rLen (mI A 244 j) (mI A 243 j) (mI A 248 j) ∧ mI S 98 j = rCaught (mI A 243 j) (mI A 248 j) ∧ mI S 99 j = rHeard (mI A 245 j) (mI A 248 j) ∧ mI S 100 j = rGuess (mI A 245 j) (mI A 248 j) ∧
  mI S 101 j = mI A 249 j ∧ mI S 102 j = mI A 250 j ∧ mI S 103 j = mI A 248 j ∧ mI S 104 j = mI A 247 j ∧ mI S 105 j = mI A 251 j ∧ (mI A 247 j = 1 → mI S 106 j = mI A 252 j) ∧ mI S 107 j = mI A 253 j ∧
  (∀ r, r < nr → mA A 35 r j = if sIn (mI S 108 j) (nI r) = true then (if mI A 253 j = 2 then 2 else 1) else 0) ∧ (∀ r, nr ≤ r → r < 4 → sIn (mI S 108 j) (nI r) = false) ∧ ∃ b, b < 16 ∧ mI S 108 j = nI b
def RCr (S A : HS) (nr j : Nat) : Prop := (mR S 152 j = none ∧ mI A 247 j = -1 ∧ mI A 253 j = 0 ∧ (∀ r, r < nr → mA A 35 r j = 0) ∧ mI A 251 j = -1) ∨ (mR S 152 j = some (gG S 6 j) ∧ vV S 6 j ∧ ¬ mI A 247 j = -1 ∧ RCf S A nr j)
/-- the corrections that wait, in both -/
def RKQ (S A : HS) (nt nc : Nat) : Prop := ∃ g, mI S 67 0 = nI g ∧ g + qN A = nc ∧ ∀ i, i < qN A → ∃ j, j < nt ∧ mA A 60 0 i = nI j ∧ mB S 30 5 (g + i) = some (gG S 9 j) ∧ ¬ mI A 253 j = 0
/-- a correction is of a report that is sent, with a print; what waits goes by the wire; how many reports a monitor has made -/
def AQ1 (A : HS) (nt : Nat) : Prop := ∀ j, j < nt → ¬ mI A 253 j = 0 → mI A 247 j = 1 ∧ ¬ mI A 246 j = -1
def AQ2 (A : HS) (nt : Nat) : Prop := ∀ j, j < nt → mI A 247 j = 0 → ¬ rSort (mI A 244 j) = 0
def rBy (A : HS) (m : Nat) (k : Nat) : Bool := decide (¬ mI A 247 k = -1) && decide (mI A 250 k = nI m)
def AQ3 (A : HS) (nm nt : Nat) : Prop := ∀ m, m < nm → mI A 195 m = rCnt (rBy A m) nt
/-- how many talks have a correction, waiting or sent -/
def cN (A : HS) (nt : Nat) : Nat := cntB (fun k => decide (¬ mI A 253 k = 0)) nt
/-- what is not sent nobody has; a correction is of what is wrong; the words of a day -/
def AQ7 (A : HS) (nt nr : Nat) : Prop := ∀ j, j < nt → ¬ mI A 247 j = 1 → ∀ r, r < nr → mA A 35 r j = 0
def AQ8 (A : HS) (nt : Nat) : Prop := ∀ j, j < nt → ¬ mI A 253 j = 0 → rWrong (mI A 247 j) (mI A 246 j) (mI A 245 j) (mI A 248 j) = true
def AQ9 (A : HS) : Prop := ∃ w, w ≤ 600 ∧ mI A 258 0 = nI w
/-- so many are sent, and each has its turn -/
def AQ4 (A : HS) (nt : Nat) : Prop := mI A 261 0 = rCnt (fun k => decide (mI A 247 k = 1)) nt ∧ ∀ j, j < nt → mI A 247 j = 1 → mI A 252 j < mI A 261 0
/-- all that the class has of the picture -/
def RK (S A : HS) (ns nj nm nt nr nc : Nat) : Prop :=
  (RC S A ns nj nt) ∧
  (AOK A ns nm nt) ∧
  (RCm S A nm) ∧
  (RCd S A nr) ∧
  (RCp S A nt) ∧
  (∀ j, j < nt → RCr S A nr j) ∧
  (mI S 69 0 = mI A 258 0) ∧
  (mI S 68 0 = mI A 261 0) ∧
  (RKQ S A nt nc) ∧
  (AQ1 A nt) ∧
  (AQ2 A nt) ∧
  (AQ3 A nm nt) ∧
  (AQ4 A nt) ∧
  (nc = cN A nt) ∧
  (AQ7 A nt nr) ∧
  (AQ8 A nt) ∧
  (AQ9 A) ∧
  (∀ r, r < nr → ∀ j, nt ≤ j → mA A 35 r j = 0)
theorem RK.rc {S A : HS} {ns nj nm nt nr nc : Nat} (h : RK S A ns nj nm nt nr nc) : RC S A ns nj nt := h.1
theorem RK.ok {S A : HS} {ns nj nm nt nr nc : Nat} (h : RK S A ns nj nm nt nr nc) : AOK A ns nm nt := h.2.1
theorem RK.mo {S A : HS} {ns nj nm nt nr nc : Nat} (h : RK S A ns nj nm nt nr nc) : RCm S A nm := h.2.2.1
theorem RK.re {S A : HS} {ns nj nm nt nr nc : Nat} (h : RK S A ns nj nm nt nr nc) : RCd S A nr := h.2.2.2.1
theorem RK.pr {S A : HS} {ns nj nm nt nr nc : Nat} (h : RK S A ns nj nm nt nr nc) : RCp S A nt := h.2.2.2.2.1
theorem RK.rp {S A : HS} {ns nj nm nt nr nc : Nat} (h : RK S A ns nj nm nt nr nc) : ∀ j, j < nt → RCr S A nr j := h.2.2.2.2.2.1
theorem RK.wi {S A : HS} {ns nj nm nt nr nc : Nat} (h : RK S A ns nj nm nt nr nc) : mI S 69 0 = mI A 258 0 := h.2.2.2.2.2.2.1
theorem RK.tu {S A : HS} {ns nj nm nt nr nc : Nat} (h : RK S A ns nj nm nt nr nc) : mI S 68 0 = mI A 261 0 := h.2.2.2.2.2.2.2.1
theorem RK.qu {S A : HS} {ns nj nm nt nr nc : Nat} (h : RK S A ns nj nm nt nr nc) : RKQ S A nt nc := h.2.2.2.2.2.2.2.2.1
theorem RK.q1 {S A : HS} {ns nj nm nt nr nc : Nat} (h : RK S A ns nj nm nt nr nc) : AQ1 A nt := h.2.2.2.2.2.2.2.2.2.1
theorem RK.q2 {S A : HS} {ns nj nm nt nr nc : Nat} (h : RK S A ns nj nm nt nr nc) : AQ2 A nt := h.2.2.2.2.2.2.2.2.2.2.1
theorem RK.q3 {S A : HS} {ns nj nm nt nr nc : Nat} (h : RK S A ns nj nm nt nr nc) : AQ3 A nm nt := h.2.2.2.2.2.2.2.2.2.2.2.1
theorem RK.q4 {S A : HS} {ns nj nm nt nr nc : Nat} (h : RK S A ns nj nm nt nr nc) : AQ4 A nt := h.2.2.2.2.2.2.2.2.2.2.2.2.1
theorem RK.q6 {S A : HS} {ns nj nm nt nr nc : Nat} (h : RK S A ns nj nm nt nr nc) : nc = cN A nt := h.2.2.2.2.2.2.2.2.2.2.2.2.2.1
theorem RK.q7 {S A : HS} {ns nj nm nt nr nc : Nat} (h : RK S A ns nj nm nt nr nc) : AQ7 A nt nr := h.2.2.2.2.2.2.2.2.2.2.2.2.2.2.1
theorem RK.q8 {S A : HS} {ns nj nm nt nr nc : Nat} (h : RK S A ns nj nm nt nr nc) : AQ8 A nt := h.2.2.2.2.2.2.2.2.2.2.2.2.2.2.2.1
theorem RK.q9 {S A : HS} {ns nj nm nt nr nc : Nat} (h : RK S A ns nj nm nt nr nc) : AQ9 A := h.2.2.2.2.2.2.2.2.2.2.2.2.2.2.2.2.1
theorem RK.rz {S A : HS} {ns nj nm nt nr nc : Nat} (h : RK S A ns nj nm nt nr nc) : ∀ r, r < nr → ∀ j, nt ≤ j → mA A 35 r j = 0 := h.2.2.2.2.2.2.2.2.2.2.2.2.2.2.2.2.2
section RKS
variable {S A : HS} {ns nj nm nt nr nc : Nat}
theorem RC.tSx (h : RC S A ns nj nt) (hb : ns ≤ 8) {j : Nat} (hj : j < nt) : tS A j < ns ∧ mI A 240 j = nI (tS A j) ∧ mR S 145 j = some (gG S 8 (tS A j)) := by
  obtain ⟨⟨i, hi, e1, e2⟩, -⟩ := h.2.2.2.1 j hj
  have e : tS A j = i := by unfold tS; rw [e1]; exact nI_clamp (by omega)
  rw [e]; exact ⟨hi, e1, e2⟩
end RKS

theorem a_X0_strengthOf {s0 : State} {l : Launch} {D : va_G} {cy : Nat → ClassId} (G : Gl s0 l D cy) (S : HS) (ea ns nj nm nt nr nc : Nat) (h : CI ea S ns nj nm nt nr nc) (A : HS) (hA : RK S A ns nj nm nt nr nc) (i : Nat) (hi : i < ns) (a : Int32) : Ctr s0 l D cy yX0_strengthOf cX0_strengthOf 6 (some .int) rm_m_X0_strengthOf S [.ref (gG S 0 0), .ref (gG S 8 i), .int a] (PU S (some (.int (rComes A ns nj i a)))) := by
  rw [← hA.rc.comes hi]
  exact m_X0_strengthOf G S ea ns nj nm nt nr nc h i hi a
theorem a_X7_stationIn {s0 : State} {l : Launch} {D : va_G} {cy : Nat → ClassId} (G : Gl s0 l D cy) (S : HS) (ea ns nj nm nt nr nc : Nat) (h : CI ea S ns nj nm nt nr nc) (A : HS) (hA : RK S A ns nj nm nt nr nc) (x k : Nat) (hx4 : x < 24) (hk : k < 3) : Ctr s0 l D cy yX7_stationIn cX7_stationIn 3 (some .int) rm_m_X7_stationIn S [.ref (gG S 7 0), .int (nI x), .int (nI k)] (PU S (some (.int (mA A 36 x k)))) := by
  rw [← (hA.rc.2.2.1 x k hx4 hk).1, ← cSlot_nI hx4 hk]
  exact m_X7_stationIn G S ea ns nj nm nt nr nc h (nI x) (nI k)
theorem a_X7_monitorIn {s0 : State} {l : Launch} {D : va_G} {cy : Nat → ClassId} (G : Gl s0 l D cy) (S : HS) (ea ns nj nm nt nr nc : Nat) (h : CI ea S ns nj nm nt nr nc) (A : HS) (hA : RK S A ns nj nm nt nr nc) (x k : Nat) (hx4 : x < 24) (hk : k < 3) : Ctr s0 l D cy yX7_monitorIn cX7_monitorIn 3 (some .int) rm_m_X7_monitorIn S [.ref (gG S 7 0), .int (nI x), .int (nI k)] (PU S (some (.int (mA A 37 x k)))) := by
  rw [← (hA.rc.2.2.1 x k hx4 hk).2, ← cSlot_nI hx4 hk]
  exact m_X7_monitorIn G S ea ns nj nm nt nr nc h (nI x) (nI k)
abbrev rm_a_X8_isOnAir : Room := { frames := 0, cells := 0, slots := 0, locals := 0 }
set_option maxHeartbeats 4000000 in
set_option maxRecDepth 100000 in
theorem a_X8_isOnAir {s0 : State} {l : Launch} {D : va_G} {cy : Nat → ClassId} (G : Gl s0 l D cy) (S : HS) (ea ns nj nm nt nr nc : Nat) (h : CI ea S ns nj nm nt nr nc) (A : HS) (hA : RK S A ns nj nm nt nr nc) (i : Nat) (hi : i < ns) (a : Int32) : Ctr s0 l D cy yX8_isOnAir cX8_isOnAir 2 (some .boolean) rm_a_X8_isOnAir S [.ref (gG S 8 i), .int a] (PU S (some (.int (b2i (sIn (mI A 228 i) a))))) := by
  refine pro "CavershamShift$Station" G rfl rfl (Nat.le_of_ble_eq_true rfl) (fun p e s m below meth c ls X w hnm hl => ?_)
  have hx := X.1
  have hb := X.2.1
  have hown := X.2.2.2.1
  have hts := X.2.2.2.2.1
  have hl : lv_has ls 2 [(0, .ref (gG S 8 i)), (1, .int a)] := hl
  refine lv_aload_n hx hb dX8_isOnAir_0 rfl (lv_at hl 0 rfl) ?_
  refine g_8_6 (S := S) (x := (mI A 228 i)) X w (h.e_st i hi).2 wF_X8_28 ((hA.rc.1 i hi).2.2.2.2.2) dX8_isOnAir_1 ?_
  refine lv_iload_n hx hb dX8_isOnAir_4 rfl (lv_at hl 1 rfl) ?_
  refine lv_ishr hx hb dX8_isOnAir_5 ?_
  refine lv_iconst (v := 1) hx hb dX8_isOnAir_6 (by decide) ?_
  refine lv_iand hx hb dX8_isOnAir_7 ?_
  refine lv_iconst (v := 1) hx hb dX8_isOnAir_8 (by decide) ?_
  refine lv_icmp_ne (tgt := 16) hx hb dX8_isOnAir_9 (by decide) (fun hc1 => ?_) (fun hc1 => ?_)
  · refine lv_iconst (v := 0) hx hb dX8_isOnAir_16 (by decide) ?_
    exact rZ X w rfl dX8_isOnAir_17 (by decide) (by decide) (by decide) (pu_i (by simp_all [sIn, b2i]))
  · refine lv_iconst (v := 1) hx hb dX8_isOnAir_12 (by decide) ?_
    refine lv_goto (tgt := 17) hx hb dX8_isOnAir_13 (by decide) ?_
    exact rZ X w rfl dX8_isOnAir_17 (by decide) (by decide) (by decide) (pu_i (by simp_all [sIn, b2i]))

abbrev rm_a_X3_skillFor : Room := { frames := 0, cells := 0, slots := 0, locals := 0 }
set_option maxHeartbeats 4000000 in
set_option maxRecDepth 100000 in
theorem a_X3_skillFor {s0 : State} {l : Launch} {D : va_G} {cy : Nat → ClassId} (G : Gl s0 l D cy) (S : HS) (ea ns nj nm nt nr nc : Nat) (h : CI ea S ns nj nm nt nr nc) (A : HS) (hA : RK S A ns nj nm nt nr nc) (i g : Nat) (hi : i < nm) (hg : g < 5) : Ctr s0 l D cy yX3_skillFor cX3_skillFor 4 (some .int) rm_a_X3_skillFor S [.ref (gG S 3 i), .int (nI g)] (PU S (some (.int (mA A 34 i g)))) := by
  refine pro "CavershamShift$Monitor" G rfl rfl (Nat.le_of_ble_eq_true rfl) (fun p e s m below meth c ls X w hnm hl => ?_)
  have hx := X.1
  have hb := X.2.1
  have hown := X.2.2.2.1
  have hts := X.2.2.2.2.1
  have hl : lv_has ls 4 [(0, .ref (gG S 3 i)), (1, .int (nI g))] := hl
  refine lv_aload_n hx hb dX3_skillFor_0 rfl (lv_at hl 0 rfl) ?_
  refine g_3_1 (S := S) (x := (mI S 49 i)) X w (h.e_mo i hi).2 wF_X3_13 (rfl) dX3_skillFor_1 ?_
  refine lv_istore_n (lv' := [(2, .int (mI S 49 i)), (0, .ref (gG S 3 i)), (1, .int (nI g))]) hx hb dX3_skillFor_4 rfl hl (by decide) rfl (fun ls hl => ?_)
  refine lv_iconst (v := 0) hx hb dX3_skillFor_5 (by decide) ?_
  refine lv_istore_n (lv' := [(3, .int 0), (2, .int (mI S 49 i)), (0, .ref (gG S 3 i)), (1, .int (nI g))]) hx hb dX3_skillFor_6 rfl hl (by decide) rfl (fun ls hl => ?_)
  have L7 : ∀ (N : Nat) (k : Nat) (y : Int32) (H : Heap) (locs : List Loc) (ls : Array Slot), g - k < N → (k ≤ g) → (y = cDiv (mI S 49 i) k) → Wd s0 D cy S s.heap H locs → lv_has ls 4 [(0, .ref (gG S 3 i)), (1, .int (nI g)), (2, .int y), (3, .int (nI k))] → W p l e rm_a_X3_skillFor s m ([.ref (gG S 3 i), .int (nI g)] : List Value).toArray below meth c H locs 0 0 (MQ below (GQ s0 D cy (PU S (some (.int (mA A 34 i g))))) ([.ref (gG S 3 i), .int (nI g)] : List Value).toArray s rm_a_X3_skillFor.cells rm_a_X3_skillFor.slots (A0 s0)) (F0 m 7 ls []) := by
    intro N
    induction N with
    | zero => intros; omega
    | succ N ih7 =>
      intro k y H locs ls hmu hk hy w hl
      refine lv_iload_n hx hb dX3_skillFor_7 rfl (lv_at hl 3 rfl) ?_
      refine lv_iload_n hx hb dX3_skillFor_8 rfl (lv_at hl 1 rfl) ?_
      refine lv_icmp_ge (tgt := 23) hx hb dX3_skillFor_9 (by decide) (fun hq9 => ?_) (fun hq9 => ?_)
      · have hge : g ≤ k := (nI_leI (by omega) (by omega)).mp hq9
        refine lv_iload_n hx hb dX3_skillFor_23 rfl (lv_at hl 2 rfl) ?_
        refine lv_bipush (v := 10) hx hb dX3_skillFor_24 (by decide) ?_
        refine lv_irem hx hb dX3_skillFor_26 (by decide) ?_
        exact rI X w rfl dX3_skillFor_27 (by decide) (by decide) (pu_i (by rw [← (hA.mo i hi).1 g hg, hy, show k = g by omega]))
      · have hlt : k < g := Nat.lt_of_not_le (fun z => hq9 ((nI_leI (by omega) (by omega)).mpr z))
        refine lv_iload_n hx hb dX3_skillFor_12 rfl (lv_at hl 2 rfl) ?_
        refine lv_bipush (v := 10) hx hb dX3_skillFor_13 (by decide) ?_
        refine lv_idiv hx hb dX3_skillFor_15 (by decide) ?_
        refine lv_istore_n (lv' := [(2, .int (y / 10)), (0, .ref (gG S 3 i)), (1, .int (nI g)), (3, .int (nI k))]) hx hb dX3_skillFor_16 rfl hl (by decide) rfl (fun ls hl => ?_)
        refine lv_iinc (v := nI (k + 1)) (lv' := [(3, .int (nI (k + 1))), (2, .int (y / 10)), (0, .ref (gG S 3 i)), (1, .int (nI g))]) hx hb dX3_skillFor_17 hl (k := 3) rfl (nI_1 _) (by decide) rfl (fun ls hl => ?_)
        refine lv_goto (tgt := 7) hx hb dX3_skillFor_20 (by decide) ?_
        exact ih7 (k + 1) (y / 10) _ _ _ (by omega) (by omega) (by rw [hy]; rfl) w (lv_sub hl [2, 3, 1, 0] rfl)
  exact L7 _ 0 (mI S 49 i) _ _ _ (Nat.lt_succ_self _) (by omega) (rfl) w (lv_sub hl [2, 3, 1, 0] rfl)

abbrev rm_a_X7_qualityOf : Room := { frames := 4, cells := 0, slots := 0, locals := 89 }
set_option maxHeartbeats 4000000 in
set_option maxRecDepth 100000 in
theorem a_X7_qualityOf {s0 : State} {l : Launch} {D : va_G} {cy : Nat → ClassId} (G : Gl s0 l D cy) (S : HS) (ea ns nj nm nt nr nc : Nat) (h : CI ea S ns nj nm nt nr nc) (A : HS) (hA : RK S A ns nj nm nt nr nc) (mo i : Nat) (hmo : mo < nm) (hi : i < ns) (a : Int32) : Ctr s0 l D cy yX7_qualityOf cX7_qualityOf 6 (some .int) rm_a_X7_qualityOf S [.ref (gG S 7 0), .ref (gG S 3 mo), .ref (gG S 8 i), .int a] (PU S (some (.int (rQual A ns nj mo i a)))) := by
  refine pro "CavershamShift$Room" G rfl rfl (Nat.le_of_ble_eq_true rfl) (fun p e s m below meth c ls X w hnm hl => ?_)
  have hx := X.1
  have hb := X.2.1
  have hown := X.2.2.2.1
  have hts := X.2.2.2.2.1
  have hl : lv_has ls 6 [(0, .ref (gG S 7 0)), (1, .ref (gG S 3 mo)), (2, .ref (gG S 8 i)), (3, .int a)] := hl
  refine lv_aload_n hx hb dX7_qualityOf_0 rfl (lv_at hl 0 rfl) ?_
  refine g_7_0 (S := S) (x := (some (gG S 0 0))) X w h.v7 wF_X7_25 (h.f112) dX7_qualityOf_1 ?_
  refine lv_aload_n hx hb dX7_qualityOf_4 rfl (lv_at hl 2 rfl) ?_
  refine lv_iload_n hx hb dX7_qualityOf_5 rfl (lv_at hl 3 rfl) ?_
  refine cV (S := S) (nA := 2) (As := [.ref (gG S 8 i), .int a]) (rest := []) X w hl h.v0 (a_X0_strengthOf G S ea ns nj nm nt nr nc h A hA i hi a) wY_X0_strengthOf wM_X7_57 wIn_X0_strengthOf wSe_X0_X0_strengthOf wI_X0 (by decide) rfl (by decide +kernel) rfl rfl dX7_qualityOf_6 ⟨by decide, by decide⟩ (Nat.le_of_ble_eq_true rfl) (⟨Nat.le_of_ble_eq_true rfl, Nat.le_of_ble_eq_true rfl⟩) (fun v1 S1 H locs hp w => ?_)
  obtain ⟨rfl, rfl⟩ := hp
  refine lv_bipush (v := 10) hx hb dX7_qualityOf_9 (by decide) ?_
  refine lv_idiv hx hb dX7_qualityOf_11 (by decide) ?_
  refine lv_iconst (v := 0) hx hb dX7_qualityOf_12 (by decide) ?_
  refine lv_bipush (v := 9) hx hb dX7_qualityOf_13 (by decide) ?_
  refine cSN (S := S) (nA := 3) (As := [.int ((rComes A ns nj i a) / 10), .int 0, .int 9]) (rest := []) X w hl (m_X10_hold G S ((rComes A ns nj i a) / 10) 0 9) wY_X10_hold wMN_X7_63 wSt_X10_hold wI_X10 (by decide +kernel) rfl rfl dX7_qualityOf_15 ⟨by decide, by decide⟩ (Nat.le_of_ble_eq_true rfl) (⟨Nat.le_of_ble_eq_true rfl, Nat.le_of_ble_eq_true rfl⟩) (fun v2 S1 H locs hp w => ?_)
  obtain ⟨rfl, rfl⟩ := hp
  refine lv_topi (fun z3 ez3 => ?_)
  obtain rfl : z3 = rHold (rComes A ns nj i a / 10) 0 9 := ez3.trans (hold_eq (by decide))
  refine lv_istore (lv' := [(4, .int (rHold (rComes A ns nj i a / 10) 0 9)), (0, .ref (gG S 7 0)), (1, .ref (gG S 3 mo)), (2, .ref (gG S 8 i)), (3, .int a)]) hx hb dX7_qualityOf_18 hl (by decide) rfl (fun ls hl => ?_)
  refine lv_aload_n hx hb dX7_qualityOf_20 rfl (lv_at hl 2 rfl) ?_
  refine lv_aload_n hx hb dX7_qualityOf_21 rfl (lv_at hl 3 rfl) ?_
  obtain ⟨g9, hg9, eg9⟩ := hA.ok.2.1 i hi
  have eg8 : (mI A 227 i).toNatClampNeg = g9 := by rw [eg9]; exact nI_clamp (by omega)
  refine g_8_5 (S := S) (x := (nI g9)) X w (h.e_st i hi).2 wF_X7_67 ((hA.rc.1 i hi).2.2.2.2.1.trans eg9) dX7_qualityOf_22 ?_
  refine cV (S := S) (nA := 1) (As := [.int (nI g9)]) (rest := []) X w hl (h.e_mo mo hmo).2 (a_X3_skillFor G S ea ns nj nm nt nr nc h A hA mo g9 hmo hg9) wY_X3_skillFor wM_X7_73 wIn_X3_skillFor wSe_X3_X3_skillFor wI_X3 (by decide) rfl (by decide +kernel) rfl rfl dX7_qualityOf_25 ⟨by decide, by decide⟩ (Nat.le_of_ble_eq_true rfl) (⟨Nat.le_of_ble_eq_true rfl, Nat.le_of_ble_eq_true rfl⟩) (fun v4 S1 H locs hp w => ?_)
  obtain ⟨rfl, rfl⟩ := hp
  refine lv_istore (lv' := [(5, .int (mA A 34 mo g9)), (4, .int (rHold (rComes A ns nj i a / 10) 0 9)), (0, .ref (gG S 7 0)), (1, .ref (gG S 3 mo)), (2, .ref (gG S 8 i)), (3, .int a)]) hx hb dX7_qualityOf_28 hl (by decide) rfl (fun ls hl => ?_)
  refine lv_iload hx hb dX7_qualityOf_30 (lv_at hl 1 rfl) ?_
  refine lv_if_eq (tgt := 40) hx hb dX7_qualityOf_32 (by decide) (fun hq32 => ?_) (fun hq32 => ?_)
  · refine lv_iconst (v := 0) hx hb dX7_qualityOf_40 (by decide) ?_
    exact rI X w rfl dX7_qualityOf_41 (by decide) (by decide) (pu_i (by unfold rQual; rw [eg8]; first | rw [if_pos (Or.inl hq32)] | rw [if_pos (Or.inr hq37)]))
  · refine lv_iload hx hb dX7_qualityOf_35 (lv_at hl 0 rfl) ?_
    refine lv_if_ne (tgt := 42) hx hb dX7_qualityOf_37 (by decide) (fun hq37 => ?_) (fun hq37 => ?_)
    · refine lv_iload hx hb dX7_qualityOf_42 (lv_at hl 1 rfl) ?_
      refine lv_iload hx hb dX7_qualityOf_44 (lv_at hl 0 rfl) ?_
      refine lv_iadd hx hb dX7_qualityOf_46 ?_
      refine lv_aload_n hx hb dX7_qualityOf_47 rfl (lv_at hl 3 rfl) ?_
      refine g_3_2 (S := S) (x := (mI A 193 mo)) X w (h.e_mo mo hmo).2 wF_X7_77 ((hA.mo mo hmo).2.1) dX7_qualityOf_48 ?_
      refine lv_iconst (v := 4) hx hb dX7_qualityOf_51 (by decide) ?_
      refine lv_idiv hx hb dX7_qualityOf_52 (by decide) ?_
      refine lv_isub hx hb dX7_qualityOf_53 ?_
      refine lv_iconst (v := 0) hx hb dX7_qualityOf_54 (by decide) ?_
      refine lv_bipush (v := 18) hx hb dX7_qualityOf_55 (by decide) ?_
      refine cSN (S := S) (nA := 3) (As := [.int (((rHold (rComes A ns nj i a / 10) 0 9) + (mA A 34 mo g9)) - ((mI A 193 mo) / 4)), .int 0, .int 18]) (rest := []) X w hl (m_X10_hold G S (((rHold (rComes A ns nj i a / 10) 0 9) + (mA A 34 mo g9)) - ((mI A 193 mo) / 4)) 0 18) wY_X10_hold wMN_X7_63 wSt_X10_hold wI_X10 (by decide +kernel) rfl rfl dX7_qualityOf_57 ⟨by decide, by decide⟩ (Nat.le_of_ble_eq_true rfl) (⟨Nat.le_of_ble_eq_true rfl, Nat.le_of_ble_eq_true rfl⟩) (fun v5 S1 H locs hp w => ?_)
      obtain ⟨rfl, rfl⟩ := hp
      refine lv_topi (fun z6 ez6 => ?_)
      obtain rfl : z6 = rHold (rHold (rComes A ns nj i a / 10) 0 9 + mA A 34 mo g9 - mI A 193 mo / 4) 0 18 := ez6.trans (hold_eq (by decide))
      exact rI X w rfl dX7_qualityOf_60 (by decide) (by decide) (pu_i (by unfold rQual; rw [eg8, if_neg (fun z => z.elim hq32 hq37)]))
    · refine lv_iconst (v := 0) hx hb dX7_qualityOf_40 (by decide) ?_
      exact rI X w rfl dX7_qualityOf_41 (by decide) (by decide) (pu_i (by unfold rQual; rw [eg8]; first | rw [if_pos (Or.inl hq32)] | rw [if_pos (Or.inr hq37)]))

/-- the quality at a set, by who sits there -/
def rQA (A : HS) (ns nj x k : Nat) : Int32 := if mA A 37 x k = -1 then 0 else rQual A ns nj (sitN A x k) (mA A 36 x k).toNatClampNeg (nI x)
theorem rQual_b {A : HS} {ns nj m i : Nat} {a : Int32} : ∃ q, q ≤ 18 ∧ rQual A ns nj m i a = nI q := by
  unfold rQual
  split
  · exact ⟨0, by decide, rfl⟩
  · generalize rHold (rComes A ns nj i a / 10) 0 9 + mA A 34 m (mI A 227 i).toNatClampNeg - mI A 193 m / 4 = v
    unfold rHold
    by_cases c1 : v < 0
    · rw [if_pos c1]; exact ⟨0, by decide, rfl⟩
    · rw [if_neg c1]
      by_cases c2 : 18 < v
      · rw [if_pos c2]; exact ⟨18, by decide, rfl⟩
      · rw [if_neg c2]
        obtain ⟨q, hq, rfl⟩ := nI_of c1
        exact ⟨q, (nI_leI (a := q) (b := 18) hq (by decide)).mp (Int32.not_lt.mp c2), rfl⟩
theorem AOK.slot {A : HS} {ns nm nt x k : Nat} (h : AOK A ns nm nt) (hx : x < 24) (hk : k < 3) : (mA A 36 x k = -1 ∧ mA A 37 x k = -1) ∨ ∃ s m, s < ns ∧ m < nm ∧ mA A 36 x k = nI s ∧ mA A 37 x k = nI m := h.1 x k hx hk
theorem rQA_37 {A : HS} {ns nm nt nj x k : Nat} (h : AOK A ns nm nt) (hb : nm ≤ 5) (hx : x < 24) (hk : k < 3) (ho : sOut (mA A 37 x k) 0 (nI nm - 1) = true) : rQA A ns nj x k = 0 := by
  rcases h.slot hx hk with ⟨-, e⟩ | ⟨s, m, -, hm, -, e⟩
  · exact if_pos e
  · rw [e, so_j hm (by omega)] at ho; exact absurd ho (by decide)
theorem rQA_36 {A : HS} {ns nm nt nj x k : Nat} (h : AOK A ns nm nt) (hb : ns ≤ 8) (hx : x < 24) (hk : k < 3) (ho : sOut (mA A 36 x k) 0 (nI ns - 1) = true) : rQA A ns nj x k = 0 := by
  rcases h.slot hx hk with ⟨-, e⟩ | ⟨s, m, hs, -, e, -⟩
  · exact if_pos e
  · rw [e, so_j hs (by omega)] at ho; exact absurd ho (by decide)
theorem rQA_v {A : HS} {ns nm nj x k m i : Nat} (em : mA A 37 x k = nI m) (hm : m < nm) (bm : nm ≤ 5) (ei : mA A 36 x k = nI i) (hi : i < ns) (bi : ns ≤ 8) : rQA A ns nj x k = rQual A ns nj m i (nI x) := by
  unfold rQA sitN
  rw [em, ei, nI_clamp (by omega), nI_clamp (by omega), if_neg (nI_neg1 (by omega))]

abbrev rm_a_X7_qualityAt : Room := { frames := 5, cells := 0, slots := 0, locals := 114 }
set_option maxHeartbeats 4000000 in
set_option maxRecDepth 100000 in
theorem a_X7_qualityAt {s0 : State} {l : Launch} {D : va_G} {cy : Nat → ClassId} (G : Gl s0 l D cy) (S : HS) (ea ns nj nm nt nr nc : Nat) (h : CI ea S ns nj nm nt nr nc) (A : HS) (hA : RK S A ns nj nm nt nr nc) (x k : Nat) (hx4 : x < 24) (hk : k < 3) : Ctr s0 l D cy yX7_qualityAt cX7_qualityAt 5 (some .int) rm_a_X7_qualityAt S [.ref (gG S 7 0), .int (nI x), .int (nI k)] (PU S (some (.int (rQA A ns nj x k)))) := by
  refine pro "CavershamShift$Room" G rfl rfl (Nat.le_of_ble_eq_true rfl) (fun p e s m below meth c ls X w hnm hl => ?_)
  have hx := X.1
  have hb := X.2.1
  have hown := X.2.2.2.1
  have hts := X.2.2.2.2.1
  have hl : lv_has ls 5 [(0, .ref (gG S 7 0)), (1, .int (nI x)), (2, .int (nI k))] := hl
  refine lv_aload_n hx hb dX7_qualityAt_0 rfl (lv_at hl 0 rfl) ?_
  refine lv_aload_n hx hb dX7_qualityAt_1 rfl (lv_at hl 0 rfl) ?_
  refine lv_iload_n hx hb dX7_qualityAt_2 rfl (lv_at hl 1 rfl) ?_
  refine lv_iload_n hx hb dX7_qualityAt_3 rfl (lv_at hl 2 rfl) ?_
  refine cV (S := S) (nA := 2) (As := [.int (nI x), .int (nI k)]) (rest := [.ref (gG S 7 0)]) X w hl h.v7 (a_X7_monitorIn G S ea ns nj nm nt nr nc h A hA x k hx4 hk) wY_X7_monitorIn wM_X7_53 wIn_X7_monitorIn wSe_X7_X7_monitorIn wI_X7 (by decide) rfl (by decide +kernel) rfl rfl dX7_qualityAt_4 ⟨by decide, by decide⟩ (Nat.le_of_ble_eq_true rfl) (⟨Nat.le_of_ble_eq_true rfl, Nat.le_of_ble_eq_true rfl⟩) (fun v1 S1 H locs hp w => ?_)
  obtain ⟨rfl, rfl⟩ := hp
  refine cV (S := S) (nA := 1) (As := [.int (mA A 37 x k)]) (rest := []) X w hl h.v7 (m_X7_monitorAt G S ea ns nj nm nt nr nc h (mA A 37 x k)) wY_X7_monitorAt wM_X7_80 wIn_X7_monitorAt wSe_X7_X7_monitorAt wI_X7 (by decide) rfl (by decide +kernel) rfl rfl dX7_qualityAt_7 ⟨by decide, by decide⟩ (Nat.le_of_ble_eq_true rfl) (⟨Nat.le_of_ble_eq_true rfl, Nat.le_of_ble_eq_true rfl⟩) (fun v3 S1 H locs hp w => ?_)
  obtain ⟨hp, rfl⟩ := hp
  rcases hp with ⟨rfl, hoj2⟩ | ⟨j2, hlj2, hkj2, rfl⟩
  · skip
    refine lv_astore_nN (lv' := [(3, .null), (0, .ref (gG S 7 0)), (1, .int (nI x)), (2, .int (nI k))]) hx hb dX7_qualityAt_10 rfl hl (by decide) rfl (fun ls hl => ?_)
    refine lv_aload_n hx hb dX7_qualityAt_11 rfl (lv_at hl 1 rfl) ?_
    refine g_7_0 (S := S) (x := (some (gG S 0 0))) X w h.v7 wF_X7_25 (h.f112) dX7_qualityAt_12 ?_
    refine lv_aload_n hx hb dX7_qualityAt_15 rfl (lv_at hl 1 rfl) ?_
    refine lv_iload_n hx hb dX7_qualityAt_16 rfl (lv_at hl 2 rfl) ?_
    refine lv_iload_n hx hb dX7_qualityAt_17 rfl (lv_at hl 3 rfl) ?_
    refine cV (S := S) (nA := 2) (As := [.int (nI x), .int (nI k)]) (rest := [.ref (gG S 0 0)]) X w hl h.v7 (a_X7_stationIn G S ea ns nj nm nt nr nc h A hA x k hx4 hk) wY_X7_stationIn wM_X7_84 wIn_X7_stationIn wSe_X7_X7_stationIn wI_X7 (by decide) rfl (by decide +kernel) rfl rfl dX7_qualityAt_18 ⟨by decide, by decide⟩ (Nat.le_of_ble_eq_true rfl) (⟨Nat.le_of_ble_eq_true rfl, Nat.le_of_ble_eq_true rfl⟩) (fun v4 S1 H locs hp w => ?_)
    obtain ⟨rfl, rfl⟩ := hp
    refine cV (S := S) (nA := 1) (As := [.int (mA A 36 x k)]) (rest := []) X w hl h.v0 (m_X0_stationAt G S ea ns nj nm nt nr nc h (mA A 36 x k)) wY_X0_stationAt wM_X7_87 wIn_X0_stationAt wSe_X0_X0_stationAt wI_X0 (by decide) rfl (by decide +kernel) rfl rfl dX7_qualityAt_21 ⟨by decide, by decide⟩ (Nat.le_of_ble_eq_true rfl) (⟨Nat.le_of_ble_eq_true rfl, Nat.le_of_ble_eq_true rfl⟩) (fun v6 S1 H locs hp w => ?_)
    obtain ⟨hp, rfl⟩ := hp
    rcases hp with ⟨rfl, hoj5⟩ | ⟨j5, hlj5, hkj5, rfl⟩
    · skip
      refine lv_astoreN (lv' := [(4, .null), (3, .null), (0, .ref (gG S 7 0)), (1, .int (nI x)), (2, .int (nI k))]) hx hb dX7_qualityAt_24 hl (by decide) rfl (fun ls hl => ?_)
      refine lv_aload_nN hx hb dX7_qualityAt_26 rfl (lv_at hl 1 rfl) ?_
      refine lv_ifnullN (tgt := 35) hx hb dX7_qualityAt_27 (by decide) ?_
      refine lv_iconst (v := 0) hx hb dX7_qualityAt_35 (by decide) ?_
      refine lv_goto (tgt := 47) hx hb dX7_qualityAt_36 (by decide) ?_
      exact rI X w rfl dX7_qualityAt_47 (by decide) (by decide) (by first | exact pu_i (rQA_37 hA.ok h.b_mo hx4 hk (by assumption)) | exact pu_i (rQA_36 hA.ok h.b_st hx4 hk (by assumption)) | exact pu_i (rQA_v (by assumption) (by assumption) h.b_mo (by assumption) (by assumption) h.b_st))
    · skip
      refine lv_astore (lv' := [(4, .ref (gG S 8 j5)), (3, .null), (0, .ref (gG S 7 0)), (1, .int (nI x)), (2, .int (nI k))]) hx hb dX7_qualityAt_24 hl (by decide) rfl (fun ls hl => ?_)
      refine lv_aload_nN hx hb dX7_qualityAt_26 rfl (lv_at hl 1 rfl) ?_
      refine lv_ifnullN (tgt := 35) hx hb dX7_qualityAt_27 (by decide) ?_
      refine lv_iconst (v := 0) hx hb dX7_qualityAt_35 (by decide) ?_
      refine lv_goto (tgt := 47) hx hb dX7_qualityAt_36 (by decide) ?_
      exact rI X w rfl dX7_qualityAt_47 (by decide) (by decide) (by first | exact pu_i (rQA_37 hA.ok h.b_mo hx4 hk (by assumption)) | exact pu_i (rQA_36 hA.ok h.b_st hx4 hk (by assumption)) | exact pu_i (rQA_v (by assumption) (by assumption) h.b_mo (by assumption) (by assumption) h.b_st))
  · skip
    refine lv_astore_n (lv' := [(3, .ref (gG S 3 j2)), (0, .ref (gG S 7 0)), (1, .int (nI x)), (2, .int (nI k))]) hx hb dX7_qualityAt_10 rfl hl (by decide) rfl (fun ls hl => ?_)
    refine lv_aload_n hx hb dX7_qualityAt_11 rfl (lv_at hl 1 rfl) ?_
    refine g_7_0 (S := S) (x := (some (gG S 0 0))) X w h.v7 wF_X7_25 (h.f112) dX7_qualityAt_12 ?_
    refine lv_aload_n hx hb dX7_qualityAt_15 rfl (lv_at hl 1 rfl) ?_
    refine lv_iload_n hx hb dX7_qualityAt_16 rfl (lv_at hl 2 rfl) ?_
    refine lv_iload_n hx hb dX7_qualityAt_17 rfl (lv_at hl 3 rfl) ?_
    refine cV (S := S) (nA := 2) (As := [.int (nI x), .int (nI k)]) (rest := [.ref (gG S 0 0)]) X w hl h.v7 (a_X7_stationIn G S ea ns nj nm nt nr nc h A hA x k hx4 hk) wY_X7_stationIn wM_X7_84 wIn_X7_stationIn wSe_X7_X7_stationIn wI_X7 (by decide) rfl (by decide +kernel) rfl rfl dX7_qualityAt_18 ⟨by decide, by decide⟩ (Nat.le_of_ble_eq_true rfl) (⟨Nat.le_of_ble_eq_true rfl, Nat.le_of_ble_eq_true rfl⟩) (fun v7 S1 H locs hp w => ?_)
    obtain ⟨rfl, rfl⟩ := hp
    refine cV (S := S) (nA := 1) (As := [.int (mA A 36 x k)]) (rest := []) X w hl h.v0 (m_X0_stationAt G S ea ns nj nm nt nr nc h (mA A 36 x k)) wY_X0_stationAt wM_X7_87 wIn_X0_stationAt wSe_X0_X0_stationAt wI_X0 (by decide) rfl (by decide +kernel) rfl rfl dX7_qualityAt_21 ⟨by decide, by decide⟩ (Nat.le_of_ble_eq_true rfl) (⟨Nat.le_of_ble_eq_true rfl, Nat.le_of_ble_eq_true rfl⟩) (fun v9 S1 H locs hp w => ?_)
    obtain ⟨hp, rfl⟩ := hp
    rcases hp with ⟨rfl, hoj8⟩ | ⟨j8, hlj8, hkj8, rfl⟩
    · skip
      refine lv_astoreN (lv' := [(4, .null), (3, .ref (gG S 3 j2)), (0, .ref (gG S 7 0)), (1, .int (nI x)), (2, .int (nI k))]) hx hb dX7_qualityAt_24 hl (by decide) rfl (fun ls hl => ?_)
      refine lv_aload_n hx hb dX7_qualityAt_26 rfl (lv_at hl 1 rfl) ?_
      refine lv_ifnull hx hb dX7_qualityAt_27 ?_
      refine lv_aloadN hx hb dX7_qualityAt_30 (lv_at hl 0 rfl) ?_
      refine lv_ifnonnullN hx hb dX7_qualityAt_32 ?_
      refine lv_iconst (v := 0) hx hb dX7_qualityAt_35 (by decide) ?_
      refine lv_goto (tgt := 47) hx hb dX7_qualityAt_36 (by decide) ?_
      exact rI X w rfl dX7_qualityAt_47 (by decide) (by decide) (by first | exact pu_i (rQA_37 hA.ok h.b_mo hx4 hk (by assumption)) | exact pu_i (rQA_36 hA.ok h.b_st hx4 hk (by assumption)) | exact pu_i (rQA_v (by assumption) (by assumption) h.b_mo (by assumption) (by assumption) h.b_st))
    · skip
      refine lv_astore (lv' := [(4, .ref (gG S 8 j8)), (3, .ref (gG S 3 j2)), (0, .ref (gG S 7 0)), (1, .int (nI x)), (2, .int (nI k))]) hx hb dX7_qualityAt_24 hl (by decide) rfl (fun ls hl => ?_)
      refine lv_aload_n hx hb dX7_qualityAt_26 rfl (lv_at hl 1 rfl) ?_
      refine lv_ifnull hx hb dX7_qualityAt_27 ?_
      refine lv_aload hx hb dX7_qualityAt_30 (lv_at hl 0 rfl) ?_
      refine lv_ifnonnull (tgt := 39) hx hb dX7_qualityAt_32 (by decide) ?_
      refine lv_aload_n hx hb dX7_qualityAt_39 rfl (lv_at hl 2 rfl) ?_
      refine lv_aload_n hx hb dX7_qualityAt_40 rfl (lv_at hl 1 rfl) ?_
      refine lv_aload hx hb dX7_qualityAt_41 (lv_at hl 0 rfl) ?_
      refine lv_iload_n hx hb dX7_qualityAt_43 rfl (lv_at hl 3 rfl) ?_
      refine cV (S := S) (nA := 3) (As := [.ref (gG S 3 j2), .ref (gG S 8 j8), .int (nI x)]) (rest := []) X w hl h.v7 (a_X7_qualityOf G S ea ns nj nm nt nr nc h A hA j2 j8 hlj2 hlj8 (nI x)) wY_X7_qualityOf wM_X7_91 wIn_X7_qualityOf wSe_X7_X7_qualityOf wI_X7 (by decide) rfl (by decide +kernel) rfl rfl dX7_qualityAt_44 ⟨by decide, by decide⟩ (Nat.le_of_ble_eq_true rfl) (⟨Nat.le_of_ble_eq_true rfl, Nat.le_of_ble_eq_true rfl⟩) (fun v10 S1 H locs hp w => ?_)
      obtain ⟨rfl, rfl⟩ := hp
      exact rI X w rfl dX7_qualityAt_47 (by decide) (by decide) (by first | exact pu_i (rQA_37 hA.ok h.b_mo hx4 hk (by assumption)) | exact pu_i (rQA_36 hA.ok h.b_st hx4 hk (by assumption)) | exact pu_i (rQA_v (by assumption) (by assumption) h.b_mo (by assumption) (by assumption) h.b_st))

/-- the quality of the best of the first k sets for the talk j -/
def rBq (A : HS) (ns nj j x k : Nat) : Int32 := if rRec A ns nj j x k = -1 then 0 else rSlotQ A ns nj j x (rRec A ns nj j x k).toNatClampNeg
theorem rSlotQ_b {A : HS} {ns nj j x k : Nat} : ∃ q, q ≤ 18 ∧ rSlotQ A ns nj j x k = nI q := by
  unfold rSlotQ
  split
  · exact rQual_b
  · exact ⟨0, by decide, rfl⟩
theorem rBq_nn {A : HS} {ns nj j x k : Nat} : ¬ rBq A ns nj j x k < 0 := by
  unfold rBq
  split
  · decide
  · obtain ⟨q, hq, e⟩ := rSlotQ_b (A := A) (ns := ns) (nj := nj) (j := j) (x := x) (k := (rRec A ns nj j x k).toNatClampNeg)
    rw [e]; exact nI_pos (by omega)
theorem rec_t {A : HS} {ns nj j x k : Nat} (hk : k < 3) (h : rBq A ns nj j x k < rSlotQ A ns nj j x k) : rRec A ns nj j x (k + 1) = nI k ∧ rBq A ns nj j x (k + 1) = rSlotQ A ns nj j x k := by
  have hz : ¬ rSlotQ A ns nj j x k = 0 := fun z => rBq_nn (z ▸ h)
  have e : rRec A ns nj j x (k + 1) = nI k := by
    refine rRec_t hz ?_
    by_cases c : rRec A ns nj j x k = -1
    · exact Or.inl c
    · refine Or.inr ?_
      unfold rBq at h
      rw [if_neg c] at h; exact h
  refine ⟨e, ?_⟩
  unfold rBq
  rw [e, if_neg (nI_neg1 (by omega)), nI_clamp (by omega)]
theorem rec_f {A : HS} {ns nj j x k : Nat} (h : ¬ rBq A ns nj j x k < rSlotQ A ns nj j x k) : rRec A ns nj j x (k + 1) = rRec A ns nj j x k ∧ rBq A ns nj j x (k + 1) = rBq A ns nj j x k := by
  have e : rRec A ns nj j x (k + 1) = rRec A ns nj j x k := by
    by_cases hz : rSlotQ A ns nj j x k = 0
    · exact rRec_0 hz
    · refine rRec_f hz (fun z => h ?_)
      unfold rBq
      rcases z with z | z
      · rw [if_pos z]
        obtain ⟨q, hq, eq⟩ := rSlotQ_b (A := A) (ns := ns) (nj := nj) (j := j) (x := x) (k := k)
        rw [eq] at hz ⊢
        exact (nI_ltI (a := 0) (b := q) (by decide) (by omega)).mpr (Nat.pos_of_ne_zero (fun y => hz (by rw [y]; rfl)))
      · by_cases c : rRec A ns nj j x k = -1
        · rw [if_pos c]
          obtain ⟨q, hq, eq⟩ := rSlotQ_b (A := A) (ns := ns) (nj := nj) (j := j) (x := x) (k := k)
          rw [eq] at hz ⊢
          exact (nI_ltI (a := 0) (b := q) (by decide) (by omega)).mpr (Nat.pos_of_ne_zero (fun y => hz (by rw [y]; rfl)))
        · rw [if_neg c]; exact z
  refine ⟨e, ?_⟩
  unfold rBq
  rw [e]
theorem slot_t {A : HS} {ns nm nt nj j x k : Nat} (h : AOK A ns nm nt) (hb : ns ≤ 8) (bm : nm ≤ 5) (hj : tS A j < ns) (hx : x < 24) (hk : k < 3) (e : mA A 36 x k = nI (tS A j)) : rQA A ns nj x k = rSlotQ A ns nj j x k := by
  rcases h.slot hx hk with ⟨e2, -⟩ | ⟨s, m, hs, hm, e2, e3⟩
  · rw [e] at e2; exact absurd e2 (nI_neg1 (by omega))
  · unfold rSlotQ
    rw [if_pos e, rQA_v e3 hm bm e hj hb]
    unfold sitN
    rw [e3, nI_clamp (by omega)]

abbrev rm_a_X7_setThatHears : Room := { frames := 6, cells := 0, slots := 0, locals := 138 }
set_option maxHeartbeats 4000000 in
set_option maxRecDepth 100000 in
theorem a_X7_setThatHears {s0 : State} {l : Launch} {D : va_G} {cy : Nat → ClassId} (G : Gl s0 l D cy) (S : HS) (ea ns nj nm nt nr nc : Nat) (h : CI ea S ns nj nm nt nr nc) (A : HS) (hA : RK S A ns nj nm nt nr nc) (j x : Nat) (hj : j < nt) (hx4 : x < 24) : Ctr s0 l D cy yX7_setThatHears cX7_setThatHears 7 (some .int) rm_a_X7_setThatHears S [.ref (gG S 7 0), .ref (gG S 8 (tS A j)), .int (nI x)] (PU S (some (.int (rRec A ns nj j x 3)))) := by
  refine pro "CavershamShift$Room" G rfl rfl (Nat.le_of_ble_eq_true rfl) (fun p e s m below meth c ls X w hnm hl => ?_)
  have hx := X.1
  have hb := X.2.1
  have hown := X.2.2.2.1
  have hts := X.2.2.2.2.1
  have hl : lv_has ls 7 [(0, .ref (gG S 7 0)), (1, .ref (gG S 8 (tS A j))), (2, .int (nI x))] := hl
  refine lv_iconst (v := (-1)) hx hb dX7_setThatHears_0 (by decide) ?_
  refine lv_istore_n (lv' := [(3, .int (-1)), (0, .ref (gG S 7 0)), (1, .ref (gG S 8 (tS A j))), (2, .int (nI x))]) hx hb dX7_setThatHears_1 rfl hl (by decide) rfl (fun ls hl => ?_)
  refine lv_iconst (v := 0) hx hb dX7_setThatHears_2 (by decide) ?_
  refine lv_istore (lv' := [(4, .int 0), (3, .int (-1)), (0, .ref (gG S 7 0)), (1, .ref (gG S 8 (tS A j))), (2, .int (nI x))]) hx hb dX7_setThatHears_3 hl (by decide) rfl (fun ls hl => ?_)
  refine lv_iconst (v := 0) hx hb dX7_setThatHears_5 (by decide) ?_
  refine lv_istore (lv' := [(5, .int 0), (4, .int 0), (3, .int (-1)), (0, .ref (gG S 7 0)), (1, .ref (gG S 8 (tS A j))), (2, .int (nI x))]) hx hb dX7_setThatHears_6 hl (by decide) rfl (fun ls hl => ?_)
  have L8 : ∀ (N : Nat) (k : Nat) (bs : Int32) (bq : Int32) (H : Heap) (locs : List Loc) (ls : Array Slot), 3 - k < N → (k ≤ 3) → (bs = rRec A ns nj j x k) → (bq = rBq A ns nj j x k) → Wd s0 D cy S s.heap H locs → lv_has ls 7 [(0, .ref (gG S 7 0)), (1, .ref (gG S 8 (tS A j))), (2, .int (nI x)), (3, .int bs), (4, .int bq), (5, .int (nI k))] → W p l e rm_a_X7_setThatHears s m ([.ref (gG S 7 0), .ref (gG S 8 (tS A j)), .int (nI x)] : List Value).toArray below meth c H locs 0 0 (MQ below (GQ s0 D cy (PU S (some (.int (rRec A ns nj j x 3))))) ([.ref (gG S 7 0), .ref (gG S 8 (tS A j)), .int (nI x)] : List Value).toArray s rm_a_X7_setThatHears.cells rm_a_X7_setThatHears.slots (A0 s0)) (F0 m 8 ls []) := by
    intro N
    induction N with
    | zero => intros; omega
    | succ N ih8 =>
      intro k bs bq H locs ls hmu hk hbs hbq w hl
      refine lv_iload hx hb dX7_setThatHears_8 (lv_at hl 5 rfl) ?_
      refine lv_iconst (v := 3) hx hb dX7_setThatHears_10 (by decide) ?_
      refine lv_icmp_ge (tgt := 61) hx hb dX7_setThatHears_11 (by decide) (fun hq11 => ?_) (fun hq11 => ?_)
      · have hge : 3 ≤ k := (nI_leI (a := 3) (by decide) (by omega)).mp hq11
        refine lv_iload_n hx hb dX7_setThatHears_61 rfl (lv_at hl 3 rfl) ?_
        exact rI X w rfl dX7_setThatHears_62 (by decide) (by decide) (pu_i (by rw [hbs, show k = 3 by omega]))
      · have hlt : k < 3 := Nat.lt_of_not_le (fun z => hq11 ((nI_leI (a := 3) (by decide) (by omega)).mpr z))
        refine lv_aload_n hx hb dX7_setThatHears_14 rfl (lv_at hl 0 rfl) ?_
        refine lv_iload_n hx hb dX7_setThatHears_15 rfl (lv_at hl 2 rfl) ?_
        refine lv_iload hx hb dX7_setThatHears_16 (lv_at hl 5 rfl) ?_
        refine cV (S := S) (nA := 2) (As := [.int (nI x), .int (nI k)]) (rest := []) X w hl h.v7 (a_X7_stationIn G S ea ns nj nm nt nr nc h A hA x k hx4 hlt) wY_X7_stationIn wM_X7_84 wIn_X7_stationIn wSe_X7_X7_stationIn wI_X7 (by decide) rfl (by decide +kernel) rfl rfl dX7_setThatHears_18 ⟨by decide, by decide⟩ (Nat.le_of_ble_eq_true rfl) (⟨Nat.le_of_ble_eq_true rfl, Nat.le_of_ble_eq_true rfl⟩) (fun v1 S1 H locs hp w => ?_)
        obtain ⟨rfl, rfl⟩ := hp
        refine lv_aload_n hx hb dX7_setThatHears_21 rfl (lv_at hl 1 rfl) ?_
        refine g_8_0 (S := S) (x := (nI (tS A j))) X w (h.e_st (tS A j) (hA.rc.tSx h.b_st hj).1).2 wF_X7_95 (h.n_st (tS A j) (hA.rc.tSx h.b_st hj).1) dX7_setThatHears_22 ?_
        refine lv_icmp_ne (tgt := 38) hx hb dX7_setThatHears_25 (by decide) (fun hne => ?_) (fun hne => ?_)
        · refine lv_iconst (v := 0) hx hb dX7_setThatHears_38 (by decide) ?_
          refine lv_istore (lv' := [(6, .int 0), (0, .ref (gG S 7 0)), (1, .ref (gG S 8 (tS A j))), (2, .int (nI x)), (3, .int bs), (4, .int bq), (5, .int (nI k))]) hx hb dX7_setThatHears_39 hl (by decide) rfl (fun ls hl => ?_)
          refine lv_iload hx hb dX7_setThatHears_41 (lv_at hl 0 rfl) ?_
          refine lv_iload hx hb dX7_setThatHears_43 (lv_at hl 5 rfl) ?_
          have e6 : rSlotQ A ns nj j x k = 0 := if_neg hne
          refine lv_icmp_le (tgt := 55) hx hb dX7_setThatHears_45 (by decide) (fun hle => ?_) (fun hle => ?_)
          · have hs : bs = rRec A ns nj j x (k + 1) ∧ bq = rBq A ns nj j x (k + 1) := by
              obtain ⟨f1, f2⟩ := rec_f (A := A) (ns := ns) (nj := nj) (j := j) (x := x) (k := k) (by rw [e6, ← hbq]; exact Int32.not_lt.mpr hle)
              exact ⟨by rw [f1, hbs], by rw [f2, hbq]⟩
            refine lv_iinc (v := nI (k + 1)) (lv' := [(5, .int (nI (k + 1))), (6, .int 0), (0, .ref (gG S 7 0)), (1, .ref (gG S 8 (tS A j))), (2, .int (nI x)), (3, .int bs), (4, .int bq)]) hx hb dX7_setThatHears_55 hl (k := 6) rfl (nI_1 _) (by decide) rfl (fun ls hl => ?_)
            refine lv_goto (tgt := 8) hx hb dX7_setThatHears_58 (by decide) ?_
            exact ih8 (k + 1) bs bq _ _ _ (by omega) (by omega) (hs.1) (hs.2) w (lv_sub hl [2, 3, 4, 5, 6, 0] rfl)
          · have hs : nI k = rRec A ns nj j x (k + 1) ∧ 0 = rBq A ns nj j x (k + 1) := by
              obtain ⟨f1, f2⟩ := rec_t (A := A) (ns := ns) (nj := nj) (j := j) (x := x) (k := k) hlt (by rw [e6, ← hbq]; exact Int32.not_le.mp hle)
              exact ⟨f1.symm, by rw [f2, e6]⟩
            refine lv_iload hx hb dX7_setThatHears_48 (lv_at hl 6 rfl) ?_
            refine lv_istore_n (lv' := [(3, .int (nI k)), (6, .int 0), (0, .ref (gG S 7 0)), (1, .ref (gG S 8 (tS A j))), (2, .int (nI x)), (4, .int bq), (5, .int (nI k))]) hx hb dX7_setThatHears_50 rfl hl (by decide) rfl (fun ls hl => ?_)
            refine lv_iload hx hb dX7_setThatHears_51 (lv_at hl 1 rfl) ?_
            refine lv_istore (lv' := [(4, .int 0), (3, .int (nI k)), (6, .int 0), (0, .ref (gG S 7 0)), (1, .ref (gG S 8 (tS A j))), (2, .int (nI x)), (5, .int (nI k))]) hx hb dX7_setThatHears_53 hl (by decide) rfl (fun ls hl => ?_)
            refine lv_iinc (v := nI (k + 1)) (lv' := [(5, .int (nI (k + 1))), (4, .int 0), (3, .int (nI k)), (6, .int 0), (0, .ref (gG S 7 0)), (1, .ref (gG S 8 (tS A j))), (2, .int (nI x))]) hx hb dX7_setThatHears_55 hl (k := 6) rfl (nI_1 _) (by decide) rfl (fun ls hl => ?_)
            refine lv_goto (tgt := 8) hx hb dX7_setThatHears_58 (by decide) ?_
            exact ih8 (k + 1) (nI k) 0 _ _ _ (by omega) (by omega) (hs.1) (hs.2) w (lv_sub hl [4, 5, 6, 2, 1, 0] rfl)
        · refine lv_aload_n hx hb dX7_setThatHears_28 rfl (lv_at hl 0 rfl) ?_
          refine lv_iload_n hx hb dX7_setThatHears_29 rfl (lv_at hl 2 rfl) ?_
          refine lv_iload hx hb dX7_setThatHears_30 (lv_at hl 5 rfl) ?_
          refine cV (S := S) (nA := 2) (As := [.int (nI x), .int (nI k)]) (rest := []) X w hl h.v7 (a_X7_qualityAt G S ea ns nj nm nt nr nc h A hA x k hx4 hlt) wY_X7_qualityAt wM_X7_98 wIn_X7_qualityAt wSe_X7_X7_qualityAt wI_X7 (by decide) rfl (by decide +kernel) rfl rfl dX7_setThatHears_32 ⟨by decide, by decide⟩ (Nat.le_of_ble_eq_true rfl) (⟨Nat.le_of_ble_eq_true rfl, Nat.le_of_ble_eq_true rfl⟩) (fun v2 S1 H locs hp w => ?_)
          obtain ⟨rfl, rfl⟩ := hp
          refine lv_goto (tgt := 39) hx hb dX7_setThatHears_35 (by decide) ?_
          refine lv_istore (lv' := [(6, .int (rQA A ns nj x k)), (0, .ref (gG S 7 0)), (1, .ref (gG S 8 (tS A j))), (2, .int (nI x)), (3, .int bs), (4, .int bq), (5, .int (nI k))]) hx hb dX7_setThatHears_39 hl (by decide) rfl (fun ls hl => ?_)
          refine lv_iload hx hb dX7_setThatHears_41 (lv_at hl 0 rfl) ?_
          refine lv_iload hx hb dX7_setThatHears_43 (lv_at hl 5 rfl) ?_
          have e6 : rSlotQ A ns nj j x k = rQA A ns nj x k := (slot_t hA.ok h.b_st h.b_mo (hA.rc.tSx h.b_st hj).1 hx4 hlt hne).symm
          refine lv_icmp_le (tgt := 55) hx hb dX7_setThatHears_45 (by decide) (fun hle => ?_) (fun hle => ?_)
          · have hs : bs = rRec A ns nj j x (k + 1) ∧ bq = rBq A ns nj j x (k + 1) := by
              obtain ⟨f1, f2⟩ := rec_f (A := A) (ns := ns) (nj := nj) (j := j) (x := x) (k := k) (by rw [e6, ← hbq]; exact Int32.not_lt.mpr hle)
              exact ⟨by rw [f1, hbs], by rw [f2, hbq]⟩
            refine lv_iinc (v := nI (k + 1)) (lv' := [(5, .int (nI (k + 1))), (6, .int (rQA A ns nj x k)), (0, .ref (gG S 7 0)), (1, .ref (gG S 8 (tS A j))), (2, .int (nI x)), (3, .int bs), (4, .int bq)]) hx hb dX7_setThatHears_55 hl (k := 6) rfl (nI_1 _) (by decide) rfl (fun ls hl => ?_)
            refine lv_goto (tgt := 8) hx hb dX7_setThatHears_58 (by decide) ?_
            exact ih8 (k + 1) bs bq _ _ _ (by omega) (by omega) (hs.1) (hs.2) w (lv_sub hl [2, 3, 4, 5, 6, 0] rfl)
          · have hs : nI k = rRec A ns nj j x (k + 1) ∧ (rQA A ns nj x k) = rBq A ns nj j x (k + 1) := by
              obtain ⟨f1, f2⟩ := rec_t (A := A) (ns := ns) (nj := nj) (j := j) (x := x) (k := k) hlt (by rw [e6, ← hbq]; exact Int32.not_le.mp hle)
              exact ⟨f1.symm, by rw [f2, e6]⟩
            refine lv_iload hx hb dX7_setThatHears_48 (lv_at hl 6 rfl) ?_
            refine lv_istore_n (lv' := [(3, .int (nI k)), (6, .int (rQA A ns nj x k)), (0, .ref (gG S 7 0)), (1, .ref (gG S 8 (tS A j))), (2, .int (nI x)), (4, .int bq), (5, .int (nI k))]) hx hb dX7_setThatHears_50 rfl hl (by decide) rfl (fun ls hl => ?_)
            refine lv_iload hx hb dX7_setThatHears_51 (lv_at hl 1 rfl) ?_
            refine lv_istore (lv' := [(4, .int (rQA A ns nj x k)), (3, .int (nI k)), (6, .int (rQA A ns nj x k)), (0, .ref (gG S 7 0)), (1, .ref (gG S 8 (tS A j))), (2, .int (nI x)), (5, .int (nI k))]) hx hb dX7_setThatHears_53 hl (by decide) rfl (fun ls hl => ?_)
            refine lv_iinc (v := nI (k + 1)) (lv' := [(5, .int (nI (k + 1))), (4, .int (rQA A ns nj x k)), (3, .int (nI k)), (6, .int (rQA A ns nj x k)), (0, .ref (gG S 7 0)), (1, .ref (gG S 8 (tS A j))), (2, .int (nI x))]) hx hb dX7_setThatHears_55 hl (k := 6) rfl (nI_1 _) (by decide) rfl (fun ls hl => ?_)
            refine lv_goto (tgt := 8) hx hb dX7_setThatHears_58 (by decide) ?_
            exact ih8 (k + 1) (nI k) (rQA A ns nj x k) _ _ _ (by omega) (by omega) (hs.1) (hs.2) w (lv_sub hl [4, 5, 6, 2, 1, 0] rfl)
  exact L8 _ 0 (-1) 0 _ _ _ (Nat.lt_succ_self _) (by omega) (rfl) (rfl) w (lv_sub hl [3, 4, 5, 2, 1, 0] rfl)

abbrev rm_a_X7_setOf : Room := { frames := 3, cells := 0, slots := 0, locals := 65 }
set_option maxHeartbeats 4000000 in
set_option maxRecDepth 100000 in
theorem a_X7_setOf {s0 : State} {l : Launch} {D : va_G} {cy : Nat → ClassId} (G : Gl s0 l D cy) (S : HS) (ea ns nj nm nt nr nc : Nat) (h : CI ea S ns nj nm nt nr nc) (A : HS) (hA : RK S A ns nj nm nt nr nc) (x : Nat) (hx4 : x < 24) (mo : Int32) : Ctr s0 l D cy yX7_setOf cX7_setOf 4 (some .int) rm_a_X7_setOf S [.ref (gG S 7 0), .int (nI x), .int mo] (PU S (some (.int (rSetOf A x mo)))) := by
  refine pro "CavershamShift$Room" G rfl rfl (Nat.le_of_ble_eq_true rfl) (fun p e s m below meth c ls X w hnm hl => ?_)
  have hx := X.1
  have hb := X.2.1
  have hown := X.2.2.2.1
  have hts := X.2.2.2.2.1
  have hl : lv_has ls 4 [(0, .ref (gG S 7 0)), (1, .int (nI x)), (2, .int mo)] := hl
  refine lv_iconst (v := 0) hx hb dX7_setOf_0 (by decide) ?_
  refine lv_istore_n (lv' := [(3, .int 0), (0, .ref (gG S 7 0)), (1, .int (nI x)), (2, .int mo)]) hx hb dX7_setOf_1 rfl hl (by decide) rfl (fun ls hl => ?_)
  have L2 : ∀ (N : Nat) (k : Nat) (H : Heap) (locs : List Loc) (ls : Array Slot), 3 - k < N → (k ≤ 3) → (∀ q, q < k → ¬ mA A 37 x q = mo) → Wd s0 D cy S s.heap H locs → lv_has ls 4 [(0, .ref (gG S 7 0)), (1, .int (nI x)), (2, .int mo), (3, .int (nI k))] → W p l e rm_a_X7_setOf s m ([.ref (gG S 7 0), .int (nI x), .int mo] : List Value).toArray below meth c H locs 0 0 (MQ below (GQ s0 D cy (PU S (some (.int (rSetOf A x mo))))) ([.ref (gG S 7 0), .int (nI x), .int mo] : List Value).toArray s rm_a_X7_setOf.cells rm_a_X7_setOf.slots (A0 s0)) (F0 m 2 ls []) := by
    intro N
    induction N with
    | zero => intros; omega
    | succ N ih2 =>
      intro k H locs ls hmu hk hno w hl
      refine lv_iload_n hx hb dX7_setOf_2 rfl (lv_at hl 3 rfl) ?_
      refine lv_iconst (v := 3) hx hb dX7_setOf_3 (by decide) ?_
      refine lv_icmp_ge (tgt := 25) hx hb dX7_setOf_4 (by decide) (fun hq4 => ?_) (fun hq4 => ?_)
      · have hge : 3 ≤ k := (nI_leI (a := 3) (by decide) (by omega)).mp hq4
        refine lv_iconst (v := (-1)) hx hb dX7_setOf_25 (by decide) ?_
        exact rI X w rfl dX7_setOf_26 (by decide) (by decide) (pu_i (by unfold rSetOf; rw [if_neg (hno 0 (by omega)), if_neg (hno 1 (by omega)), if_neg (hno 2 (by omega))]))
      · have hlt : k < 3 := Nat.lt_of_not_le (fun z => hq4 ((nI_leI (a := 3) (by decide) (by omega)).mpr z))
        refine lv_aload_n hx hb dX7_setOf_7 rfl (lv_at hl 0 rfl) ?_
        refine lv_iload_n hx hb dX7_setOf_8 rfl (lv_at hl 1 rfl) ?_
        refine lv_iload_n hx hb dX7_setOf_9 rfl (lv_at hl 3 rfl) ?_
        refine cV (S := S) (nA := 2) (As := [.int (nI x), .int (nI k)]) (rest := []) X w hl h.v7 (a_X7_monitorIn G S ea ns nj nm nt nr nc h A hA x k hx4 hlt) wY_X7_monitorIn wM_X7_53 wIn_X7_monitorIn wSe_X7_X7_monitorIn wI_X7 (by decide) rfl (by decide +kernel) rfl rfl dX7_setOf_10 ⟨by decide, by decide⟩ (Nat.le_of_ble_eq_true rfl) (⟨Nat.le_of_ble_eq_true rfl, Nat.le_of_ble_eq_true rfl⟩) (fun v1 S1 H locs hp w => ?_)
        obtain ⟨rfl, rfl⟩ := hp
        refine lv_iload_n hx hb dX7_setOf_13 rfl (lv_at hl 2 rfl) ?_
        refine lv_icmp_ne (tgt := 19) hx hb dX7_setOf_14 (by decide) (fun hne => ?_) (fun hne => ?_)
        · refine lv_iinc (v := nI (k + 1)) (lv' := [(3, .int (nI (k + 1))), (0, .ref (gG S 7 0)), (1, .int (nI x)), (2, .int mo)]) hx hb dX7_setOf_19 hl (k := 3) rfl (nI_1 _) (by decide) rfl (fun ls hl => ?_)
          refine lv_goto (tgt := 2) hx hb dX7_setOf_22 (by decide) ?_
          exact ih2 (k + 1) _ _ _ (by omega) (by omega) (fun q hq => (Nat.lt_succ_iff_lt_or_eq.mp hq).elim (hno q) (fun z => by rw [z]; exact hne)) w (lv_sub hl [1, 2, 3, 0] rfl)
        · refine lv_iload_n hx hb dX7_setOf_17 rfl (lv_at hl 3 rfl) ?_
          exact rI X w rfl dX7_setOf_18 (by decide) (by decide) (pu_i (rSetOf_hit hlt hno hne))
  exact L2 _ 0 _ _ _ (Nat.lt_succ_self _) (by omega) (fun q hq => absurd hq (Nat.not_lt_zero q)) w (lv_sub hl [1, 2, 3, 0] rfl)

