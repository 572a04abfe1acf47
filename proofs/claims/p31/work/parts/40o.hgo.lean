theorem pu_d {S : HS} {r v : UInt64} (h : r = v) : PU S (some (.double r)) (some (.double v)) S := ⟨by rw [h], rfl⟩
theorem usedO_c {A : HS} {nt : Nat} {a d e : Int32} : rCnt (fun k => decide (¬ mI A 247 k = -1) && (decide (mI A 226 (tS A k) = a) && (!(sOut (mI A 241 k / 24) d e)))) nt = rUsed A nt a (-1) d e := rCnt_c nt (fun k _ => by
  unfold rUsedP
  rw [decide_eq_true (rfl : (-1 : Int32) = -1), Bool.true_or, Bool.and_true])
theorem used_9 {A : HS} {nt k : Nat} {a d e : Int32} (hk : k < 16) : rCnt (fun q => decide (¬ mI A 247 q = -1) && (decide (mI A 226 (tS A q) = a) && (!(sOut (mI A 241 q / 24) d e) && sIn (rHeard (mI A 245 q) (mI A 248 q)) (nI k)))) nt = rUsed A nt a (nI k) d e := used_c (nI_neg1 (by omega))
section GONE
variable {A : HS} {nt k : Nat} {a x y : Int32}
theorem gC_1 (h : rUsed A nt a (nI k) (mI A 257 0 / 24 - 9) (mI A 257 0 / 24 - 3) < 3) : rGoneC A nt a k = false := by
  unfold rGoneC
  rw [decide_eq_false (Int32.not_le.mpr h), Bool.false_and]
theorem gC_2 (h : ¬ rUsed A nt a (nI k) (mI A 257 0 / 24 - 2) (mI A 257 0 / 24) = 0) : rGoneC A nt a k = false := by
  unfold rGoneC
  rw [decide_eq_false h, Bool.false_and, Bool.and_false]
theorem gC_3 (h : ¬ 2 ≤ rUsed A nt a (-1) (mI A 257 0 / 24 - 2) (mI A 257 0 / 24)) : rGoneC A nt a k = false := by
  unfold rGoneC
  rw [decide_eq_false h, Bool.and_false, Bool.and_false]
theorem gC_y (h1 : ¬ rUsed A nt a (nI k) (mI A 257 0 / 24 - 9) (mI A 257 0 / 24 - 3) < 3) (h2 : rUsed A nt a (nI k) (mI A 257 0 / 24 - 2) (mI A 257 0 / 24) = 0) (h3 : 2 ≤ rUsed A nt a (-1) (mI A 257 0 / 24 - 2) (mI A 257 0 / 24)) : rGoneC A nt a k = true := by
  unfold rGoneC
  rw [decide_eq_true (Int32.not_lt.mp h1), decide_eq_true h2, decide_eq_true h3]; rfl
theorem rGone_n (h : x = rGone A nt a k) (g : rGoneC A nt a k = false) : x = rGone A nt a (k + 1) := by
  show _ = rGone A nt a k ||| (if rGoneC A nt a k = true then (1 : Int32) <<< (nI k &&& 31) else 0)
  rw [g, if_neg (by decide), h]; exact Int32.or_zero.symm
theorem rGone_y (h : x = rGone A nt a k) (g : rGoneC A nt a k = true) : x ||| ((1 : Int32) <<< (nI k &&& 31)) = rGone A nt a (k + 1) := by
  show _ = rGone A nt a k ||| (if rGoneC A nt a k = true then (1 : Int32) <<< (nI k &&& 31) else 0)
  rw [g, if_pos rfl, h]
theorem rGone_0 (h : ∀ k, rGoneC A nt a k = false) : ∀ n, rGone A nt a n = 0
  | 0 => rfl
  | n + 1 => (rGone_n (rGone_0 h n).symm (h n)).symm
/-- whether the talk k is sent on the topic ahead of those in front of it -/
def FCx (A : HS) (a : Int32) (k : Nat) : Prop := mI A 247 k = 1 ∧ mI A 242 k = a ∧ (rFirst A a k = -1 ∨ mI A 252 k < mI A 252 (rFirst A a k).toNatClampNeg)
def rFT (A : HS) (a : Int32) (k : Nat) : Int32 := if rFirst A a k = -1 then mI A 261 0 else mI A 252 (rFirst A a k).toNatClampNeg
theorem rF_n (h : y = rFirst A a k) (g : ¬ FCx A a k) : y = rFirst A a (k + 1) := h.trans (if_neg g).symm
theorem rFT_n (h : x = rFT A a k) (g : ¬ FCx A a k) : x = rFT A a (k + 1) := by
  have e9 : rFirst A a (k + 1) = rFirst A a k := if_neg g
  unfold rFT at h ⊢
  rw [e9]; exact h
theorem rF_y (g : FCx A a k) : nI k = rFirst A a (k + 1) := (if_pos g).symm
theorem rFT_y (g : FCx A a k) (hk : k < 2 ^ 31 - 1) : mI A 252 k = rFT A a (k + 1) := by
  have e9 : rFirst A a (k + 1) = nI k := if_pos g
  unfold rFT
  rw [e9, if_neg (nI_neg1 (by omega)), nI_clamp (by omega)]
theorem FC_lt (h1 : mI A 247 k = 1) (h2 : mI A 242 k = a) (h3 : x = rFT A a k) (h : mI A 252 k < x) : FCx A a k := ⟨h1, h2, by
  by_cases g : rFirst A a k = -1
  · exact Or.inl g
  · refine Or.inr ?_
    rw [h3] at h
    unfold rFT at h
    rw [if_neg g] at h; exact h⟩
theorem FC_ge (q : AQ4 A nt) (hk : k < nt) (h1 : mI A 247 k = 1) (h3 : x = rFT A a k) (h : ¬ mI A 252 k < x) : ¬ FCx A a k := fun ⟨_, _, z⟩ => h (by
  rw [h3]
  unfold rFT
  by_cases g : rFirst A a k = -1
  · rw [if_pos g]; exact q.2 k hk h1
  · rw [if_neg g]; exact z.resolve_left g)
/-- the reports of a land: how many, their sum, the mean -/
def rMqP (A : HS) (a : Int32) (k : Nat) : Bool := decide (¬ mI A 247 k = -1) && decide (mI A 226 (tS A k) = a)
def rMqS (A : HS) (a : Int32) : Nat → Int32
  | 0 => 0
  | k + 1 => if rMqP A a k = true then rMqS A a k + mI A 248 k else rMqS A a k
def rMean (A : HS) (nt : Nat) (a : Int32) : UInt64 := if rCnt (rMqP A a) nt = 0 then FP.dconst0 else FP.ddiv (FP.i2d (rMqS A a nt)) (FP.i2d (rCnt (rMqP A a) nt))
theorem mq_n {z : Int32} (h : x = rMqS A a k) (h2 : z = rCnt (rMqP A a) k) (g : rMqP A a k = false) : x = rMqS A a (k + 1) ∧ z = rCnt (rMqP A a) (k + 1) := ⟨h.trans (if_neg (by rw [g]; decide)).symm, cnt_y0 _ h2 g⟩
theorem mq_y {z : Int32} (h : x = rMqS A a k) (h2 : z = rCnt (rMqP A a) k) (g : rMqP A a k = true) : x + mI A 248 k = rMqS A a (k + 1) ∧ z + 1 = rCnt (rMqP A a) (k + 1) := ⟨by rw [h]; exact (if_pos g).symm, cnt_s1 _ h2 g⟩
end GONE

abbrev rm_a_X4_goneFrom : Room := { frames := 4, cells := 0, slots := 0, locals := 92 }
set_option maxHeartbeats 4000000 in
set_option maxRecDepth 100000 in
theorem a_X4_goneFrom {s0 : State} {l : Launch} {D : va_G} {cy : Nat → ClassId} (G : Gl s0 l D cy) (S : HS) (ea ns nj nm nt nr nc : Nat) (h : CI ea S ns nj nm nt nr nc) (A : HS) (hA : RK S A ns nj nm nt nr nc) (g0 : Nat) (hg : mI S 164 0 = nI g0) (hg7 : g0 ≤ 720) (hA7 : mI A 257 0 = nI g0) (a : Int32) : Ctr s0 l D cy yX4_goneFrom cX4_goneFrom 6 (some .int) rm_a_X4_goneFrom S [.ref (gG S 4 0), .int a, .int (mI A 257 0 / 24)] (PU S (some (.int (rGone A nt a 16)))) := by
  refine pro "CavershamShift$Newsroom" G rfl rfl (Nat.le_of_ble_eq_true rfl) (fun p e s m below meth c ls X w hnm hl => ?_)
  have hx := X.1
  have hb := X.2.1
  have hown := X.2.2.2.1
  have hts := X.2.2.2.2.1
  have hl : lv_has ls 6 [(0, .ref (gG S 4 0)), (1, .int a), (2, .int (mI A 257 0 / 24))] := hl
  refine lv_aload_n hx hb dX4_goneFrom_0 rfl (lv_at hl 0 rfl) ?_
  refine lv_iload_n hx hb dX4_goneFrom_1 rfl (lv_at hl 1 rfl) ?_
  refine lv_iload_n hx hb dX4_goneFrom_2 rfl (lv_at hl 2 rfl) ?_
  refine lv_iconst (v := 2) hx hb dX4_goneFrom_3 (by decide) ?_
  refine lv_isub hx hb dX4_goneFrom_4 ?_
  refine lv_iload_n hx hb dX4_goneFrom_5 rfl (lv_at hl 2 rfl) ?_
  refine cV (S := S) (nA := 3) (As := [.int a, .int ((mI A 257 0 / 24) - 2), .int (mI A 257 0 / 24)]) (rest := []) X w hl h.v4 (a_X4_countReportsOn G S ea ns nj nm nt nr nc h A hA a ((mI A 257 0 / 24) - 2) (mI A 257 0 / 24)) wY_X4_countReportsOn wM_X4_160 wIn_X4_countReportsOn wSe_X4_X4_countReportsOn wI_X4 (by decide) rfl (by decide +kernel) rfl rfl dX4_goneFrom_6 ⟨by decide, by decide⟩ (Nat.le_of_ble_eq_true rfl) (⟨Nat.le_of_ble_eq_true rfl, Nat.le_of_ble_eq_true rfl⟩) (fun v1 S1 H locs hp w => ?_)
  obtain ⟨rfl, rfl⟩ := hp
  refine lv_topi (fun z2 ez2 => ?_)
  obtain rfl : z2 = (rUsed A nt a (-1) (mI A 257 0 / 24 - 2) (mI A 257 0 / 24)) := ez2.trans (usedO_c)
  refine lv_iconst (v := 2) hx hb dX4_goneFrom_9 (by decide) ?_
  refine lv_icmp_ge (tgt := 15) hx hb dX4_goneFrom_10 (by decide) (fun hg2 => ?_) (fun hg2 => ?_)
  · refine lv_iconst (v := 0) hx hb dX4_goneFrom_15 (by decide) ?_
    refine lv_istore_n (lv' := [(3, .int 0), (0, .ref (gG S 4 0)), (1, .int a), (2, .int (mI A 257 0 / 24))]) hx hb dX4_goneFrom_16 rfl hl (by decide) rfl (fun ls hl => ?_)
    refine lv_iconst (v := 0) hx hb dX4_goneFrom_17 (by decide) ?_
    refine lv_istore (lv' := [(4, .int 0), (3, .int 0), (0, .ref (gG S 4 0)), (1, .int a), (2, .int (mI A 257 0 / 24))]) hx hb dX4_goneFrom_18 hl (by decide) rfl (fun ls hl => ?_)
    have L20 : ∀ (N : Nat) (k : Nat) (x : Int32) (H : Heap) (locs : List Loc) (ls : Array Slot), 16 - k < N → (k ≤ 16) → (x = rGone A nt a k) → Wd s0 D cy S s.heap H locs → lv_has ls 6 [(0, .ref (gG S 4 0)), (1, .int a), (2, .int (mI A 257 0 / 24)), (3, .int x), (4, .int (nI k))] → W p l e rm_a_X4_goneFrom s m ([.ref (gG S 4 0), .int a, .int (mI A 257 0 / 24)] : List Value).toArray below meth c H locs 0 0 (MQ below (GQ s0 D cy (PU S (some (.int (rGone A nt a 16))))) ([.ref (gG S 4 0), .int a, .int (mI A 257 0 / 24)] : List Value).toArray s rm_a_X4_goneFrom.cells rm_a_X4_goneFrom.slots (A0 s0)) (F0 m 20 ls []) := by
      intro N
      induction N with
      | zero => intros; omega
      | succ N ih20 =>
        intro k x H locs ls hmu hk hx1 w hl
        refine lv_iload hx hb dX4_goneFrom_20 (lv_at hl 4 rfl) ?_
        refine lv_bipush (v := 16) hx hb dX4_goneFrom_22 (by decide) ?_
        refine lv_icmp_ge (tgt := 84) hx hb dX4_goneFrom_24 (by decide) (fun h24 => ?_) (fun h24 => ?_)
        · have hge : 16 ≤ k := (nI_leI (a := 16) (b := k) (by decide) (by omega)).mp h24
          refine lv_iload_n hx hb dX4_goneFrom_84 rfl (lv_at hl 3 rfl) ?_
          exact rI X w rfl dX4_goneFrom_85 (by decide) (by decide) (pu_i (by rw [hx1, show k = 16 by omega]))
        · have hlt : k < 16 := Nat.lt_of_not_le (fun z => h24 ((nI_leI (a := 16) (b := k) (by decide) (by omega)).mpr z))
          refine lv_aload_n hx hb dX4_goneFrom_27 rfl (lv_at hl 0 rfl) ?_
          refine lv_iload_n hx hb dX4_goneFrom_28 rfl (lv_at hl 1 rfl) ?_
          refine lv_iload hx hb dX4_goneFrom_29 (lv_at hl 4 rfl) ?_
          refine lv_iload_n hx hb dX4_goneFrom_31 rfl (lv_at hl 2 rfl) ?_
          refine lv_bipush (v := 9) hx hb dX4_goneFrom_32 (by decide) ?_
          refine lv_isub hx hb dX4_goneFrom_34 ?_
          refine lv_iload_n hx hb dX4_goneFrom_35 rfl (lv_at hl 2 rfl) ?_
          refine lv_iconst (v := 3) hx hb dX4_goneFrom_36 (by decide) ?_
          refine lv_isub hx hb dX4_goneFrom_37 ?_
          refine cV (S := S) (nA := 4) (As := [.int a, .int (nI k), .int ((mI A 257 0 / 24) - 9), .int ((mI A 257 0 / 24) - 3)]) (rest := []) X w hl h.v4 (a_X4_countUsed G S ea ns nj nm nt nr nc h A hA a (nI k) ((mI A 257 0 / 24) - 9) ((mI A 257 0 / 24) - 3)) wY_X4_countUsed wM_X4_164 wIn_X4_countUsed wSe_X4_X4_countUsed wI_X4 (by decide) rfl (by decide +kernel) rfl rfl dX4_goneFrom_38 ⟨by decide, by decide⟩ (Nat.le_of_ble_eq_true rfl) (⟨Nat.le_of_ble_eq_true rfl, Nat.le_of_ble_eq_true rfl⟩) (fun v3 S1 H locs hp w => ?_)
          obtain ⟨rfl, rfl⟩ := hp
          refine lv_topi (fun z4 ez4 => ?_)
          obtain rfl : z4 = (rUsed A nt a (nI k) (mI A 257 0 / 24 - 9) (mI A 257 0 / 24 - 3)) := ez4.trans (used_9 hlt)
          refine lv_iconst (v := 3) hx hb dX4_goneFrom_41 (by decide) ?_
          refine lv_icmp_lt (tgt := 49) hx hb dX4_goneFrom_42 (by decide) (fun hus => ?_) (fun hus => ?_)
          · have hx2 : x = rGone A nt a (k + 1) := rGone_n hx1 (gC_1 hus)
            refine lv_iconst (v := 0) hx hb dX4_goneFrom_49 (by decide) ?_
            refine lv_istore (lv' := [(5, .int 0), (0, .ref (gG S 4 0)), (1, .int a), (2, .int (mI A 257 0 / 24)), (3, .int x), (4, .int (nI k))]) hx hb dX4_goneFrom_50 hl (by decide) rfl (fun ls hl => ?_)
            refine lv_iload hx hb dX4_goneFrom_52 (lv_at hl 0 rfl) ?_
            refine lv_if_eq (tgt := 78) hx hb dX4_goneFrom_54 (by decide) (fun hc5 => ?_) (fun hc5 => ?_)
            · refine lv_iinc (v := nI (k + 1)) (lv' := [(4, .int (nI (k + 1))), (5, .int 0), (0, .ref (gG S 4 0)), (1, .int a), (2, .int (mI A 257 0 / 24)), (3, .int x)]) hx hb dX4_goneFrom_78 hl (k := 5) rfl (nI_1 _) (by decide) rfl (fun ls hl => ?_)
              refine lv_goto (tgt := 20) hx hb dX4_goneFrom_81 (by decide) ?_
              exact ih20 (k + 1) x _ _ _ (by omega) (by omega) (hx2) w (lv_sub hl [2, 3, 4, 5, 0] rfl)
            · exact absurd hc5 (by decide)
          · refine lv_iconst (v := 1) hx hb dX4_goneFrom_45 (by decide) ?_
            refine lv_goto (tgt := 50) hx hb dX4_goneFrom_46 (by decide) ?_
            refine lv_istore (lv' := [(5, .int 1), (0, .ref (gG S 4 0)), (1, .int a), (2, .int (mI A 257 0 / 24)), (3, .int x), (4, .int (nI k))]) hx hb dX4_goneFrom_50 hl (by decide) rfl (fun ls hl => ?_)
            refine lv_iload hx hb dX4_goneFrom_52 (lv_at hl 0 rfl) ?_
            refine lv_if_eq (tgt := 78) hx hb dX4_goneFrom_54 (by decide) (fun hc6 => ?_) (fun hc6 => ?_)
            · exact absurd hc6 (by decide)
            · refine lv_aload_n hx hb dX4_goneFrom_57 rfl (lv_at hl 1 rfl) ?_
              refine lv_iload_n hx hb dX4_goneFrom_58 rfl (lv_at hl 2 rfl) ?_
              refine lv_iload hx hb dX4_goneFrom_59 (lv_at hl 5 rfl) ?_
              refine lv_iload_n hx hb dX4_goneFrom_61 rfl (lv_at hl 3 rfl) ?_
              refine lv_iconst (v := 2) hx hb dX4_goneFrom_62 (by decide) ?_
              refine lv_isub hx hb dX4_goneFrom_63 ?_
              refine lv_iload_n hx hb dX4_goneFrom_64 rfl (lv_at hl 3 rfl) ?_
              refine cV (S := S) (nA := 4) (As := [.int a, .int (nI k), .int ((mI A 257 0 / 24) - 2), .int (mI A 257 0 / 24)]) (rest := []) X w hl h.v4 (a_X4_countUsed G S ea ns nj nm nt nr nc h A hA a (nI k) ((mI A 257 0 / 24) - 2) (mI A 257 0 / 24)) wY_X4_countUsed wM_X4_164 wIn_X4_countUsed wSe_X4_X4_countUsed wI_X4 (by decide) rfl (by decide +kernel) rfl rfl dX4_goneFrom_65 ⟨by decide, by decide⟩ (Nat.le_of_ble_eq_true rfl) (⟨Nat.le_of_ble_eq_true rfl, Nat.le_of_ble_eq_true rfl⟩) (fun v7 S1 H locs hp w => ?_)
              obtain ⟨rfl, rfl⟩ := hp
              refine lv_topi (fun z8 ez8 => ?_)
              obtain rfl : z8 = (rUsed A nt a (nI k) (mI A 257 0 / 24 - 2) (mI A 257 0 / 24)) := ez8.trans (used_9 hlt)
              refine lv_if_ne (tgt := 78) hx hb dX4_goneFrom_68 (by decide) (fun hze => ?_) (fun hze => ?_)
              · have hx2 : x = rGone A nt a (k + 1) := rGone_n hx1 (gC_2 hze)
                refine lv_iinc (v := nI (k + 1)) (lv' := [(4, .int (nI (k + 1))), (5, .int 1), (0, .ref (gG S 4 0)), (1, .int a), (2, .int (mI A 257 0 / 24)), (3, .int x)]) hx hb dX4_goneFrom_78 hl (k := 5) rfl (nI_1 _) (by decide) rfl (fun ls hl => ?_)
                refine lv_goto (tgt := 20) hx hb dX4_goneFrom_81 (by decide) ?_
                exact ih20 (k + 1) x _ _ _ (by omega) (by omega) (hx2) w (lv_sub hl [2, 3, 4, 5, 0] rfl)
              · have hx2 : x ||| ((1 : Int32) <<< (nI k &&& 31)) = rGone A nt a (k + 1) := rGone_y hx1 (gC_y hus hze hg2)
                refine lv_iload_n hx hb dX4_goneFrom_71 rfl (lv_at hl 4 rfl) ?_
                refine lv_iconst (v := 1) hx hb dX4_goneFrom_72 (by decide) ?_
                refine lv_iload hx hb dX4_goneFrom_73 (lv_at hl 5 rfl) ?_
                refine lv_ishl hx hb dX4_goneFrom_75 ?_
                refine lv_ior hx hb dX4_goneFrom_76 ?_
                refine lv_istore_n (lv' := [(3, .int (x ||| (1 <<< ((nI k) &&& 31)))), (5, .int 1), (0, .ref (gG S 4 0)), (1, .int a), (2, .int (mI A 257 0 / 24)), (4, .int (nI k))]) hx hb dX4_goneFrom_77 rfl hl (by decide) rfl (fun ls hl => ?_)
                refine lv_iinc (v := nI (k + 1)) (lv' := [(4, .int (nI (k + 1))), (3, .int (x ||| (1 <<< ((nI k) &&& 31)))), (5, .int 1), (0, .ref (gG S 4 0)), (1, .int a), (2, .int (mI A 257 0 / 24))]) hx hb dX4_goneFrom_78 hl (k := 5) rfl (nI_1 _) (by decide) rfl (fun ls hl => ?_)
                refine lv_goto (tgt := 20) hx hb dX4_goneFrom_81 (by decide) ?_
                exact ih20 (k + 1) (x ||| (1 <<< ((nI k) &&& 31))) _ _ _ (by omega) (by omega) (hx2) w (lv_sub hl [3, 4, 5, 1, 0] rfl)
    exact L20 _ 0 0 _ _ _ (Nat.lt_succ_self _) (by omega) (rfl) w (lv_sub hl [2, 3, 4, 1, 0] rfl)
  · refine lv_iconst (v := 0) hx hb dX4_goneFrom_13 (by decide) ?_
    exact rI X w rfl dX4_goneFrom_14 (by decide) (by decide) (pu_i (rGone_0 (fun k => gC_3 hg2) 16))

abbrev rm_a_X4_firstSentOn : Room := { frames := 3, cells := 0, slots := 0, locals := 64 }
set_option maxHeartbeats 4000000 in
set_option maxRecDepth 100000 in
theorem a_X4_firstSentOn {s0 : State} {l : Launch} {D : va_G} {cy : Nat → ClassId} (G : Gl s0 l D cy) (S : HS) (ea ns nj nm nt nr nc : Nat) (h : CI ea S ns nj nm nt nr nc) (A : HS) (hA : RK S A ns nj nm nt nr nc) (a : Int32) : Ctr s0 l D cy yX4_firstSentOn cX4_firstSentOn 7 (some .int) rm_a_X4_firstSentOn S [.ref (gG S 4 0), .int a] (PU S (some (.int (rFirst A a nt)))) := by
  refine pro "CavershamShift$Newsroom" G rfl rfl (Nat.le_of_ble_eq_true rfl) (fun p e s m below meth c ls X w hnm hl => ?_)
  have hx := X.1
  have hb := X.2.1
  have hown := X.2.2.2.1
  have hts := X.2.2.2.2.1
  have hl : lv_has ls 7 [(0, .ref (gG S 4 0)), (1, .int a)] := hl
  refine lv_iconst (v := (-1)) hx hb dX4_firstSentOn_0 (by decide) ?_
  refine lv_istore_n (lv' := [(2, .int (-1)), (0, .ref (gG S 4 0)), (1, .int a)]) hx hb dX4_firstSentOn_1 rfl hl (by decide) rfl (fun ls hl => ?_)
  refine lv_aload_n hx hb dX4_firstSentOn_2 rfl (lv_at hl 1 rfl) ?_
  refine g_4_4 (S := S) (x := (mI A 261 0)) X w h.v4 wF_X4_106 (hA.tu) dX4_firstSentOn_3 ?_
  refine lv_istore_n (lv' := [(3, .int (mI A 261 0)), (2, .int (-1)), (0, .ref (gG S 4 0)), (1, .int a)]) hx hb dX4_firstSentOn_6 rfl hl (by decide) rfl (fun ls hl => ?_)
  refine lv_iconst (v := 0) hx hb dX4_firstSentOn_7 (by decide) ?_
  refine lv_istore (lv' := [(4, .int 0), (3, .int (mI A 261 0)), (2, .int (-1)), (0, .ref (gG S 4 0)), (1, .int a)]) hx hb dX4_firstSentOn_8 hl (by decide) rfl (fun ls hl => ?_)
  have L10 : ∀ (N : Nat) (k : Nat) (y : Int32) (x : Int32) (H : Heap) (locs : List Loc) (ls : Array Slot), nt - k < N → (k ≤ nt) → (y = rFirst A a k) → (x = rFT A a k) → Wd s0 D cy S s.heap H locs → lv_has ls 7 [(0, .ref (gG S 4 0)), (1, .int a), (2, .int y), (3, .int x), (4, .int (nI k))] → W p l e rm_a_X4_firstSentOn s m ([.ref (gG S 4 0), .int a] : List Value).toArray below meth c H locs 0 0 (MQ below (GQ s0 D cy (PU S (some (.int (rFirst A a nt))))) ([.ref (gG S 4 0), .int a] : List Value).toArray s rm_a_X4_firstSentOn.cells rm_a_X4_firstSentOn.slots (A0 s0)) (F0 m 10 ls []) := by
    intro N
    induction N with
    | zero => intros; omega
    | succ N ih10 =>
      intro k y x H locs ls hmu hk hy hx1 w hl
      refine lv_iload hx hb dX4_firstSentOn_10 (lv_at hl 4 rfl) ?_
      refine lv_aload_n hx hb dX4_firstSentOn_12 rfl (lv_at hl 0 rfl) ?_
      refine g_4_0 (S := S) (x := (some (gG S 17 3))) X w h.v4 wF_X4_12 (h.f64) dX4_firstSentOn_13 ?_
      refine cV (S := S) (nA := 0) (As := []) (rest := [.int (nI k)]) X w hl h.l_ta.1 (m_size G S ea 3 nt h.l_ta) wY_Jx4a65c_size_8abf5 wM_X4_28 wIn_Jx4a65c_size_8abf5 wSe_Jx4a65c_Jx4a65c_size_8abf5 wI_Jx4a65c (by decide) rfl (by decide +kernel) rfl rfl dX4_firstSentOn_16 ⟨by decide, by decide⟩ (Nat.le_of_ble_eq_true rfl) (⟨Nat.le_of_ble_eq_true rfl, Nat.le_of_ble_eq_true rfl⟩) (fun v1 S1 H locs hp w => ?_)
      obtain ⟨rfl, rfl⟩ := hp
      refine lv_icmp_ge (tgt := 93) hx hb dX4_firstSentOn_19 (by decide) (fun hsz => ?_) (fun hsz => ?_)
      · have hge : nt ≤ k := by
          have hb1 := h.b_ta
          exact (nI_leI (by omega) (by omega)).mp hsz
        refine lv_iload_n hx hb dX4_firstSentOn_93 rfl (lv_at hl 2 rfl) ?_
        exact rI X w rfl dX4_firstSentOn_94 (by decide) (by decide) (pu_i (by rw [hy, show k = nt by omega]))
      · have hlt : k < nt := by
          have hb1 := h.b_ta
          exact Nat.lt_of_not_le (fun z => hsz ((nI_leI (by omega) (by omega)).mpr z))
        refine lv_aload_n hx hb dX4_firstSentOn_22 rfl (lv_at hl 0 rfl) ?_
        refine g_4_0 (S := S) (x := (some (gG S 17 3))) X w h.v4 wF_X4_12 (h.f64) dX4_firstSentOn_23 ?_
        refine lv_iload hx hb dX4_firstSentOn_26 (lv_at hl 4 rfl) ?_
        refine cV (S := S) (nA := 1) (As := [.int (nI k)]) (rest := []) X w hl h.l_ta.1 (m_get G S ea 3 k nt (some (gG S 9 k)) h.l_ta hlt (h.e_ta k hlt).1) wY_Jx4a65c_get_915e3 wM_X4_36 wIn_Jx4a65c_get_915e3 wSe_Jx4a65c_Jx4a65c_get_915e3 wI_Jx4a65c (by decide) rfl (by decide +kernel) rfl rfl dX4_firstSentOn_28 ⟨by decide, by decide⟩ (Nat.le_of_ble_eq_true rfl) (⟨Nat.le_of_ble_eq_true rfl, Nat.le_of_ble_eq_true rfl⟩) (fun v2 S1 H locs hp w => ?_)
        obtain ⟨rfl, rfl⟩ := hp
        refine ckC (S := S) (t := 9) X w (h.e_ta k hlt).2 (by decide) rfl wC_X4_40 dX4_firstSentOn_31 ?_
        refine lv_astore (lv' := [(5, .ref (gG S 9 k)), (0, .ref (gG S 4 0)), (1, .int a), (2, .int y), (3, .int x), (4, .int (nI k))]) hx hb dX4_firstSentOn_34 hl (by decide) rfl (fun ls hl => ?_)
        refine lv_aload hx hb dX4_firstSentOn_36 (lv_at hl 0 rfl) ?_
        rcases hA.rp k hlt with ⟨her3, hur3, hzr3, hwr3, hsr3⟩ | ⟨her3, hvr3, hur3, hwr3⟩
        · refine g_9_8 (S := S) (x := none) X w (h.e_ta k hlt).2 wF_X4_71 (her3) dX4_firstSentOn_38 ?_
          refine lv_astoreN (lv' := [(6, .null), (5, .ref (gG S 9 k)), (0, .ref (gG S 4 0)), (1, .int a), (2, .int y), (3, .int x), (4, .int (nI k))]) hx hb dX4_firstSentOn_41 hl (by decide) rfl (fun ls hl => ?_)
          refine lv_aloadN hx hb dX4_firstSentOn_43 (lv_at hl 0 rfl) ?_
          have t1 : decide (¬ mI A 247 k = -1) = false := decide_eq_false (fun z => z hur3)
          have hn9 : ¬ FCx A a k := fun z => by rw [z.1] at t1; exact absurd t1 (by decide)
          have hs1 : y = rFirst A a (k + 1) := rF_n hy hn9
          have hs2 : x = rFT A a (k + 1) := rFT_n hx1 hn9
          refine lv_ifnullN (tgt := 87) hx hb dX4_firstSentOn_45 (by decide) ?_
          refine lv_iinc (v := nI (k + 1)) (lv' := [(4, .int (nI (k + 1))), (6, .null), (5, .ref (gG S 9 k)), (0, .ref (gG S 4 0)), (1, .int a), (2, .int y), (3, .int x)]) hx hb dX4_firstSentOn_87 hl (k := 6) rfl (nI_1 _) (by decide) rfl (fun ls hl => ?_)
          refine lv_goto (tgt := 10) hx hb dX4_firstSentOn_90 (by decide) ?_
          exact ih10 (k + 1) y x _ _ _ (by omega) (by omega) (hs1) (hs2) w (lv_sub hl [3, 4, 5, 6, 0] rfl)
        · refine g_9_8 (S := S) (x := (some (gG S 6 k))) X w (h.e_ta k hlt).2 wF_X4_71 (her3) dX4_firstSentOn_38 ?_
          refine lv_astore (lv' := [(6, .ref (gG S 6 k)), (5, .ref (gG S 9 k)), (0, .ref (gG S 4 0)), (1, .int a), (2, .int y), (3, .int x), (4, .int (nI k))]) hx hb dX4_firstSentOn_41 hl (by decide) rfl (fun ls hl => ?_)
          refine lv_aload hx hb dX4_firstSentOn_43 (lv_at hl 0 rfl) ?_
          have t1 : decide (¬ mI A 247 k = -1) = true := decide_eq_true hur3
          refine lv_ifnull hx hb dX4_firstSentOn_45 ?_
          refine lv_aload hx hb dX4_firstSentOn_48 (lv_at hl 1 rfl) ?_
          refine g_9_3 (S := S) (x := (mI A 242 k)) X w (h.e_ta k hlt).2 wF_X4_168 ((hA.rc.2.2.2.1 k hlt).2.2.1) dX4_firstSentOn_50 ?_
          refine lv_iload_n hx hb dX4_firstSentOn_53 rfl (lv_at hl 3 rfl) ?_
          refine lv_icmp_ne (tgt := 87) hx hb dX4_firstSentOn_54 (by decide) (fun hv2 => ?_) (fun hv2 => ?_)
          · have hn9 : ¬ FCx A a k := fun z => hv2 z.2.1
            have hs1 : y = rFirst A a (k + 1) := rF_n hy hn9
            have hs2 : x = rFT A a (k + 1) := rFT_n hx1 hn9
            refine lv_iinc (v := nI (k + 1)) (lv' := [(4, .int (nI (k + 1))), (6, .ref (gG S 6 k)), (5, .ref (gG S 9 k)), (0, .ref (gG S 4 0)), (1, .int a), (2, .int y), (3, .int x)]) hx hb dX4_firstSentOn_87 hl (k := 6) rfl (nI_1 _) (by decide) rfl (fun ls hl => ?_)
            refine lv_goto (tgt := 10) hx hb dX4_firstSentOn_90 (by decide) ?_
            exact ih10 (k + 1) y x _ _ _ (by omega) (by omega) (hs1) (hs2) w (lv_sub hl [3, 4, 5, 6, 0] rfl)
          · refine lv_aload hx hb dX4_firstSentOn_57 (lv_at hl 0 rfl) ?_
            refine g_6_8 (S := S) (x := (mI A 247 k)) X w hvr3 wF_X4_56 ((hwr3).2.2.2.2.2.2.2.2.1) dX4_firstSentOn_59 ?_
            refine lv_iconst (v := 1) hx hb dX4_firstSentOn_62 (by decide) ?_
            refine lv_icmp_ne (tgt := 87) hx hb dX4_firstSentOn_63 (by decide) (fun hv3 => ?_) (fun hv3 => ?_)
            · have hn9 : ¬ FCx A a k := fun z => hv3 z.1
              have hs1 : y = rFirst A a (k + 1) := rF_n hy hn9
              have hs2 : x = rFT A a (k + 1) := rFT_n hx1 hn9
              refine lv_iinc (v := nI (k + 1)) (lv' := [(4, .int (nI (k + 1))), (6, .ref (gG S 6 k)), (5, .ref (gG S 9 k)), (0, .ref (gG S 4 0)), (1, .int a), (2, .int y), (3, .int x)]) hx hb dX4_firstSentOn_87 hl (k := 6) rfl (nI_1 _) (by decide) rfl (fun ls hl => ?_)
              refine lv_goto (tgt := 10) hx hb dX4_firstSentOn_90 (by decide) ?_
              exact ih10 (k + 1) y x _ _ _ (by omega) (by omega) (hs1) (hs2) w (lv_sub hl [3, 4, 5, 6, 0] rfl)
            · refine lv_aload hx hb dX4_firstSentOn_66 (lv_at hl 0 rfl) ?_
              refine g_6_10 (S := S) (x := (mI A 252 k)) X w hvr3 wF_X4_109 (((by assumption : RCf S A nr k).2.2.2.2.2.2.2.2.2.2.1) hv3) dX4_firstSentOn_68 ?_
              refine lv_iload_n hx hb dX4_firstSentOn_71 rfl (lv_at hl 5 rfl) ?_
              refine lv_icmp_ge (tgt := 87) hx hb dX4_firstSentOn_72 (by decide) (fun hv4 => ?_) (fun hv4 => ?_)
              · have hn9 : ¬ FCx A a k := FC_ge hA.q4 hlt hv3 hx1 (Int32.not_lt.mpr hv4)
                have hs1 : y = rFirst A a (k + 1) := rF_n hy hn9
                have hs2 : x = rFT A a (k + 1) := rFT_n hx1 hn9
                refine lv_iinc (v := nI (k + 1)) (lv' := [(4, .int (nI (k + 1))), (6, .ref (gG S 6 k)), (5, .ref (gG S 9 k)), (0, .ref (gG S 4 0)), (1, .int a), (2, .int y), (3, .int x)]) hx hb dX4_firstSentOn_87 hl (k := 6) rfl (nI_1 _) (by decide) rfl (fun ls hl => ?_)
                refine lv_goto (tgt := 10) hx hb dX4_firstSentOn_90 (by decide) ?_
                exact ih10 (k + 1) y x _ _ _ (by omega) (by omega) (hs1) (hs2) w (lv_sub hl [3, 4, 5, 6, 0] rfl)
              · have hn9 : FCx A a k := FC_lt hv3 hv2 hx1 (Int32.not_le.mp hv4)
                have hs1 : nI k = rFirst A a (k + 1) := rF_y hn9
                have hs2 : mI A 252 k = rFT A a (k + 1) := rFT_y hn9 (by have := h.b_ta; omega)
                refine lv_aload hx hb dX4_firstSentOn_75 (lv_at hl 1 rfl) ?_
                refine g_9_0 (S := S) (x := (nI k)) X w (h.e_ta k hlt).2 wF_X4_171 (h.n_ta k hlt) dX4_firstSentOn_77 ?_
                refine lv_istore_n (lv' := [(2, .int (nI k)), (6, .ref (gG S 6 k)), (5, .ref (gG S 9 k)), (0, .ref (gG S 4 0)), (1, .int a), (3, .int x), (4, .int (nI k))]) hx hb dX4_firstSentOn_80 rfl hl (by decide) rfl (fun ls hl => ?_)
                refine lv_aload hx hb dX4_firstSentOn_81 (lv_at hl 1 rfl) ?_
                refine g_6_10 (S := S) (x := (mI A 252 k)) X w hvr3 wF_X4_109 (((by assumption : RCf S A nr k).2.2.2.2.2.2.2.2.2.2.1) hv3) dX4_firstSentOn_83 ?_
                refine lv_istore_n (lv' := [(3, .int (mI A 252 k)), (2, .int (nI k)), (6, .ref (gG S 6 k)), (5, .ref (gG S 9 k)), (0, .ref (gG S 4 0)), (1, .int a), (4, .int (nI k))]) hx hb dX4_firstSentOn_86 rfl hl (by decide) rfl (fun ls hl => ?_)
                refine lv_iinc (v := nI (k + 1)) (lv' := [(4, .int (nI (k + 1))), (3, .int (mI A 252 k)), (2, .int (nI k)), (6, .ref (gG S 6 k)), (5, .ref (gG S 9 k)), (0, .ref (gG S 4 0)), (1, .int a)]) hx hb dX4_firstSentOn_87 hl (k := 6) rfl (nI_1 _) (by decide) rfl (fun ls hl => ?_)
                refine lv_goto (tgt := 10) hx hb dX4_firstSentOn_90 (by decide) ?_
                exact ih10 (k + 1) (nI k) (mI A 252 k) _ _ _ (by omega) (by omega) (hs1) (hs2) w (lv_sub hl [5, 6, 2, 1, 0] rfl)
  exact L10 _ 0 (-1) (mI A 261 0) _ _ _ (Nat.lt_succ_self _) (by omega) (rfl) ((if_pos rfl).symm) w (lv_sub hl [3, 4, 2, 1, 0] rfl)

abbrev rm_a_X4_meanQuality : Room := { frames := 3, cells := 0, slots := 0, locals := 64 }
set_option maxHeartbeats 4000000 in
set_option maxRecDepth 100000 in
theorem a_X4_meanQuality {s0 : State} {l : Launch} {D : va_G} {cy : Nat → ClassId} (G : Gl s0 l D cy) (S : HS) (ea ns nj nm nt nr nc : Nat) (h : CI ea S ns nj nm nt nr nc) (A : HS) (hA : RK S A ns nj nm nt nr nc) (a : Int32) : Ctr s0 l D cy yX4_meanQuality cX4_meanQuality 7 (some .double) rm_a_X4_meanQuality S [.ref (gG S 4 0), .int a] (PU S (some (.double (rMean A nt a)))) := by
  refine pro "CavershamShift$Newsroom" G rfl rfl (Nat.le_of_ble_eq_true rfl) (fun p e s m below meth c ls X w hnm hl => ?_)
  have hx := X.1
  have hb := X.2.1
  have hown := X.2.2.2.1
  have hts := X.2.2.2.2.1
  have hl : lv_has ls 7 [(0, .ref (gG S 4 0)), (1, .int a)] := hl
  refine lv_iconst (v := 0) hx hb dX4_meanQuality_0 (by decide) ?_
  refine lv_istore_n (lv' := [(2, .int 0), (0, .ref (gG S 4 0)), (1, .int a)]) hx hb dX4_meanQuality_1 rfl hl (by decide) rfl (fun ls hl => ?_)
  refine lv_iconst (v := 0) hx hb dX4_meanQuality_2 (by decide) ?_
  refine lv_istore_n (lv' := [(3, .int 0), (2, .int 0), (0, .ref (gG S 4 0)), (1, .int a)]) hx hb dX4_meanQuality_3 rfl hl (by decide) rfl (fun ls hl => ?_)
  refine lv_iconst (v := 0) hx hb dX4_meanQuality_4 (by decide) ?_
  refine lv_istore (lv' := [(4, .int 0), (3, .int 0), (2, .int 0), (0, .ref (gG S 4 0)), (1, .int a)]) hx hb dX4_meanQuality_5 hl (by decide) rfl (fun ls hl => ?_)
  have L7 : ∀ (N : Nat) (k : Nat) (y : Int32) (z1 : Int32) (H : Heap) (locs : List Loc) (ls : Array Slot), nt - k < N → (k ≤ nt) → (y = rMqS A a k) → (z1 = rCnt (rMqP A a) k) → Wd s0 D cy S s.heap H locs → lv_has ls 7 [(0, .ref (gG S 4 0)), (1, .int a), (2, .int y), (3, .int z1), (4, .int (nI k))] → W p l e rm_a_X4_meanQuality s m ([.ref (gG S 4 0), .int a] : List Value).toArray below meth c H locs 0 0 (MQ below (GQ s0 D cy (PU S (some (.double (rMean A nt a))))) ([.ref (gG S 4 0), .int a] : List Value).toArray s rm_a_X4_meanQuality.cells rm_a_X4_meanQuality.slots (A0 s0)) (F0 m 7 ls []) := by
    intro N
    induction N with
    | zero => intros; omega
    | succ N ih7 =>
      intro k y z1 H locs ls hmu hk hy hz1 w hl
      refine lv_iload hx hb dX4_meanQuality_7 (lv_at hl 4 rfl) ?_
      refine lv_aload_n hx hb dX4_meanQuality_9 rfl (lv_at hl 0 rfl) ?_
      refine g_4_0 (S := S) (x := (some (gG S 17 3))) X w h.v4 wF_X4_12 (h.f64) dX4_meanQuality_10 ?_
      refine cV (S := S) (nA := 0) (As := []) (rest := [.int (nI k)]) X w hl h.l_ta.1 (m_size G S ea 3 nt h.l_ta) wY_Jx4a65c_size_8abf5 wM_X4_28 wIn_Jx4a65c_size_8abf5 wSe_Jx4a65c_Jx4a65c_size_8abf5 wI_Jx4a65c (by decide) rfl (by decide +kernel) rfl rfl dX4_meanQuality_13 ⟨by decide, by decide⟩ (Nat.le_of_ble_eq_true rfl) (⟨Nat.le_of_ble_eq_true rfl, Nat.le_of_ble_eq_true rfl⟩) (fun v1 S1 H locs hp w => ?_)
      obtain ⟨rfl, rfl⟩ := hp
      refine lv_icmp_ge (tgt := 74) hx hb dX4_meanQuality_16 (by decide) (fun hsz => ?_) (fun hsz => ?_)
      · have hge : nt ≤ k := by
          have hb1 := h.b_ta
          exact (nI_leI (by omega) (by omega)).mp hsz
        refine lv_iload_n hx hb dX4_meanQuality_74 rfl (lv_at hl 3 rfl) ?_
        refine lv_if_ne (tgt := 82) hx hb dX4_meanQuality_75 (by decide) (fun hc0 => ?_) (fun hc0 => ?_)
        · refine lv_iload_n hx hb dX4_meanQuality_82 rfl (lv_at hl 2 rfl) ?_
          refine lv_i2d hx hb dX4_meanQuality_83 ?_
          refine lv_iload_n hx hb dX4_meanQuality_84 rfl (lv_at hl 3 rfl) ?_
          refine lv_i2d hx hb dX4_meanQuality_85 ?_
          refine lv_ddiv hx hb dX4_meanQuality_86 (n64_of (nan_div _ hc0)) ?_
          exact rD X w rfl dX4_meanQuality_87 (by decide) (by decide) (pu_d (by unfold rMean; first | (rw [hz1, show k = nt by omega] at hc0; rw [if_neg hc0, hy, hz1, show k = nt by omega]; done) | (rw [hz1, show k = nt by omega] at hc0; rw [if_pos hc0])))
        · refine lv_dconst0 hx hb dX4_meanQuality_78 ?_
          refine lv_goto (tgt := 87) hx hb dX4_meanQuality_79 (by decide) ?_
          exact rD X w rfl dX4_meanQuality_87 (by decide) (by decide) (pu_d (by unfold rMean; first | (rw [hz1, show k = nt by omega] at hc0; rw [if_neg hc0, hy, hz1, show k = nt by omega]; done) | (rw [hz1, show k = nt by omega] at hc0; rw [if_pos hc0])))
      · have hlt : k < nt := by
          have hb1 := h.b_ta
          exact Nat.lt_of_not_le (fun z => hsz ((nI_leI (by omega) (by omega)).mpr z))
        refine lv_aload_n hx hb dX4_meanQuality_19 rfl (lv_at hl 0 rfl) ?_
        refine g_4_0 (S := S) (x := (some (gG S 17 3))) X w h.v4 wF_X4_12 (h.f64) dX4_meanQuality_20 ?_
        refine lv_iload hx hb dX4_meanQuality_23 (lv_at hl 4 rfl) ?_
        refine cV (S := S) (nA := 1) (As := [.int (nI k)]) (rest := []) X w hl h.l_ta.1 (m_get G S ea 3 k nt (some (gG S 9 k)) h.l_ta hlt (h.e_ta k hlt).1) wY_Jx4a65c_get_915e3 wM_X4_36 wIn_Jx4a65c_get_915e3 wSe_Jx4a65c_Jx4a65c_get_915e3 wI_Jx4a65c (by decide) rfl (by decide +kernel) rfl rfl dX4_meanQuality_25 ⟨by decide, by decide⟩ (Nat.le_of_ble_eq_true rfl) (⟨Nat.le_of_ble_eq_true rfl, Nat.le_of_ble_eq_true rfl⟩) (fun v2 S1 H locs hp w => ?_)
        obtain ⟨rfl, rfl⟩ := hp
        refine ckC (S := S) (t := 9) X w (h.e_ta k hlt).2 (by decide) rfl wC_X4_40 dX4_meanQuality_28 ?_
        refine lv_astore (lv' := [(5, .ref (gG S 9 k)), (0, .ref (gG S 4 0)), (1, .int a), (2, .int y), (3, .int z1), (4, .int (nI k))]) hx hb dX4_meanQuality_31 hl (by decide) rfl (fun ls hl => ?_)
        refine lv_aload hx hb dX4_meanQuality_33 (lv_at hl 0 rfl) ?_
        rcases hA.rp k hlt with ⟨her3, hur3, hzr3, hwr3, hsr3⟩ | ⟨her3, hvr3, hur3, hwr3⟩
        · refine g_9_8 (S := S) (x := none) X w (h.e_ta k hlt).2 wF_X4_71 (her3) dX4_meanQuality_35 ?_
          refine lv_astoreN (lv' := [(6, .null), (5, .ref (gG S 9 k)), (0, .ref (gG S 4 0)), (1, .int a), (2, .int y), (3, .int z1), (4, .int (nI k))]) hx hb dX4_meanQuality_38 hl (by decide) rfl (fun ls hl => ?_)
          refine lv_aloadN hx hb dX4_meanQuality_40 (lv_at hl 0 rfl) ?_
          have t1 : decide (¬ mI A 247 k = -1) = false := decide_eq_false (fun z => z hur3)
          have hp : rMqP A a k = false := by unfold rMqP; rw [t1, Bool.false_and]
          have hmq := mq_n hy hz1 hp
          have hs1 := hmq.1
          have hs2 := hmq.2
          refine lv_ifnullN (tgt := 68) hx hb dX4_meanQuality_42 (by decide) ?_
          refine lv_iinc (v := nI (k + 1)) (lv' := [(4, .int (nI (k + 1))), (6, .null), (5, .ref (gG S 9 k)), (0, .ref (gG S 4 0)), (1, .int a), (2, .int y), (3, .int z1)]) hx hb dX4_meanQuality_68 hl (k := 6) rfl (nI_1 _) (by decide) rfl (fun ls hl => ?_)
          refine lv_goto (tgt := 7) hx hb dX4_meanQuality_71 (by decide) ?_
          exact ih7 (k + 1) y z1 _ _ _ (by omega) (by omega) (hs1) (hs2) w (lv_sub hl [3, 4, 5, 6, 0] rfl)
        · refine g_9_8 (S := S) (x := (some (gG S 6 k))) X w (h.e_ta k hlt).2 wF_X4_71 (her3) dX4_meanQuality_35 ?_
          refine lv_astore (lv' := [(6, .ref (gG S 6 k)), (5, .ref (gG S 9 k)), (0, .ref (gG S 4 0)), (1, .int a), (2, .int y), (3, .int z1), (4, .int (nI k))]) hx hb dX4_meanQuality_38 hl (by decide) rfl (fun ls hl => ?_)
          refine lv_aload hx hb dX4_meanQuality_40 (lv_at hl 0 rfl) ?_
          have t1 : decide (¬ mI A 247 k = -1) = true := decide_eq_true hur3
          refine lv_ifnull hx hb dX4_meanQuality_42 ?_
          refine lv_aload hx hb dX4_meanQuality_45 (lv_at hl 1 rfl) ?_
          refine g_9_1 (S := S) (x := (some (gG S 8 (tS A k)))) X w (h.e_ta k hlt).2 wF_X4_44 ((hA.rc.tSx h.b_st hlt).2.2) dX4_meanQuality_47 ?_
          refine g_8_4 (S := S) (x := (mI A 226 (tS A k))) X w (h.e_st (tS A k) (hA.rc.tSx h.b_st hlt).1).2 wF_X4_62 ((hA.rc.1 (tS A k) (hA.rc.tSx h.b_st hlt).1).2.2.2.1) dX4_meanQuality_50 ?_
          refine lv_iload_n hx hb dX4_meanQuality_53 rfl (lv_at hl 3 rfl) ?_
          refine lv_icmp_ne (tgt := 68) hx hb dX4_meanQuality_54 (by decide) (fun hv2 => ?_) (fun hv2 => ?_)
          · have hp : rMqP A a k = false := by unfold rMqP; rw [decide_eq_false hv2, Bool.and_false]
            have hmq := mq_n hy hz1 hp
            have hs1 := hmq.1
            have hs2 := hmq.2
            refine lv_iinc (v := nI (k + 1)) (lv' := [(4, .int (nI (k + 1))), (6, .ref (gG S 6 k)), (5, .ref (gG S 9 k)), (0, .ref (gG S 4 0)), (1, .int a), (2, .int y), (3, .int z1)]) hx hb dX4_meanQuality_68 hl (k := 6) rfl (nI_1 _) (by decide) rfl (fun ls hl => ?_)
            refine lv_goto (tgt := 7) hx hb dX4_meanQuality_71 (by decide) ?_
            exact ih7 (k + 1) y z1 _ _ _ (by omega) (by omega) (hs1) (hs2) w (lv_sub hl [3, 4, 5, 6, 0] rfl)
          · have hp : rMqP A a k = true := by unfold rMqP; rw [t1, decide_eq_true hv2]; rfl
            have hmq := mq_y hy hz1 hp
            have hs1 := hmq.1
            have hs2 := hmq.2
            refine lv_iload_n hx hb dX4_meanQuality_57 rfl (lv_at hl 4 rfl) ?_
            refine lv_aload hx hb dX4_meanQuality_58 (lv_at hl 0 rfl) ?_
            refine g_6_7 (S := S) (x := (mI A 248 k)) X w hvr3 wF_X4_172 ((hwr3).2.2.2.2.2.2.2.1) dX4_meanQuality_60 ?_
            refine lv_iadd hx hb dX4_meanQuality_63 ?_
            refine lv_istore_n (lv' := [(2, .int (y + (mI A 248 k))), (6, .ref (gG S 6 k)), (5, .ref (gG S 9 k)), (0, .ref (gG S 4 0)), (1, .int a), (3, .int z1), (4, .int (nI k))]) hx hb dX4_meanQuality_64 rfl hl (by decide) rfl (fun ls hl => ?_)
            refine lv_iinc (v := (z1 + 1)) (lv' := [(3, .int (z1 + 1)), (2, .int (y + (mI A 248 k))), (6, .ref (gG S 6 k)), (5, .ref (gG S 9 k)), (0, .ref (gG S 4 0)), (1, .int a), (4, .int (nI k))]) hx hb dX4_meanQuality_65 hl (k := 5) rfl (rfl) (by decide) rfl (fun ls hl => ?_)
            refine lv_iinc (v := nI (k + 1)) (lv' := [(4, .int (nI (k + 1))), (3, .int (z1 + 1)), (2, .int (y + (mI A 248 k))), (6, .ref (gG S 6 k)), (5, .ref (gG S 9 k)), (0, .ref (gG S 4 0)), (1, .int a)]) hx hb dX4_meanQuality_68 hl (k := 6) rfl (nI_1 _) (by decide) rfl (fun ls hl => ?_)
            refine lv_goto (tgt := 7) hx hb dX4_meanQuality_71 (by decide) ?_
            exact ih7 (k + 1) (y + (mI A 248 k)) (z1 + 1) _ _ _ (by omega) (by omega) (hs1) (hs2) w (lv_sub hl [5, 6, 2, 1, 0] rfl)
  exact L7 _ 0 0 0 _ _ _ (Nat.lt_succ_self _) (by omega) (rfl) (rfl) w (lv_sub hl [3, 4, 2, 1, 0] rfl)

abbrev rm_a_X10_gone : Room := { frames := 6, cells := 1, slots := 6, locals := 117 }
set_option maxHeartbeats 4000000 in
set_option maxRecDepth 100000 in
theorem a_X10_gone {s0 : State} {l : Launch} {D : va_G} {cy : Nat → ClassId} (G : Gl s0 l D cy) (S : HS) (ea ns nj nm nt nr nc : Nat) (h : CI ea S ns nj nm nt nr nc) (A : HS) (hA : RK S A ns nj nm nt nr nc) (g0 : Nat) (hg : mI S 164 0 = nI g0) (hg7 : g0 ≤ 720) (hA7 : mI A 257 0 = nI g0) (a : Int32) : CtX s0 l D cy yX10_gone cX10_gone 2 (some .int) rm_a_X10_gone S [.ref (gG S 10 0), .int a] (fun v S' => sOut a 0 5 = false ∧ some (.int (rGone A nt a 16)) = v ∧ S = S') (fun E S' => S = S' ∧ E = "java/lang/IndexOutOfBoundsException" ∧ sOut a 0 5 = true) := by
  refine proX "CavershamShift" G rfl rfl (Nat.le_of_ble_eq_true rfl) (fun p e s m below meth c ls X w hno hl => ?_)
  have hx := X.1
  have hb := X.2.1
  have hown := X.2.2.2.1
  have hts := X.2.2.2.2.1
  have hl : lv_has ls 2 [(0, .ref (gG S 10 0)), (1, .int a)] := hl
  refine lv_iload_n hx hb dX10_gone_0 rfl (lv_at hl 1 rfl) ?_
  refine lv_iconst (v := 0) hx hb dX10_gone_1 (by decide) ?_
  refine lv_iconst (v := 5) hx hb dX10_gone_2 (by decide) ?_
  refine cS (S := S) (nA := 3) (As := [.int a, .int 0, .int 5]) (rest := []) X w hl (m_X10_isOutside G S a 0 5) wY_X10_isOutside wM_X10_48 wSt_X10_isOutside wI_X10 (by decide +kernel) rfl rfl dX10_gone_3 ⟨by decide, by decide⟩ (Nat.le_of_ble_eq_true rfl) (⟨Nat.le_of_ble_eq_true rfl, Nat.le_of_ble_eq_true rfl⟩) (fun v1 S1 H locs hp w => ?_)
  obtain ⟨rfl, rfl⟩ := hp
  refine lv_if_eq (tgt := 20) hx hb dX10_gone_6 (by decide) (fun hyA => ?_) (fun hyA => ?_)
  · refine lv_aload_n hx hb dX10_gone_20 rfl (lv_at hl 0 rfl) ?_
    refine g_10_2 (S := S) (x := (some (gG S 4 0))) X w h.v10 wF_X10_28 (h.f162) dX10_gone_21 ?_
    refine lv_iload_n hx hb dX10_gone_24 rfl (lv_at hl 1 rfl) ?_
    refine lv_aload_n hx hb dX10_gone_25 rfl (lv_at hl 0 rfl) ?_
    refine cV (S := S) (nA := 0) (As := []) (rest := [.int a, .ref (gG S 4 0)]) X w hl h.v10 (m_X10_day G S ea ns nj nm nt nr nc h ) wY_X10_day wM_X10_292 wIn_X10_day wSe_X10_X10_day wI_X10 (by decide) rfl (by decide +kernel) rfl rfl dX10_gone_26 ⟨by decide, by decide⟩ (Nat.le_of_ble_eq_true rfl) (⟨Nat.le_of_ble_eq_true rfl, Nat.le_of_ble_eq_true rfl⟩) (fun v2 S1 H locs hp w => ?_)
    obtain ⟨rfl, rfl⟩ := hp
    refine lv_topi (fun z3 ez3 => ?_)
    obtain rfl : z3 = (mI A 257 0 / 24) := ez3.trans (by rw [hg, hA7])
    refine cV (S := S) (nA := 2) (As := [.int a, .int (mI A 257 0 / 24)]) (rest := []) X w hl h.v4 (a_X4_goneFrom G S ea ns nj nm nt nr nc h A hA g0 (by assumption) (by assumption) (by assumption) a) wY_X4_goneFrom wM_X10_295 wIn_X4_goneFrom wSe_X4_X4_goneFrom wI_X4 (by decide) rfl (by decide +kernel) rfl rfl dX10_gone_29 ⟨by decide, by decide⟩ (Nat.le_of_ble_eq_true rfl) (⟨Nat.le_of_ble_eq_true rfl, Nat.le_of_ble_eq_true rfl⟩) (fun v4 S1 H locs hp w => ?_)
    obtain ⟨rfl, rfl⟩ := hp
    exact rXr (rI X w rfl dX10_gone_32 (by decide) (by decide) (⟨b2i_f hyA, rfl, rfl⟩))
  · exact rTW (S := S) (names := ["java/lang/RuntimeException", "java/lang/Exception"]) X w hl hno (by decide) (by decide) wC_X10_90 wI_java_lang_IndexOutOfBoundsException wS9_X10_290 at_IOB go_IOB ⟨by decide, by decide⟩ dX10_gone_9 dX10_gone_12 dX10_gone_13 dX10_gone_16 dX10_gone_19 (by decide) (by decide) (Nat.le_of_ble_eq_true rfl) (Nat.le_of_ble_eq_true rfl) (Nat.le_of_ble_eq_true rfl) (Nat.le_of_ble_eq_true rfl) (⟨rfl, rfl, b2i_t hyA⟩)

abbrev rm_a_X10_first : Room := { frames := 6, cells := 1, slots := 6, locals := 90 }
set_option maxHeartbeats 4000000 in
set_option maxRecDepth 100000 in
theorem a_X10_first {s0 : State} {l : Launch} {D : va_G} {cy : Nat → ClassId} (G : Gl s0 l D cy) (S : HS) (ea ns nj nm nt nr nc : Nat) (h : CI ea S ns nj nm nt nr nc) (A : HS) (hA : RK S A ns nj nm nt nr nc) (a : Int32) : CtX s0 l D cy yX10_first cX10_first 2 (some .int) rm_a_X10_first S [.ref (gG S 10 0), .int a] (fun v S' => sOut a 0 15 = false ∧ some (.int (rFirst A a nt)) = v ∧ S = S') (fun E S' => S = S' ∧ E = "java/lang/IndexOutOfBoundsException" ∧ sOut a 0 15 = true) := by
  refine proX "CavershamShift" G rfl rfl (Nat.le_of_ble_eq_true rfl) (fun p e s m below meth c ls X w hno hl => ?_)
  have hx := X.1
  have hb := X.2.1
  have hown := X.2.2.2.1
  have hts := X.2.2.2.2.1
  have hl : lv_has ls 2 [(0, .ref (gG S 10 0)), (1, .int a)] := hl
  refine lv_iload_n hx hb dX10_first_0 rfl (lv_at hl 1 rfl) ?_
  refine lv_iconst (v := 0) hx hb dX10_first_1 (by decide) ?_
  refine lv_bipush (v := 15) hx hb dX10_first_2 (by decide) ?_
  refine cS (S := S) (nA := 3) (As := [.int a, .int 0, .int 15]) (rest := []) X w hl (m_X10_isOutside G S a 0 15) wY_X10_isOutside wM_X10_48 wSt_X10_isOutside wI_X10 (by decide +kernel) rfl rfl dX10_first_4 ⟨by decide, by decide⟩ (Nat.le_of_ble_eq_true rfl) (⟨Nat.le_of_ble_eq_true rfl, Nat.le_of_ble_eq_true rfl⟩) (fun v1 S1 H locs hp w => ?_)
  obtain ⟨rfl, rfl⟩ := hp
  refine lv_if_eq (tgt := 21) hx hb dX10_first_7 (by decide) (fun hyA => ?_) (fun hyA => ?_)
  · refine lv_aload_n hx hb dX10_first_21 rfl (lv_at hl 0 rfl) ?_
    refine g_10_2 (S := S) (x := (some (gG S 4 0))) X w h.v10 wF_X10_28 (h.f162) dX10_first_22 ?_
    refine lv_iload_n hx hb dX10_first_25 rfl (lv_at hl 1 rfl) ?_
    refine cV (S := S) (nA := 1) (As := [.int a]) (rest := []) X w hl h.v4 (a_X4_firstSentOn G S ea ns nj nm nt nr nc h A hA a) wY_X4_firstSentOn wM_X10_300 wIn_X4_firstSentOn wSe_X4_X4_firstSentOn wI_X4 (by decide) rfl (by decide +kernel) rfl rfl dX10_first_26 ⟨by decide, by decide⟩ (Nat.le_of_ble_eq_true rfl) (⟨Nat.le_of_ble_eq_true rfl, Nat.le_of_ble_eq_true rfl⟩) (fun v2 S1 H locs hp w => ?_)
    obtain ⟨rfl, rfl⟩ := hp
    exact rXr (rI X w rfl dX10_first_29 (by decide) (by decide) (⟨b2i_f hyA, rfl, rfl⟩))
  · exact rTW (S := S) (names := ["java/lang/RuntimeException", "java/lang/Exception"]) X w hl hno (by decide) (by decide) wC_X10_90 wI_java_lang_IndexOutOfBoundsException wS9_X10_298 at_IOB go_IOB ⟨by decide, by decide⟩ dX10_first_10 dX10_first_13 dX10_first_14 dX10_first_17 dX10_first_20 (by decide) (by decide) (Nat.le_of_ble_eq_true rfl) (Nat.le_of_ble_eq_true rfl) (Nat.le_of_ble_eq_true rfl) (Nat.le_of_ble_eq_true rfl) (⟨rfl, rfl, b2i_t hyA⟩)

abbrev rm_a_X10_clarity : Room := { frames := 6, cells := 1, slots := 6, locals := 90 }
set_option maxHeartbeats 4000000 in
set_option maxRecDepth 100000 in
theorem a_X10_clarity {s0 : State} {l : Launch} {D : va_G} {cy : Nat → ClassId} (G : Gl s0 l D cy) (S : HS) (ea ns nj nm nt nr nc : Nat) (h : CI ea S ns nj nm nt nr nc) (A : HS) (hA : RK S A ns nj nm nt nr nc) (a : Int32) : CtX s0 l D cy yX10_clarity cX10_clarity 2 (some .double) rm_a_X10_clarity S [.ref (gG S 10 0), .int a] (fun v S' => sOut a 0 5 = false ∧ some (.double (rMean A nt a)) = v ∧ S = S') (fun E S' => S = S' ∧ E = "java/lang/IndexOutOfBoundsException" ∧ sOut a 0 5 = true) := by
  refine proX "CavershamShift" G rfl rfl (Nat.le_of_ble_eq_true rfl) (fun p e s m below meth c ls X w hno hl => ?_)
  have hx := X.1
  have hb := X.2.1
  have hown := X.2.2.2.1
  have hts := X.2.2.2.2.1
  have hl : lv_has ls 2 [(0, .ref (gG S 10 0)), (1, .int a)] := hl
  refine lv_iload_n hx hb dX10_clarity_0 rfl (lv_at hl 1 rfl) ?_
  refine lv_iconst (v := 0) hx hb dX10_clarity_1 (by decide) ?_
  refine lv_iconst (v := 5) hx hb dX10_clarity_2 (by decide) ?_
  refine cS (S := S) (nA := 3) (As := [.int a, .int 0, .int 5]) (rest := []) X w hl (m_X10_isOutside G S a 0 5) wY_X10_isOutside wM_X10_48 wSt_X10_isOutside wI_X10 (by decide +kernel) rfl rfl dX10_clarity_3 ⟨by decide, by decide⟩ (Nat.le_of_ble_eq_true rfl) (⟨Nat.le_of_ble_eq_true rfl, Nat.le_of_ble_eq_true rfl⟩) (fun v1 S1 H locs hp w => ?_)
  obtain ⟨rfl, rfl⟩ := hp
  refine lv_if_eq (tgt := 20) hx hb dX10_clarity_6 (by decide) (fun hyA => ?_) (fun hyA => ?_)
  · refine lv_aload_n hx hb dX10_clarity_20 rfl (lv_at hl 0 rfl) ?_
    refine g_10_2 (S := S) (x := (some (gG S 4 0))) X w h.v10 wF_X10_28 (h.f162) dX10_clarity_21 ?_
    refine lv_iload_n hx hb dX10_clarity_24 rfl (lv_at hl 1 rfl) ?_
    refine cV (S := S) (nA := 1) (As := [.int a]) (rest := []) X w hl h.v4 (a_X4_meanQuality G S ea ns nj nm nt nr nc h A hA a) wY_X4_meanQuality wM_X10_304 wIn_X4_meanQuality wSe_X4_X4_meanQuality wI_X4 (by decide) rfl (by decide +kernel) rfl rfl dX10_clarity_25 ⟨by decide, by decide⟩ (Nat.le_of_ble_eq_true rfl) (⟨Nat.le_of_ble_eq_true rfl, Nat.le_of_ble_eq_true rfl⟩) (fun v2 S1 H locs hp w => ?_)
    obtain ⟨rfl, rfl⟩ := hp
    exact rXr (rD X w rfl dX10_clarity_28 (by decide) (by decide) (⟨b2i_f hyA, rfl, rfl⟩))
  · exact rTW (S := S) (names := ["java/lang/RuntimeException", "java/lang/Exception"]) X w hl hno (by decide) (by decide) wC_X10_90 wI_java_lang_IndexOutOfBoundsException wS9_X10_290 at_IOB go_IOB ⟨by decide, by decide⟩ dX10_clarity_9 dX10_clarity_12 dX10_clarity_13 dX10_clarity_16 dX10_clarity_19 (by decide) (by decide) (Nat.le_of_ble_eq_true rfl) (Nat.le_of_ble_eq_true rfl) (Nat.le_of_ble_eq_true rfl) (Nat.le_of_ble_eq_true rfl) (⟨rfl, rfl, b2i_t hyA⟩)

