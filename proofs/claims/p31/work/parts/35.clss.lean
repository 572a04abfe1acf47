theorem pO1 {S : HS} {j : Nat} (z : pOut S j = true) : mI S 104 j = 1 ∧ mR S 152 j ≠ none ∧ mI S 151 j ≠ -1 := by
  unfold pOut at z
  rw [Bool.and_eq_true, Bool.and_eq_true] at z
  exact ⟨of_decide_eq_true z.2.1, of_decide_eq_true z.1, of_decide_eq_true z.2.2⟩
theorem pO2 {S : HS} {j : Nat} (h1 : mI S 104 j = 1) (h2 : mR S 152 j ≠ none) (h3 : mI S 151 j ≠ -1) : pOut S j = true := by
  unfold pOut
  rw [decide_eq_true h1, decide_eq_true h2, decide_eq_true h3]; rfl
theorem m12 {S T : HS} (k : Kq (hidV false) hiH (hidR false) S T) : Kq (hidV true) hiP (hidR true) S T := k.le (fun t i h => by unfold hidV at h ⊢; rw [Bool.or_eq_false_iff] at h ⊢; exact ⟨h.1, rfl⟩) (fun f i h => (Bool.or_eq_false_iff.mp h).2) (fun t i h => by unfold hidR at h ⊢; rw [Bool.or_eq_false_iff] at h ⊢; exact ⟨h.1, rfl⟩)
theorem ff_of {a b : Bool} (h : a = true → b = true) (z : b = false) : a = false := by
  cases a with
  | false => rfl
  | true => rw [h rfl] at z; exact absurd z (by decide)
theorem Kq.cB {S T : HS} (k : Keep S T) : KeepB S T := k.le (fun t i => ff_of clsT_of) (fun f i => ff_of clsB_of) (fun f i => ff_of clsR_of)
theorem Kq.pB {S T : HS} (k : KeepP S T) : KeepB S T := k.le (fun t i => ff_of clsT_of) (fun f i => ff_of clsB_p) (fun f i => ff_of clsR_of)
theorem Kq.rB {S T : HS} (k : KeepR S T) : KeepRB S T := k.le (fun t i => ff_of refU_of) (fun f i => ff_of refB_of) (fun _ _ z => z)
theorem Kq.rpB {S T : HS} (k : KeepRP S T) : KeepRB S T := k.le (fun t i => ff_of refU_of) (fun f i => ff_of refB_p) (fun _ _ z => z)
theorem m2k {S T : HS} (k : Kq (hidV true) hiP (hidR true) S T) : KeepP S T := k.le (fun t i => ff_of fun e => by
    have z : (t = 30 ∧ i = 5) ∨ t = 6 := by simpa [hidV] using e
    rcases z with ⟨rfl, rfl⟩ | rfl
    · decide
    · rfl) (fun f i => ff_of fun e => by
    have z : f = 164 ∨ f = 50 ∨ f = 51 ∨ f / 16 = 6 ∨ f = 67 ∨ f = 68 ∨ f = 69 ∨ ((f = 272 ∨ f = 274) ∧ i = 5) := by simpa [hiP, hiH] using e
    rcases z with rfl | rfl | rfl | z | rfl | rfl | rfl | ⟨rfl | rfl, rfl⟩
    · rfl
    · rfl
    · rfl
    · have e1 : clsX f = false := clsX_f (by omega)
      unfold clsP
      rw [z, e1]; rfl
    · rfl
    · rfl
    · rfl
    · rfl
    · rfl) (fun f i => ff_of fun e => by
    have z : (f = 273 ∧ i = 5) ∨ f = 152 ∨ f / 16 = 6 := by simpa [hidR] using e
    rcases z with ⟨rfl, rfl⟩ | rfl | z
    · rfl
    · rfl
    · have e1 : (f == 145) = false := by
        have h5 : f ≠ 145 := by omega
        simp [h5]
      unfold clsS
      rw [z, e1]; rfl)
theorem m1k {S T : HS} (k : Kq (hidV false) hiH (hidR false) S T) : Keep S T := k.le (fun t i => ff_of fun e => by
    have z : t = 30 ∧ i = 5 := by simpa [hidV] using e
    obtain ⟨rfl, rfl⟩ := z
    decide) (fun f i => ff_of fun e => by
    have z : f = 50 ∨ f = 51 ∨ f / 16 = 6 ∨ f = 67 ∨ f = 68 ∨ f = 69 ∨ ((f = 272 ∨ f = 274) ∧ i = 5) := by simpa [hiH] using e
    rcases z with rfl | rfl | z | rfl | rfl | rfl | ⟨rfl | rfl, rfl⟩
    · rfl
    · rfl
    · have e1 : clsX f = false := clsX_f (by omega)
      unfold clsI
      rw [z, e1]; rfl
    · rfl
    · rfl
    · rfl
    · rfl
    · rfl) (fun f i => ff_of fun e => by
    have z : f = 273 ∧ i = 5 := by simpa [hidR] using e
    obtain ⟨rfl, rfl⟩ := z
    rfl)
/-- a report that waits -/
def pW (S : HS) (j : Nat) : Bool := decide (mR S 152 j ≠ none) && decide (mI S 104 j = 0)
def usd (S : HS) (nt : Nat) : Nat := cntB (fun j => !(pW S j)) nt
theorem usd_le (S : HS) (nt : Nat) : usd S nt ≤ nt := cntB_le _ nt
theorem usd_lt {S : HS} {nt j : Nat} (hj : j < nt) (h : pW S j = true) : usd S nt + 1 ≤ nt := by
  have z := cntB_lt (p := fun j => !(pW S j)) (q := fun _ => true) nt (fun _ _ _ => rfl) j hj (by show (!(pW S j)) = false; rw [h]; rfl) rfl
  exact Nat.le_trans z (cntB_le _ nt)
theorem usd_s {S T : HS} {nt j : Nat} (hj : j < nt) (h : pW S j = true) (e152 : ∀ i, mR T 152 i = mR S 152 i) (e104 : ∀ i, mI T 104 i = if i = j then 1 else mI S 104 i) : usd S nt + 1 ≤ usd T nt := by
  refine cntB_lt nt (fun i _ z => ?_) j hj (by show (!(pW S j)) = false; rw [h]; rfl) ?_
  · have z1 : pW S i = false := by simpa using z
    have z2 : pW T i = false := by
      unfold pW at z1 ⊢
      rw [e152, e104]
      by_cases e : i = j
      · rw [if_pos e, show decide ((1 : Int32) = 0) = false by decide, Bool.and_false]
      · rw [if_neg e]; exact z1
    show (!(pW T i)) = true
    rw [z2]; rfl
  · have z2 : pW T j = false := by
      unfold pW
      rw [e104, if_pos rfl, show decide ((1 : Int32) = 0) = false by decide, Bool.and_false]
    show (!(pW T j)) = true
    rw [z2]; rfl
theorem co_room {S T : HS} {nc nt j : Nat} (hj : j < nt) (hc : nc ≤ cntB (pOut S) nt) (h0 : ¬ mI S 104 j = 1) (e104 : ∀ i, mI T 104 i = if i = j then 1 else mI S 104 i) (e152 : ∀ i, mR T 152 i = mR S 152 i) (e151 : ∀ i, mI T 151 i = mI S 151 i) (z : pOut T j = true) : nc + 1 ≤ cntB (pOut T) nt := by
  refine Nat.le_trans (Nat.succ_le_succ hc) (cntB_lt nt (fun k _ y => ?_) j hj ?_ z)
  · obtain ⟨y1, y2, y3⟩ := pO1 y
    refine pO2 ?_ (by rw [e152]; exact y2) (by rw [e151]; exact y3)
    rw [e104]
    by_cases e : k = j
    · rw [if_pos e]
    · rw [if_neg e]; exact y1
  · cases e : pOut S j with
    | false => rfl
    | true => exact absurd (pO1 e).1 h0
theorem co_room2 {S : HS} {nc nt j : Nat} {x : Int32} (hj : j < nt) (hc : nc ≤ cntB (pOut S) nt) (h0 : mI S 151 j = -1) (z : pOut (sI S 151 j x) j = true) : nc + 1 ≤ cntB (pOut (sI S 151 j x)) nt := by
  have hf : pOut S j = false := by
    cases e : pOut S j with
    | false => rfl
    | true => exact absurd h0 (pO1 e).2.2
  exact Nat.le_trans (Nat.succ_le_succ hc) (cntB_lt nt (fun k _ y => pOut_151 hf y) j hj hf z)
theorem sub_nn {a b : Int32} (h1 : ¬ b < 0) (h2 : ¬ a < b) : ¬ a - b < 0 := Int32.not_lt.mpr (Int32.sub_nonneg_of_le (Int32.not_lt.mp h1) (Int32.not_lt.mp h2))
theorem dX7_tire_0 : decode cX7_tire 0 = .ok (.iconst 0, 1) := by decide +kernel
theorem dX7_tire_1 : decode cX7_tire 1 = .ok (.istore_n 2, 1) := by decide +kernel
theorem dX7_tire_2 : decode cX7_tire 2 = .ok (.iload_n 2, 1) := by decide +kernel
theorem dX7_tire_3 : decode cX7_tire 3 = .ok (.aload_n 0, 1) := by decide +kernel
theorem dX7_tire_4 : decode cX7_tire 4 = .ok (.getfield 12, 3) := by decide +kernel
theorem dX7_tire_7 : decode cX7_tire 7 = .ok (.invokevirtual 35, 3) := by decide +kernel
theorem dX7_tire_10 : decode cX7_tire 10 = .ok (.if_icmp .ge 86, 3) := by decide +kernel
theorem dX7_tire_13 : decode cX7_tire 13 = .ok (.aload_n 0, 1) := by decide +kernel
theorem dX7_tire_14 : decode cX7_tire 14 = .ok (.getfield 12, 3) := by decide +kernel
theorem dX7_tire_17 : decode cX7_tire 17 = .ok (.iload_n 2, 1) := by decide +kernel
theorem dX7_tire_18 : decode cX7_tire 18 = .ok (.invokevirtual 43, 3) := by decide +kernel
theorem dX7_tire_21 : decode cX7_tire 21 = .ok (.checkcast 47, 3) := by decide +kernel
theorem dX7_tire_24 : decode cX7_tire 24 = .ok (.astore_n 3, 1) := by decide +kernel
theorem dX7_tire_25 : decode cX7_tire 25 = .ok (.aload_n 0, 1) := by decide +kernel
theorem dX7_tire_26 : decode cX7_tire 26 = .ok (.iload_n 1, 1) := by decide +kernel
theorem dX7_tire_27 : decode cX7_tire 27 = .ok (.aload_n 3, 1) := by decide +kernel
theorem dX7_tire_28 : decode cX7_tire 28 = .ok (.getfield 101, 3) := by decide +kernel
theorem dX7_tire_31 : decode cX7_tire 31 = .ok (.invokevirtual 102, 3) := by decide +kernel
theorem dX7_tire_34 : decode cX7_tire 34 = .ok (.iconst (-1), 1) := by decide +kernel
theorem dX7_tire_35 : decode cX7_tire 35 = .ok (.if_icmp .eq 7, 3) := by decide +kernel
theorem dX7_tire_38 : decode cX7_tire 38 = .ok (.iconst 1, 1) := by decide +kernel
theorem dX7_tire_39 : decode cX7_tire 39 = .ok (.goto 4, 3) := by decide +kernel
theorem dX7_tire_42 : decode cX7_tire 42 = .ok (.iconst 0, 1) := by decide +kernel
theorem dX7_tire_43 : decode cX7_tire 43 = .ok (.istore 4, 2) := by decide +kernel
theorem dX7_tire_45 : decode cX7_tire 45 = .ok (.aload_n 3, 1) := by decide +kernel
theorem dX7_tire_46 : decode cX7_tire 46 = .ok (.aload_n 3, 1) := by decide +kernel
theorem dX7_tire_47 : decode cX7_tire 47 = .ok (.getfield 77, 3) := by decide +kernel
theorem dX7_tire_50 : decode cX7_tire 50 = .ok (.iload 4, 2) := by decide +kernel
theorem dX7_tire_52 : decode cX7_tire 52 = .ok (.ifCond .eq 7, 3) := by decide +kernel
theorem dX7_tire_55 : decode cX7_tire 55 = .ok (.iconst 3, 1) := by decide +kernel
theorem dX7_tire_56 : decode cX7_tire 56 = .ok (.goto 5, 3) := by decide +kernel
theorem dX7_tire_59 : decode cX7_tire 59 = .ok (.bipush (-2), 2) := by decide +kernel
theorem dX7_tire_61 : decode cX7_tire 61 = .ok (.iadd, 1) := by decide +kernel
theorem dX7_tire_62 : decode cX7_tire 62 = .ok (.iconst 0, 1) := by decide +kernel
theorem dX7_tire_63 : decode cX7_tire 63 = .ok (.bipush 40, 2) := by decide +kernel
theorem dX7_tire_65 : decode cX7_tire 65 = .ok (.invokestatic 63, 3) := by decide +kernel
theorem dX7_tire_68 : decode cX7_tire 68 = .ok (.putfield 77, 3) := by decide +kernel
theorem dX7_tire_71 : decode cX7_tire 71 = .ok (.aload_n 3, 1) := by decide +kernel
theorem dX7_tire_72 : decode cX7_tire 72 = .ok (.dup, 1) := by decide +kernel
theorem dX7_tire_73 : decode cX7_tire 73 = .ok (.getfield 105, 3) := by decide +kernel
theorem dX7_tire_76 : decode cX7_tire 76 = .ok (.iload 4, 2) := by decide +kernel
theorem dX7_tire_78 : decode cX7_tire 78 = .ok (.ifCond .eq 7, 3) := by decide +kernel
theorem dX7_tire_81 : decode cX7_tire 81 = .ok (.iconst 1, 1) := by decide +kernel
theorem dX7_tire_82 : decode cX7_tire 82 = .ok (.goto 4, 3) := by decide +kernel
theorem dX7_tire_85 : decode cX7_tire 85 = .ok (.iconst 0, 1) := by decide +kernel
theorem dX7_tire_86 : decode cX7_tire 86 = .ok (.iadd, 1) := by decide +kernel
theorem dX7_tire_87 : decode cX7_tire 87 = .ok (.putfield 105, 3) := by decide +kernel
theorem dX7_tire_90 : decode cX7_tire 90 = .ok (.iinc 2 1, 3) := by decide +kernel
theorem dX7_tire_93 : decode cX7_tire 93 = .ok (.goto (-91), 3) := by decide +kernel
theorem dX7_tire_96 : decode cX7_tire 96 = .ok (.return_, 1) := by decide +kernel
theorem dX4_dropStale_0 : decode cX4_dropStale 0 = .ok (.iconst 0, 1) := by decide +kernel
theorem dX4_dropStale_1 : decode cX4_dropStale 1 = .ok (.istore_n 2, 1) := by decide +kernel
theorem dX4_dropStale_2 : decode cX4_dropStale 2 = .ok (.iload_n 2, 1) := by decide +kernel
theorem dX4_dropStale_3 : decode cX4_dropStale 3 = .ok (.aload_n 0, 1) := by decide +kernel
theorem dX4_dropStale_4 : decode cX4_dropStale 4 = .ok (.getfield 12, 3) := by decide +kernel
theorem dX4_dropStale_7 : decode cX4_dropStale 7 = .ok (.invokevirtual 28, 3) := by decide +kernel
theorem dX4_dropStale_10 : decode cX4_dropStale 10 = .ok (.if_icmp .ge 54, 3) := by decide +kernel
theorem dX4_dropStale_13 : decode cX4_dropStale 13 = .ok (.aload_n 0, 1) := by decide +kernel
theorem dX4_dropStale_14 : decode cX4_dropStale 14 = .ok (.getfield 12, 3) := by decide +kernel
theorem dX4_dropStale_17 : decode cX4_dropStale 17 = .ok (.iload_n 2, 1) := by decide +kernel
theorem dX4_dropStale_18 : decode cX4_dropStale 18 = .ok (.invokevirtual 36, 3) := by decide +kernel
theorem dX4_dropStale_21 : decode cX4_dropStale 21 = .ok (.checkcast 40, 3) := by decide +kernel
theorem dX4_dropStale_24 : decode cX4_dropStale 24 = .ok (.astore_n 3, 1) := by decide +kernel
theorem dX4_dropStale_25 : decode cX4_dropStale 25 = .ok (.aload_n 3, 1) := by decide +kernel
theorem dX4_dropStale_26 : decode cX4_dropStale 26 = .ok (.getfield 71, 3) := by decide +kernel
theorem dX4_dropStale_29 : decode cX4_dropStale 29 = .ok (.astore 4, 2) := by decide +kernel
theorem dX4_dropStale_31 : decode cX4_dropStale 31 = .ok (.aload 4, 2) := by decide +kernel
theorem dX4_dropStale_33 : decode cX4_dropStale 33 = .ok (.ifnull 25, 3) := by decide +kernel
theorem dX4_dropStale_36 : decode cX4_dropStale 36 = .ok (.aload 4, 2) := by decide +kernel
theorem dX4_dropStale_38 : decode cX4_dropStale 38 = .ok (.getfield 56, 3) := by decide +kernel
theorem dX4_dropStale_41 : decode cX4_dropStale 41 = .ok (.ifCond .ne 17, 3) := by decide +kernel
theorem dX4_dropStale_44 : decode cX4_dropStale 44 = .ok (.aload_n 3, 1) := by decide +kernel
theorem dX4_dropStale_45 : decode cX4_dropStale 45 = .ok (.iload_n 1, 1) := by decide +kernel
theorem dX4_dropStale_46 : decode cX4_dropStale 46 = .ok (.invokestatic 75, 3) := by decide +kernel
theorem dX4_dropStale_49 : decode cX4_dropStale 49 = .ok (.ifCond .eq 9, 3) := by decide +kernel
theorem dX4_dropStale_52 : decode cX4_dropStale 52 = .ok (.aload 4, 2) := by decide +kernel
theorem dX4_dropStale_54 : decode cX4_dropStale 54 = .ok (.iconst 2, 1) := by decide +kernel
theorem dX4_dropStale_55 : decode cX4_dropStale 55 = .ok (.putfield 56, 3) := by decide +kernel
theorem dX4_dropStale_58 : decode cX4_dropStale 58 = .ok (.iinc 2 1, 3) := by decide +kernel
theorem dX4_dropStale_61 : decode cX4_dropStale 61 = .ok (.goto (-59), 3) := by decide +kernel
theorem dX4_dropStale_64 : decode cX4_dropStale 64 = .ok (.return_, 1) := by decide +kernel
theorem dX4_awaitCorrection_0 : decode cX4_awaitCorrection 0 = .ok (.aload_n 1, 1) := by decide +kernel
theorem dX4_awaitCorrection_1 : decode cX4_awaitCorrection 1 = .ok (.getfield 71, 3) := by decide +kernel
theorem dX4_awaitCorrection_4 : decode cX4_awaitCorrection 4 = .ok (.astore_n 2, 1) := by decide +kernel
theorem dX4_awaitCorrection_5 : decode cX4_awaitCorrection 5 = .ok (.aload_n 2, 1) := by decide +kernel
theorem dX4_awaitCorrection_6 : decode cX4_awaitCorrection 6 = .ok (.ifnull 24, 3) := by decide +kernel
theorem dX4_awaitCorrection_9 : decode cX4_awaitCorrection 9 = .ok (.aload_n 1, 1) := by decide +kernel
theorem dX4_awaitCorrection_10 : decode cX4_awaitCorrection 10 = .ok (.invokevirtual 134, 3) := by decide +kernel
theorem dX4_awaitCorrection_13 : decode cX4_awaitCorrection 13 = .ok (.ifCond .eq 17, 3) := by decide +kernel
theorem dX4_awaitCorrection_16 : decode cX4_awaitCorrection 16 = .ok (.aload_n 2, 1) := by decide +kernel
theorem dX4_awaitCorrection_17 : decode cX4_awaitCorrection 17 = .ok (.iconst 1, 1) := by decide +kernel
theorem dX4_awaitCorrection_18 : decode cX4_awaitCorrection 18 = .ok (.putfield 131, 3) := by decide +kernel
theorem dX4_awaitCorrection_21 : decode cX4_awaitCorrection 21 = .ok (.aload_n 0, 1) := by decide +kernel
theorem dX4_awaitCorrection_22 : decode cX4_awaitCorrection 22 = .ok (.getfield 21, 3) := by decide +kernel
theorem dX4_awaitCorrection_25 : decode cX4_awaitCorrection 25 = .ok (.aload_n 1, 1) := by decide +kernel
theorem dX4_awaitCorrection_26 : decode cX4_awaitCorrection 26 = .ok (.invokevirtual 138, 3) := by decide +kernel
theorem dX4_awaitCorrection_29 : decode cX4_awaitCorrection 29 = .ok (.pop, 1) := by decide +kernel
theorem dX4_awaitCorrection_30 : decode cX4_awaitCorrection 30 = .ok (.return_, 1) := by decide +kernel
theorem dX4_markSent_0 : decode cX4_markSent 0 = .ok (.aload_n 0, 1) := by decide +kernel
theorem dX4_markSent_1 : decode cX4_markSent 1 = .ok (.dup, 1) := by decide +kernel
theorem dX4_markSent_2 : decode cX4_markSent 2 = .ok (.getfield 24, 3) := by decide +kernel
theorem dX4_markSent_5 : decode cX4_markSent 5 = .ok (.aload_n 2, 1) := by decide +kernel
theorem dX4_markSent_6 : decode cX4_markSent 6 = .ok (.getfield 96, 3) := by decide +kernel
theorem dX4_markSent_9 : decode cX4_markSent 9 = .ok (.isub, 1) := by decide +kernel
theorem dX4_markSent_10 : decode cX4_markSent 10 = .ok (.putfield 24, 3) := by decide +kernel
theorem dX4_markSent_13 : decode cX4_markSent 13 = .ok (.aload_n 2, 1) := by decide +kernel
theorem dX4_markSent_14 : decode cX4_markSent 14 = .ok (.iconst 1, 1) := by decide +kernel
theorem dX4_markSent_15 : decode cX4_markSent 15 = .ok (.putfield 56, 3) := by decide +kernel
theorem dX4_markSent_18 : decode cX4_markSent 18 = .ok (.aload_n 2, 1) := by decide +kernel
theorem dX4_markSent_19 : decode cX4_markSent 19 = .ok (.iload_n 3, 1) := by decide +kernel
theorem dX4_markSent_20 : decode cX4_markSent 20 = .ok (.putfield 103, 3) := by decide +kernel
theorem dX4_markSent_23 : decode cX4_markSent 23 = .ok (.aload_n 2, 1) := by decide +kernel
theorem dX4_markSent_24 : decode cX4_markSent 24 = .ok (.aload_n 0, 1) := by decide +kernel
theorem dX4_markSent_25 : decode cX4_markSent 25 = .ok (.getfield 106, 3) := by decide +kernel
theorem dX4_markSent_28 : decode cX4_markSent 28 = .ok (.putfield 109, 3) := by decide +kernel
theorem dX4_markSent_31 : decode cX4_markSent 31 = .ok (.aload_n 0, 1) := by decide +kernel
theorem dX4_markSent_32 : decode cX4_markSent 32 = .ok (.dup, 1) := by decide +kernel
theorem dX4_markSent_33 : decode cX4_markSent 33 = .ok (.getfield 106, 3) := by decide +kernel
theorem dX4_markSent_36 : decode cX4_markSent 36 = .ok (.iconst 1, 1) := by decide +kernel
theorem dX4_markSent_37 : decode cX4_markSent 37 = .ok (.iadd, 1) := by decide +kernel
theorem dX4_markSent_38 : decode cX4_markSent 38 = .ok (.putfield 106, 3) := by decide +kernel
theorem dX4_markSent_41 : decode cX4_markSent 41 = .ok (.iconst 0, 1) := by decide +kernel
theorem dX4_markSent_42 : decode cX4_markSent 42 = .ok (.istore 4, 2) := by decide +kernel
theorem dX4_markSent_44 : decode cX4_markSent 44 = .ok (.iload 4, 2) := by decide +kernel
theorem dX4_markSent_46 : decode cX4_markSent 46 = .ok (.aload_n 0, 1) := by decide +kernel
theorem dX4_markSent_47 : decode cX4_markSent 47 = .ok (.getfield 18, 3) := by decide +kernel
theorem dX4_markSent_50 : decode cX4_markSent 50 = .ok (.invokevirtual 28, 3) := by decide +kernel
theorem dX4_markSent_53 : decode cX4_markSent 53 = .ok (.if_icmp .ge 41, 3) := by decide +kernel
theorem dX4_markSent_56 : decode cX4_markSent 56 = .ok (.aload_n 1, 1) := by decide +kernel
theorem dX4_markSent_57 : decode cX4_markSent 57 = .ok (.aload_n 0, 1) := by decide +kernel
theorem dX4_markSent_58 : decode cX4_markSent 58 = .ok (.getfield 18, 3) := by decide +kernel
theorem dX4_markSent_61 : decode cX4_markSent 61 = .ok (.iload 4, 2) := by decide +kernel
theorem dX4_markSent_63 : decode cX4_markSent 63 = .ok (.invokevirtual 36, 3) := by decide +kernel
theorem dX4_markSent_66 : decode cX4_markSent 66 = .ok (.checkcast 42, 3) := by decide +kernel
theorem dX4_markSent_69 : decode cX4_markSent 69 = .ok (.invokevirtual 112, 3) := by decide +kernel
theorem dX4_markSent_72 : decode cX4_markSent 72 = .ok (.ifCond .eq 16, 3) := by decide +kernel
theorem dX4_markSent_75 : decode cX4_markSent 75 = .ok (.aload_n 2, 1) := by decide +kernel
theorem dX4_markSent_76 : decode cX4_markSent 76 = .ok (.dup, 1) := by decide +kernel
theorem dX4_markSent_77 : decode cX4_markSent 77 = .ok (.getfield 116, 3) := by decide +kernel
theorem dX4_markSent_80 : decode cX4_markSent 80 = .ok (.iconst 1, 1) := by decide +kernel
theorem dX4_markSent_81 : decode cX4_markSent 81 = .ok (.iload 4, 2) := by decide +kernel
theorem dX4_markSent_83 : decode cX4_markSent 83 = .ok (.ishl, 1) := by decide +kernel
theorem dX4_markSent_84 : decode cX4_markSent 84 = .ok (.ior, 1) := by decide +kernel
theorem dX4_markSent_85 : decode cX4_markSent 85 = .ok (.putfield 116, 3) := by decide +kernel
theorem dX4_markSent_88 : decode cX4_markSent 88 = .ok (.iinc 4 1, 3) := by decide +kernel
theorem dX4_markSent_91 : decode cX4_markSent 91 = .ok (.goto (-47), 3) := by decide +kernel
theorem dX4_markSent_94 : decode cX4_markSent 94 = .ok (.aload_n 0, 1) := by decide +kernel
theorem dX4_markSent_95 : decode cX4_markSent 95 = .ok (.aload_n 1, 1) := by decide +kernel
theorem dX4_markSent_96 : decode cX4_markSent 96 = .ok (.invokevirtual 118, 3) := by decide +kernel
theorem dX4_markSent_99 : decode cX4_markSent 99 = .ok (.return_, 1) := by decide +kernel
