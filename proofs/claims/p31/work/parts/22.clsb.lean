theorem dX7_qualityAt_0 : decode cX7_qualityAt 0 = .ok (.aload_n 0, 1) := by decide +kernel
theorem dX7_qualityAt_1 : decode cX7_qualityAt 1 = .ok (.aload_n 0, 1) := by decide +kernel
theorem dX7_qualityAt_2 : decode cX7_qualityAt 2 = .ok (.iload_n 1, 1) := by decide +kernel
theorem dX7_qualityAt_3 : decode cX7_qualityAt 3 = .ok (.iload_n 2, 1) := by decide +kernel
theorem dX7_qualityAt_4 : decode cX7_qualityAt 4 = .ok (.invokevirtual 53, 3) := by decide +kernel
theorem dX7_qualityAt_7 : decode cX7_qualityAt 7 = .ok (.invokevirtual 80, 3) := by decide +kernel
theorem dX7_qualityAt_10 : decode cX7_qualityAt 10 = .ok (.astore_n 3, 1) := by decide +kernel
theorem dX7_qualityAt_11 : decode cX7_qualityAt 11 = .ok (.aload_n 0, 1) := by decide +kernel
theorem dX7_qualityAt_12 : decode cX7_qualityAt 12 = .ok (.getfield 25, 3) := by decide +kernel
theorem dX7_qualityAt_15 : decode cX7_qualityAt 15 = .ok (.aload_n 0, 1) := by decide +kernel
theorem dX7_qualityAt_16 : decode cX7_qualityAt 16 = .ok (.iload_n 1, 1) := by decide +kernel
theorem dX7_qualityAt_17 : decode cX7_qualityAt 17 = .ok (.iload_n 2, 1) := by decide +kernel
theorem dX7_qualityAt_18 : decode cX7_qualityAt 18 = .ok (.invokevirtual 84, 3) := by decide +kernel
theorem dX7_qualityAt_21 : decode cX7_qualityAt 21 = .ok (.invokevirtual 87, 3) := by decide +kernel
theorem dX7_qualityAt_24 : decode cX7_qualityAt 24 = .ok (.astore 4, 2) := by decide +kernel
theorem dX7_qualityAt_26 : decode cX7_qualityAt 26 = .ok (.aload_n 3, 1) := by decide +kernel
theorem dX7_qualityAt_27 : decode cX7_qualityAt 27 = .ok (.ifnull 8, 3) := by decide +kernel
theorem dX7_qualityAt_30 : decode cX7_qualityAt 30 = .ok (.aload 4, 2) := by decide +kernel
theorem dX7_qualityAt_32 : decode cX7_qualityAt 32 = .ok (.ifnonnull 7, 3) := by decide +kernel
theorem dX7_qualityAt_35 : decode cX7_qualityAt 35 = .ok (.iconst 0, 1) := by decide +kernel
theorem dX7_qualityAt_36 : decode cX7_qualityAt 36 = .ok (.goto 11, 3) := by decide +kernel
theorem dX7_qualityAt_39 : decode cX7_qualityAt 39 = .ok (.aload_n 0, 1) := by decide +kernel
theorem dX7_qualityAt_40 : decode cX7_qualityAt 40 = .ok (.aload_n 3, 1) := by decide +kernel
theorem dX7_qualityAt_41 : decode cX7_qualityAt 41 = .ok (.aload 4, 2) := by decide +kernel
theorem dX7_qualityAt_43 : decode cX7_qualityAt 43 = .ok (.iload_n 1, 1) := by decide +kernel
theorem dX7_qualityAt_44 : decode cX7_qualityAt 44 = .ok (.invokevirtual 91, 3) := by decide +kernel
theorem dX7_qualityAt_47 : decode cX7_qualityAt 47 = .ok (.ireturn, 1) := by decide +kernel
theorem dX7_setThatHears_0 : decode cX7_setThatHears 0 = .ok (.iconst (-1), 1) := by decide +kernel
theorem dX7_setThatHears_1 : decode cX7_setThatHears 1 = .ok (.istore_n 3, 1) := by decide +kernel
theorem dX7_setThatHears_2 : decode cX7_setThatHears 2 = .ok (.iconst 0, 1) := by decide +kernel
theorem dX7_setThatHears_3 : decode cX7_setThatHears 3 = .ok (.istore 4, 2) := by decide +kernel
theorem dX7_setThatHears_5 : decode cX7_setThatHears 5 = .ok (.iconst 0, 1) := by decide +kernel
theorem dX7_setThatHears_6 : decode cX7_setThatHears 6 = .ok (.istore 5, 2) := by decide +kernel
theorem dX7_setThatHears_8 : decode cX7_setThatHears 8 = .ok (.iload 5, 2) := by decide +kernel
theorem dX7_setThatHears_10 : decode cX7_setThatHears 10 = .ok (.iconst 3, 1) := by decide +kernel
theorem dX7_setThatHears_11 : decode cX7_setThatHears 11 = .ok (.if_icmp .ge 50, 3) := by decide +kernel
theorem dX7_setThatHears_14 : decode cX7_setThatHears 14 = .ok (.aload_n 0, 1) := by decide +kernel
theorem dX7_setThatHears_15 : decode cX7_setThatHears 15 = .ok (.iload_n 2, 1) := by decide +kernel
theorem dX7_setThatHears_16 : decode cX7_setThatHears 16 = .ok (.iload 5, 2) := by decide +kernel
theorem dX7_setThatHears_18 : decode cX7_setThatHears 18 = .ok (.invokevirtual 84, 3) := by decide +kernel
theorem dX7_setThatHears_21 : decode cX7_setThatHears 21 = .ok (.aload_n 1, 1) := by decide +kernel
theorem dX7_setThatHears_22 : decode cX7_setThatHears 22 = .ok (.getfield 95, 3) := by decide +kernel
theorem dX7_setThatHears_25 : decode cX7_setThatHears 25 = .ok (.if_icmp .ne 13, 3) := by decide +kernel
theorem dX7_setThatHears_28 : decode cX7_setThatHears 28 = .ok (.aload_n 0, 1) := by decide +kernel
theorem dX7_setThatHears_29 : decode cX7_setThatHears 29 = .ok (.iload_n 2, 1) := by decide +kernel
theorem dX7_setThatHears_30 : decode cX7_setThatHears 30 = .ok (.iload 5, 2) := by decide +kernel
theorem dX7_setThatHears_32 : decode cX7_setThatHears 32 = .ok (.invokevirtual 98, 3) := by decide +kernel
theorem dX7_setThatHears_35 : decode cX7_setThatHears 35 = .ok (.goto 4, 3) := by decide +kernel
theorem dX7_setThatHears_38 : decode cX7_setThatHears 38 = .ok (.iconst 0, 1) := by decide +kernel
theorem dX7_setThatHears_39 : decode cX7_setThatHears 39 = .ok (.istore 6, 2) := by decide +kernel
theorem dX7_setThatHears_41 : decode cX7_setThatHears 41 = .ok (.iload 6, 2) := by decide +kernel
theorem dX7_setThatHears_43 : decode cX7_setThatHears 43 = .ok (.iload 4, 2) := by decide +kernel
theorem dX7_setThatHears_45 : decode cX7_setThatHears 45 = .ok (.if_icmp .le 10, 3) := by decide +kernel
theorem dX7_setThatHears_48 : decode cX7_setThatHears 48 = .ok (.iload 5, 2) := by decide +kernel
theorem dX7_setThatHears_50 : decode cX7_setThatHears 50 = .ok (.istore_n 3, 1) := by decide +kernel
theorem dX7_setThatHears_51 : decode cX7_setThatHears 51 = .ok (.iload 6, 2) := by decide +kernel
theorem dX7_setThatHears_53 : decode cX7_setThatHears 53 = .ok (.istore 4, 2) := by decide +kernel
theorem dX7_setThatHears_55 : decode cX7_setThatHears 55 = .ok (.iinc 5 1, 3) := by decide +kernel
theorem dX7_setThatHears_58 : decode cX7_setThatHears 58 = .ok (.goto (-50), 3) := by decide +kernel
theorem dX7_setThatHears_61 : decode cX7_setThatHears 61 = .ok (.iload_n 3, 1) := by decide +kernel
theorem dX7_setThatHears_62 : decode cX7_setThatHears 62 = .ok (.ireturn, 1) := by decide +kernel
/-- whether the monitor mo sits at one of the first n sets but b in the hour of the day a -/
def cElse (S : HS) (a b mo : Int32) : Nat → Bool
  | 0 => false
  | n + 1 => cElse S a b mo n || (decide (¬ nI n = b) && decide (cSlot S 1 a (nI n) = mo))
theorem cElse_f {S : HS} {a b mo : Int32} {k : Nat} (h : cElse S a b mo k = false) (n : ¬ (¬ nI k = b ∧ cSlot S 1 a (nI k) = mo)) : cElse S a b mo (k + 1) = false := by
  show (cElse S a b mo k || (decide (¬ nI k = b) && decide (cSlot S 1 a (nI k) = mo))) = false
  rw [h, Bool.false_or]
  cases e : (decide (¬ nI k = b) && decide (cSlot S 1 a (nI k) = mo)) with
  | false => rfl
  | true =>
    rw [Bool.and_eq_true] at e
    exact absurd ⟨of_decide_eq_true e.1, of_decide_eq_true e.2⟩ n
theorem cElse_m {S : HS} {a b mo : Int32} {k : Nat} (h : cElse S a b mo k = true) : ∀ d : Nat, cElse S a b mo (k + d) = true
  | 0 => h
  | d + 1 => by
    show (cElse S a b mo (k + d) || _) = true
    rw [cElse_m h d]; rfl
theorem cElse_t {S : HS} {a b mo : Int32} {k n : Nat} (hk : k < n) (h1 : ¬ nI k = b) (h2 : cSlot S 1 a (nI k) = mo) : cElse S a b mo n = true := by
  have e : cElse S a b mo (k + 1) = true := by
    show (cElse S a b mo k || (decide (¬ nI k = b) && decide (cSlot S 1 a (nI k) = mo))) = true
    rw [decide_eq_true h1, decide_eq_true h2]
    cases cElse S a b mo k <;> rfl
  have z := cElse_m e (n - (k + 1))
  rw [show k + 1 + (n - (k + 1)) = n by omega] at z
  exact z
/-- whether one of the first n talks is of the station i (by the numbers st of their stations) in the hour a -/
def cHas (S : HS) (st : Nat → Nat) (i : Nat) (a : Int32) : Nat → Bool
  | 0 => false
  | n + 1 => cHas S st i a n || (decide (st n = i) && decide (mI S 146 n = a))
theorem cHas_f {S : HS} {st : Nat → Nat} {i k : Nat} {a : Int32} (h : cHas S st i a k = false) (n : ¬ (st k = i ∧ mI S 146 k = a)) : cHas S st i a (k + 1) = false := by
  show (cHas S st i a k || (decide (st k = i) && decide (mI S 146 k = a))) = false
  rw [h, Bool.false_or]
  cases e : (decide (st k = i) && decide (mI S 146 k = a)) with
  | false => rfl
  | true =>
    rw [Bool.and_eq_true] at e
    exact absurd ⟨of_decide_eq_true e.1, of_decide_eq_true e.2⟩ n
theorem cHas_m {S : HS} {st : Nat → Nat} {i k : Nat} {a : Int32} (h : cHas S st i a k = true) : ∀ d : Nat, cHas S st i a (k + d) = true
  | 0 => h
  | d + 1 => by
    show (cHas S st i a (k + d) || _) = true
    rw [cHas_m h d]; rfl
theorem cHas_t {S : HS} {st : Nat → Nat} {i k n : Nat} {a : Int32} (hk : k < n) (h1 : st k = i) (h2 : mI S 146 k = a) : cHas S st i a n = true := by
  have e : cHas S st i a (k + 1) = true := by
    show (cHas S st i a k || (decide (st k = i) && decide (mI S 146 k = a))) = true
    rw [decide_eq_true h1, decide_eq_true h2]
    cases cHas S st i a k <;> rfl
  have z := cHas_m e (n - (k + 1))
  rw [show k + 1 + (n - (k + 1)) = n by omega] at z
  exact z
/-- the talks' stations by their numbers -/
def StN (S : HS) (ns nt : Nat) (st : Nat → Nat) : Prop := ∀ j, j < nt → st j < ns ∧ mR S 145 j = some (gG S 8 (st j))

theorem dX7_sitsElsewhere_0 : decode cX7_sitsElsewhere 0 = .ok (.iconst 0, 1) := by decide +kernel
theorem dX7_sitsElsewhere_1 : decode cX7_sitsElsewhere 1 = .ok (.istore 4, 2) := by decide +kernel
theorem dX7_sitsElsewhere_3 : decode cX7_sitsElsewhere 3 = .ok (.iload 4, 2) := by decide +kernel
theorem dX7_sitsElsewhere_5 : decode cX7_sitsElsewhere 5 = .ok (.iconst 3, 1) := by decide +kernel
theorem dX7_sitsElsewhere_6 : decode cX7_sitsElsewhere 6 = .ok (.if_icmp .ge 28, 3) := by decide +kernel
theorem dX7_sitsElsewhere_9 : decode cX7_sitsElsewhere 9 = .ok (.iload 4, 2) := by decide +kernel
theorem dX7_sitsElsewhere_11 : decode cX7_sitsElsewhere 11 = .ok (.iload_n 2, 1) := by decide +kernel
theorem dX7_sitsElsewhere_12 : decode cX7_sitsElsewhere 12 = .ok (.if_icmp .eq 16, 3) := by decide +kernel
theorem dX7_sitsElsewhere_15 : decode cX7_sitsElsewhere 15 = .ok (.aload_n 0, 1) := by decide +kernel
theorem dX7_sitsElsewhere_16 : decode cX7_sitsElsewhere 16 = .ok (.iload_n 1, 1) := by decide +kernel
theorem dX7_sitsElsewhere_17 : decode cX7_sitsElsewhere 17 = .ok (.iload 4, 2) := by decide +kernel
theorem dX7_sitsElsewhere_19 : decode cX7_sitsElsewhere 19 = .ok (.invokevirtual 53, 3) := by decide +kernel
theorem dX7_sitsElsewhere_22 : decode cX7_sitsElsewhere 22 = .ok (.iload_n 3, 1) := by decide +kernel
theorem dX7_sitsElsewhere_23 : decode cX7_sitsElsewhere 23 = .ok (.if_icmp .ne 5, 3) := by decide +kernel
theorem dX7_sitsElsewhere_26 : decode cX7_sitsElsewhere 26 = .ok (.iconst 1, 1) := by decide +kernel
theorem dX7_sitsElsewhere_27 : decode cX7_sitsElsewhere 27 = .ok (.ireturn, 1) := by decide +kernel
theorem dX7_sitsElsewhere_28 : decode cX7_sitsElsewhere 28 = .ok (.iinc 4 1, 3) := by decide +kernel
theorem dX7_sitsElsewhere_31 : decode cX7_sitsElsewhere 31 = .ok (.goto (-28), 3) := by decide +kernel
theorem dX7_sitsElsewhere_34 : decode cX7_sitsElsewhere 34 = .ok (.iconst 0, 1) := by decide +kernel
theorem dX7_sitsElsewhere_35 : decode cX7_sitsElsewhere 35 = .ok (.ireturn, 1) := by decide +kernel
abbrev rm_m_X7_sitsElsewhere : Room := { frames := 3, cells := 0, slots := 0, locals := 65 }
set_option maxHeartbeats 4000000 in
set_option maxRecDepth 100000 in
theorem m_X7_sitsElsewhere {s0 : State} {l : Launch} {D : va_G} {cy : Nat → ClassId} (G : Gl s0 l D cy) (S : HS) (ea ns nj nm nt nr nc : Nat) (h : CI ea S ns nj nm nt nr nc) (a b mo : Int32) : Ctr s0 l D cy yX7_sitsElsewhere cX7_sitsElsewhere 5 (some .boolean) rm_m_X7_sitsElsewhere S [.ref (gG S 7 0), .int a, .int b, .int mo] (PU S (some (.int (b2i (cElse S a b mo 3))))) := by
  refine pro "CavershamShift$Room" G rfl rfl (Nat.le_of_ble_eq_true rfl) (fun p e s m below meth c ls X w hnm hl => ?_)
  have hx := X.1
  have hb := X.2.1
  have hown := X.2.2.2.1
  have hts := X.2.2.2.2.1
  have hl : lv_has ls 5 [(0, .ref (gG S 7 0)), (1, .int a), (2, .int b), (3, .int mo)] := hl
  refine lv_iconst (v := 0) hx hb dX7_sitsElsewhere_0 (by decide) ?_
  refine lv_istore (lv' := [(4, .int 0), (0, .ref (gG S 7 0)), (1, .int a), (2, .int b), (3, .int mo)]) hx hb dX7_sitsElsewhere_1 hl (by decide) rfl (fun ls hl => ?_)
  have L3 : ∀ (N : Nat) (k : Nat) (H : Heap) (locs : List Loc) (ls : Array Slot), 3 - k < N → (k ≤ 3) → (cElse S a b mo k = false) → Wd s0 D cy S s.heap H locs → lv_has ls 5 [(0, .ref (gG S 7 0)), (1, .int a), (2, .int b), (3, .int mo), (4, .int (nI k))] → W p l e rm_m_X7_sitsElsewhere s m ([.ref (gG S 7 0), .int a, .int b, .int mo] : List Value).toArray below meth c H locs 0 0 (MQ below (GQ s0 D cy (PU S (some (.int (b2i (cElse S a b mo 3)))))) ([.ref (gG S 7 0), .int a, .int b, .int mo] : List Value).toArray s rm_m_X7_sitsElsewhere.cells rm_m_X7_sitsElsewhere.slots (A0 s0)) (F0 m 3 ls []) := by
    intro N
    induction N with
    | zero => intros; omega
    | succ N ih3 =>
      intro k H locs ls hmu hk hno w hl
      refine lv_iload hx hb dX7_sitsElsewhere_3 (lv_at hl 4 rfl) ?_
      refine lv_iconst (v := 3) hx hb dX7_sitsElsewhere_5 (by decide) ?_
      refine lv_icmp_ge (tgt := 34) hx hb dX7_sitsElsewhere_6 (by decide) (fun hc6 => ?_) (fun hc6 => ?_)
      · have hge : 3 ≤ k := (nI_leI (a := 3) (by decide) (by omega)).mp hc6
        refine lv_iconst (v := 0) hx hb dX7_sitsElsewhere_34 (by decide) ?_
        exact rZ X w rfl dX7_sitsElsewhere_35 (by decide) (by decide) (by decide) (pu_i (by rw [show k = 3 by omega] at hno; simp [hno, b2i]))
      · have hlt : k < 3 := Nat.lt_of_not_le (fun z => hc6 ((nI_leI (a := 3) (by decide) (by omega)).mpr z))
        refine lv_iload hx hb dX7_sitsElsewhere_9 (lv_at hl 4 rfl) ?_
        refine lv_iload_n hx hb dX7_sitsElsewhere_11 rfl (lv_at hl 2 rfl) ?_
        refine lv_icmp_eq (tgt := 28) hx hb dX7_sitsElsewhere_12 (by decide) (fun hkb => ?_) (fun hkb => ?_)
        · have hs : cElse S a b mo (k + 1) = false := cElse_f hno (fun z => z.1 hkb)
          refine lv_iinc (v := nI (k + 1)) (lv' := [(4, .int (nI (k + 1))), (0, .ref (gG S 7 0)), (1, .int a), (2, .int b), (3, .int mo)]) hx hb dX7_sitsElsewhere_28 hl (k := 4) rfl (nI_1 _) (by decide) rfl (fun ls hl => ?_)
          refine lv_goto (tgt := 3) hx hb dX7_sitsElsewhere_31 (by decide) ?_
          exact ih3 (k + 1) _ _ _ (by omega) (by omega) (hs) w (lv_sub hl [1, 2, 3, 4, 0] rfl)
        · refine lv_aload_n hx hb dX7_sitsElsewhere_15 rfl (lv_at hl 0 rfl) ?_
          refine lv_iload_n hx hb dX7_sitsElsewhere_16 rfl (lv_at hl 1 rfl) ?_
          refine lv_iload hx hb dX7_sitsElsewhere_17 (lv_at hl 4 rfl) ?_
          refine cV (S := S) (nA := 2) (As := [.int a, .int (nI k)]) (rest := []) X w hl h.v7 (m_X7_monitorIn G S ea ns nj nm nt nr nc h a (nI k)) wY_X7_monitorIn wM_X7_53 wIn_X7_monitorIn wSe_X7_X7_monitorIn wI_X7 (by decide) rfl (by decide +kernel) rfl rfl dX7_sitsElsewhere_19 ⟨by decide, by decide⟩ (Nat.le_of_ble_eq_true rfl) (⟨Nat.le_of_ble_eq_true rfl, Nat.le_of_ble_eq_true rfl⟩) (fun v1 S1 H locs hp w => ?_)
          obtain ⟨rfl, rfl⟩ := hp
          refine lv_iload_n hx hb dX7_sitsElsewhere_22 rfl (lv_at hl 3 rfl) ?_
          refine lv_icmp_ne (tgt := 28) hx hb dX7_sitsElsewhere_23 (by decide) (fun hmo => ?_) (fun hmo => ?_)
          · have hs : cElse S a b mo (k + 1) = false := cElse_f hno (fun z => hmo z.2)
            refine lv_iinc (v := nI (k + 1)) (lv' := [(4, .int (nI (k + 1))), (0, .ref (gG S 7 0)), (1, .int a), (2, .int b), (3, .int mo)]) hx hb dX7_sitsElsewhere_28 hl (k := 4) rfl (nI_1 _) (by decide) rfl (fun ls hl => ?_)
            refine lv_goto (tgt := 3) hx hb dX7_sitsElsewhere_31 (by decide) ?_
            exact ih3 (k + 1) _ _ _ (by omega) (by omega) (hs) w (lv_sub hl [1, 2, 3, 4, 0] rfl)
          · refine lv_iconst (v := 1) hx hb dX7_sitsElsewhere_26 (by decide) ?_
            exact rZ X w rfl dX7_sitsElsewhere_27 (by decide) (by decide) (by decide) (pu_i (by simp [cElse_t hlt hkb hmo, b2i]))
  exact L3 _ 0 _ _ _ (Nat.lt_succ_self _) (by omega) (rfl) w (lv_sub hl [1, 2, 3, 4, 0] rfl)

theorem dX7_setOf_0 : decode cX7_setOf 0 = .ok (.iconst 0, 1) := by decide +kernel
theorem dX7_setOf_1 : decode cX7_setOf 1 = .ok (.istore_n 3, 1) := by decide +kernel
theorem dX7_setOf_2 : decode cX7_setOf 2 = .ok (.iload_n 3, 1) := by decide +kernel
theorem dX7_setOf_3 : decode cX7_setOf 3 = .ok (.iconst 3, 1) := by decide +kernel
theorem dX7_setOf_4 : decode cX7_setOf 4 = .ok (.if_icmp .ge 21, 3) := by decide +kernel
theorem dX7_setOf_7 : decode cX7_setOf 7 = .ok (.aload_n 0, 1) := by decide +kernel
theorem dX7_setOf_8 : decode cX7_setOf 8 = .ok (.iload_n 1, 1) := by decide +kernel
theorem dX7_setOf_9 : decode cX7_setOf 9 = .ok (.iload_n 3, 1) := by decide +kernel
theorem dX7_setOf_10 : decode cX7_setOf 10 = .ok (.invokevirtual 53, 3) := by decide +kernel
theorem dX7_setOf_13 : decode cX7_setOf 13 = .ok (.iload_n 2, 1) := by decide +kernel
theorem dX7_setOf_14 : decode cX7_setOf 14 = .ok (.if_icmp .ne 5, 3) := by decide +kernel
theorem dX7_setOf_17 : decode cX7_setOf 17 = .ok (.iload_n 3, 1) := by decide +kernel
theorem dX7_setOf_18 : decode cX7_setOf 18 = .ok (.ireturn, 1) := by decide +kernel
theorem dX7_setOf_19 : decode cX7_setOf 19 = .ok (.iinc 3 1, 3) := by decide +kernel
theorem dX7_setOf_22 : decode cX7_setOf 22 = .ok (.goto (-20), 3) := by decide +kernel
theorem dX7_setOf_25 : decode cX7_setOf 25 = .ok (.iconst (-1), 1) := by decide +kernel
theorem dX7_setOf_26 : decode cX7_setOf 26 = .ok (.ireturn, 1) := by decide +kernel
abbrev rm_m_X7_setOf : Room := { frames := 3, cells := 0, slots := 0, locals := 65 }
set_option maxHeartbeats 4000000 in
set_option maxRecDepth 100000 in
theorem m_X7_setOf {s0 : State} {l : Launch} {D : va_G} {cy : Nat → ClassId} (G : Gl s0 l D cy) (S : HS) (ea ns nj nm nt nr nc : Nat) (h : CI ea S ns nj nm nt nr nc) (a mo : Int32) : Ctr s0 l D cy yX7_setOf cX7_setOf 4 (some .int) rm_m_X7_setOf S [.ref (gG S 7 0), .int a, .int mo] (PXi S) := by
  refine pro "CavershamShift$Room" G rfl rfl (Nat.le_of_ble_eq_true rfl) (fun p e s m below meth c ls X w hnm hl => ?_)
  have hx := X.1
  have hb := X.2.1
  have hown := X.2.2.2.1
  have hts := X.2.2.2.2.1
  have hl : lv_has ls 4 [(0, .ref (gG S 7 0)), (1, .int a), (2, .int mo)] := hl
  refine lv_iconst (v := 0) hx hb dX7_setOf_0 (by decide) ?_
  refine lv_istore_n (lv' := [(3, .int 0), (0, .ref (gG S 7 0)), (1, .int a), (2, .int mo)]) hx hb dX7_setOf_1 rfl hl (by decide) rfl (fun ls hl => ?_)
  have L2 : ∀ (N : Nat) (k2 : Nat) (H : Heap) (locs : List Loc) (ls : Array Slot), 3 - k2 < N → (k2 ≤ 3) → Wd s0 D cy S s.heap H locs → lv_has ls 4 [(3, .int (nI k2)), (0, .ref (gG S 7 0)), (1, .int a), (2, .int mo)] → W p l e rm_m_X7_setOf s m ([.ref (gG S 7 0), .int a, .int mo] : List Value).toArray below meth c H locs 0 0 (MQ below (GQ s0 D cy (PXi S)) ([.ref (gG S 7 0), .int a, .int mo] : List Value).toArray s rm_m_X7_setOf.cells rm_m_X7_setOf.slots (A0 s0)) (F0 m 2 ls []) := by
    intro N
    induction N with
    | zero => intros; omega
    | succ N ih2 =>
      intro k2 H locs ls hmu hk_k2 w hl
      refine lv_iload_n hx hb dX7_setOf_2 rfl (lv_at hl 0 rfl) ?_
      refine lv_iconst (v := 3) hx hb dX7_setOf_3 (by decide) ?_
      refine lv_icmp_ge (tgt := 25) hx hb dX7_setOf_4 (by decide) (fun hc_k2 => ?_) (fun hc_k2 => ?_)
      · have hge_k2 : 3 ≤ k2 := by
          skip
          exact (nI_leI (a := 3) (b := k2) (by omega) (by omega)).mp hc_k2
        refine lv_iconst (v := (-1)) hx hb dX7_setOf_25 (by decide) ?_
        exact rI X w rfl dX7_setOf_26 (by decide) (by decide) (px_i)
      · have hlt_k2 : k2 < 3 := by
          skip
          exact Nat.lt_of_not_le (fun z => hc_k2 ((nI_leI (a := 3) (b := k2) (by omega) (by omega)).mpr z))
        refine lv_aload_n hx hb dX7_setOf_7 rfl (lv_at hl 1 rfl) ?_
        refine lv_iload_n hx hb dX7_setOf_8 rfl (lv_at hl 2 rfl) ?_
        refine lv_iload_n hx hb dX7_setOf_9 rfl (lv_at hl 0 rfl) ?_
        refine cV (S := S) (nA := 2) (As := [.int a, .int (nI k2)]) (rest := []) X w hl h.v7 (m_X7_monitorIn G S ea ns nj nm nt nr nc h a (nI k2)) wY_X7_monitorIn wM_X7_53 wIn_X7_monitorIn wSe_X7_X7_monitorIn wI_X7 (by decide) rfl (by decide +kernel) rfl rfl dX7_setOf_10 ⟨by decide, by decide⟩ (Nat.le_of_ble_eq_true rfl) (⟨Nat.le_of_ble_eq_true rfl, Nat.le_of_ble_eq_true rfl⟩) (fun v1 S1 H locs hp w => ?_)
        obtain ⟨rfl, rfl⟩ := hp
        refine lv_iload_n hx hb dX7_setOf_13 rfl (lv_at hl 3 rfl) ?_
        refine lv_icmp_ne (tgt := 19) hx hb dX7_setOf_14 (by decide) (fun hc2 => ?_) (fun hc2 => ?_)
        · refine lv_iinc (v := nI (k2 + 1)) (lv' := [(3, .int (nI (k2 + 1))), (0, .ref (gG S 7 0)), (1, .int a), (2, .int mo)]) hx hb dX7_setOf_19 hl (k := 0) rfl (nI_1 _) (by decide) rfl (fun ls hl => ?_)
          refine lv_goto (tgt := 2) hx hb dX7_setOf_22 (by decide) ?_
          exact ih2 (k2 + 1) _ _ _ (by omega) (hlt_k2) w (lv_sub hl [0, 1, 2, 3] rfl)
        · refine lv_iload_n hx hb dX7_setOf_17 rfl (lv_at hl 0 rfl) ?_
          exact rI X w rfl dX7_setOf_18 (by decide) (by decide) (px_i)
  exact L2 _ 0 _ _ _ (Nat.lt_succ_self _) (Nat.zero_le _) w (lv_sub hl [0, 1, 2, 3] rfl)

theorem dX7_isShiftSound_0 : decode cX7_isShiftSound 0 = .ok (.iconst 0, 1) := by decide +kernel
theorem dX7_isShiftSound_1 : decode cX7_isShiftSound 1 = .ok (.istore_n 1, 1) := by decide +kernel
theorem dX7_isShiftSound_2 : decode cX7_isShiftSound 2 = .ok (.iload_n 1, 1) := by decide +kernel
theorem dX7_isShiftSound_3 : decode cX7_isShiftSound 3 = .ok (.bipush 24, 2) := by decide +kernel
theorem dX7_isShiftSound_5 : decode cX7_isShiftSound 5 = .ok (.if_icmp .ge 46, 3) := by decide +kernel
theorem dX7_isShiftSound_8 : decode cX7_isShiftSound 8 = .ok (.iconst 0, 1) := by decide +kernel
theorem dX7_isShiftSound_9 : decode cX7_isShiftSound 9 = .ok (.istore_n 2, 1) := by decide +kernel
theorem dX7_isShiftSound_10 : decode cX7_isShiftSound 10 = .ok (.iload_n 2, 1) := by decide +kernel
theorem dX7_isShiftSound_11 : decode cX7_isShiftSound 11 = .ok (.iconst 3, 1) := by decide +kernel
theorem dX7_isShiftSound_12 : decode cX7_isShiftSound 12 = .ok (.if_icmp .ge 33, 3) := by decide +kernel
theorem dX7_isShiftSound_15 : decode cX7_isShiftSound 15 = .ok (.aload_n 0, 1) := by decide +kernel
theorem dX7_isShiftSound_16 : decode cX7_isShiftSound 16 = .ok (.iload_n 1, 1) := by decide +kernel
theorem dX7_isShiftSound_17 : decode cX7_isShiftSound 17 = .ok (.iload_n 2, 1) := by decide +kernel
theorem dX7_isShiftSound_18 : decode cX7_isShiftSound 18 = .ok (.invokevirtual 53, 3) := by decide +kernel
theorem dX7_isShiftSound_21 : decode cX7_isShiftSound 21 = .ok (.istore_n 3, 1) := by decide +kernel
theorem dX7_isShiftSound_22 : decode cX7_isShiftSound 22 = .ok (.iload_n 3, 1) := by decide +kernel
theorem dX7_isShiftSound_23 : decode cX7_isShiftSound 23 = .ok (.iconst (-1), 1) := by decide +kernel
theorem dX7_isShiftSound_24 : decode cX7_isShiftSound 24 = .ok (.if_icmp .eq 15, 3) := by decide +kernel
theorem dX7_isShiftSound_27 : decode cX7_isShiftSound 27 = .ok (.aload_n 0, 1) := by decide +kernel
theorem dX7_isShiftSound_28 : decode cX7_isShiftSound 28 = .ok (.iload_n 1, 1) := by decide +kernel
theorem dX7_isShiftSound_29 : decode cX7_isShiftSound 29 = .ok (.iload_n 2, 1) := by decide +kernel
theorem dX7_isShiftSound_30 : decode cX7_isShiftSound 30 = .ok (.iload_n 3, 1) := by decide +kernel
theorem dX7_isShiftSound_31 : decode cX7_isShiftSound 31 = .ok (.invokevirtual 108, 3) := by decide +kernel
theorem dX7_isShiftSound_34 : decode cX7_isShiftSound 34 = .ok (.ifCond .eq 5, 3) := by decide +kernel
theorem dX7_isShiftSound_37 : decode cX7_isShiftSound 37 = .ok (.iconst 0, 1) := by decide +kernel
theorem dX7_isShiftSound_38 : decode cX7_isShiftSound 38 = .ok (.ireturn, 1) := by decide +kernel
theorem dX7_isShiftSound_39 : decode cX7_isShiftSound 39 = .ok (.iinc 2 1, 3) := by decide +kernel
theorem dX7_isShiftSound_42 : decode cX7_isShiftSound 42 = .ok (.goto (-32), 3) := by decide +kernel
theorem dX7_isShiftSound_45 : decode cX7_isShiftSound 45 = .ok (.iinc 1 1, 3) := by decide +kernel
theorem dX7_isShiftSound_48 : decode cX7_isShiftSound 48 = .ok (.goto (-46), 3) := by decide +kernel
theorem dX7_isShiftSound_51 : decode cX7_isShiftSound 51 = .ok (.iconst 1, 1) := by decide +kernel
theorem dX7_isShiftSound_52 : decode cX7_isShiftSound 52 = .ok (.ireturn, 1) := by decide +kernel
abbrev rm_m_X7_isShiftSound : Room := { frames := 4, cells := 0, slots := 0, locals := 89 }
set_option maxHeartbeats 4000000 in
set_option maxRecDepth 100000 in
theorem m_X7_isShiftSound {s0 : State} {l : Launch} {D : va_G} {cy : Nat → ClassId} (G : Gl s0 l D cy) (S : HS) (ea ns nj nm nt nr nc : Nat) (h : CI ea S ns nj nm nt nr nc)  : Ctr s0 l D cy yX7_isShiftSound cX7_isShiftSound 4 (some .boolean) rm_m_X7_isShiftSound S [.ref (gG S 7 0)] (PXz S) := by
  refine pro "CavershamShift$Room" G rfl rfl (Nat.le_of_ble_eq_true rfl) (fun p e s m below meth c ls X w hnm hl => ?_)
  have hx := X.1
  have hb := X.2.1
  have hown := X.2.2.2.1
  have hts := X.2.2.2.2.1
  have hl : lv_has ls 4 [(0, .ref (gG S 7 0))] := hl
  refine lv_iconst (v := 0) hx hb dX7_isShiftSound_0 (by decide) ?_
  refine lv_istore_n (lv' := [(1, .int 0), (0, .ref (gG S 7 0))]) hx hb dX7_isShiftSound_1 rfl hl (by decide) rfl (fun ls hl => ?_)
  have L2 : ∀ (N : Nat) (k2 : Nat) (H : Heap) (locs : List Loc) (ls : Array Slot), 24 - k2 < N → (k2 ≤ 24) → Wd s0 D cy S s.heap H locs → lv_has ls 4 [(1, .int (nI k2)), (0, .ref (gG S 7 0))] → W p l e rm_m_X7_isShiftSound s m ([.ref (gG S 7 0)] : List Value).toArray below meth c H locs 0 0 (MQ below (GQ s0 D cy (PXz S)) ([.ref (gG S 7 0)] : List Value).toArray s rm_m_X7_isShiftSound.cells rm_m_X7_isShiftSound.slots (A0 s0)) (F0 m 2 ls []) := by
    intro N
    induction N with
    | zero => intros; omega
    | succ N ih2 =>
      intro k2 H locs ls hmu hk_k2 w hl
      refine lv_iload_n hx hb dX7_isShiftSound_2 rfl (lv_at hl 0 rfl) ?_
      refine lv_bipush (v := 24) hx hb dX7_isShiftSound_3 (by decide) ?_
      refine lv_icmp_ge (tgt := 51) hx hb dX7_isShiftSound_5 (by decide) (fun hc_k2 => ?_) (fun hc_k2 => ?_)
      · have hge_k2 : 24 ≤ k2 := by
          skip
          exact (nI_leI (a := 24) (b := k2) (by omega) (by omega)).mp hc_k2
        refine lv_iconst (v := 1) hx hb dX7_isShiftSound_51 (by decide) ?_
        exact rZ X w rfl dX7_isShiftSound_52 (by decide) (by decide) (by decide) (px_z01 (by first | exact Or.inl rfl | exact Or.inr rfl | exact b2i_01 _))
      · have hlt_k2 : k2 < 24 := by
          skip
          exact Nat.lt_of_not_le (fun z => hc_k2 ((nI_leI (a := 24) (b := k2) (by omega) (by omega)).mpr z))
        refine lv_iconst (v := 0) hx hb dX7_isShiftSound_8 (by decide) ?_
        refine lv_istore_n (lv' := [(2, .int 0), (1, .int (nI k2)), (0, .ref (gG S 7 0))]) hx hb dX7_isShiftSound_9 rfl hl (by decide) rfl (fun ls hl => ?_)
        have L10 : ∀ (N : Nat) (k10 : Nat) (H : Heap) (locs : List Loc) (ls : Array Slot), 3 - k10 < N → (k10 ≤ 3) → Wd s0 D cy S s.heap H locs → lv_has ls 4 [(2, .int (nI k10)), (1, .int (nI k2)), (0, .ref (gG S 7 0))] → W p l e rm_m_X7_isShiftSound s m ([.ref (gG S 7 0)] : List Value).toArray below meth c H locs 0 0 (MQ below (GQ s0 D cy (PXz S)) ([.ref (gG S 7 0)] : List Value).toArray s rm_m_X7_isShiftSound.cells rm_m_X7_isShiftSound.slots (A0 s0)) (F0 m 10 ls []) := by
          intro N
          induction N with
          | zero => intros; omega
          | succ N ih10 =>
            intro k10 H locs ls hmu hk_k10 w hl
            refine lv_iload_n hx hb dX7_isShiftSound_10 rfl (lv_at hl 0 rfl) ?_
            refine lv_iconst (v := 3) hx hb dX7_isShiftSound_11 (by decide) ?_
            refine lv_icmp_ge (tgt := 45) hx hb dX7_isShiftSound_12 (by decide) (fun hc_k10 => ?_) (fun hc_k10 => ?_)
            · have hge_k10 : 3 ≤ k10 := by
                skip
                exact (nI_leI (a := 3) (b := k10) (by omega) (by omega)).mp hc_k10
              refine lv_iinc (v := nI (k2 + 1)) (lv' := [(1, .int (nI (k2 + 1))), (2, .int (nI k10)), (0, .ref (gG S 7 0))]) hx hb dX7_isShiftSound_45 hl (k := 1) rfl (nI_1 _) (by decide) rfl (fun ls hl => ?_)
              refine lv_goto (tgt := 2) hx hb dX7_isShiftSound_48 (by decide) ?_
              exact ih2 (k2 + 1) _ _ _ (by omega) (hlt_k2) w (lv_sub hl [0, 2] rfl)
            · have hlt_k10 : k10 < 3 := by
                skip
                exact Nat.lt_of_not_le (fun z => hc_k10 ((nI_leI (a := 3) (b := k10) (by omega) (by omega)).mpr z))
              refine lv_aload_n hx hb dX7_isShiftSound_15 rfl (lv_at hl 2 rfl) ?_
              refine lv_iload_n hx hb dX7_isShiftSound_16 rfl (lv_at hl 1 rfl) ?_
              refine lv_iload_n hx hb dX7_isShiftSound_17 rfl (lv_at hl 0 rfl) ?_
              refine cV (S := S) (nA := 2) (As := [.int (nI k2), .int (nI k10)]) (rest := []) X w hl h.v7 (m_X7_monitorIn G S ea ns nj nm nt nr nc h (nI k2) (nI k10)) wY_X7_monitorIn wM_X7_53 wIn_X7_monitorIn wSe_X7_X7_monitorIn wI_X7 (by decide) rfl (by decide +kernel) rfl rfl dX7_isShiftSound_18 ⟨by decide, by decide⟩ (Nat.le_of_ble_eq_true rfl) (⟨Nat.le_of_ble_eq_true rfl, Nat.le_of_ble_eq_true rfl⟩) (fun v1 S1 H locs hp w => ?_)
              obtain ⟨rfl, rfl⟩ := hp
              refine lv_istore_n (lv' := [(3, .int (cSlot S 1 (nI k2) (nI k10))), (2, .int (nI k10)), (1, .int (nI k2)), (0, .ref (gG S 7 0))]) hx hb dX7_isShiftSound_21 rfl hl (by decide) rfl (fun ls hl => ?_)
              refine lv_iload_n hx hb dX7_isShiftSound_22 rfl (lv_at hl 0 rfl) ?_
              refine lv_iconst (v := (-1)) hx hb dX7_isShiftSound_23 (by decide) ?_
              refine lv_icmp_eq (tgt := 39) hx hb dX7_isShiftSound_24 (by decide) (fun hc2 => ?_) (fun hc2 => ?_)
              · refine lv_iinc (v := nI (k10 + 1)) (lv' := [(2, .int (nI (k10 + 1))), (3, .int (cSlot S 1 (nI k2) (nI k10))), (1, .int (nI k2)), (0, .ref (gG S 7 0))]) hx hb dX7_isShiftSound_39 hl (k := 1) rfl (nI_1 _) (by decide) rfl (fun ls hl => ?_)
                refine lv_goto (tgt := 10) hx hb dX7_isShiftSound_42 (by decide) ?_
                exact ih10 (k10 + 1) _ _ _ (by omega) (hlt_k10) w (lv_sub hl [0, 2, 3] rfl)
              · refine lv_aload_n hx hb dX7_isShiftSound_27 rfl (lv_at hl 3 rfl) ?_
                refine lv_iload_n hx hb dX7_isShiftSound_28 rfl (lv_at hl 2 rfl) ?_
                refine lv_iload_n hx hb dX7_isShiftSound_29 rfl (lv_at hl 1 rfl) ?_
                refine lv_iload_n hx hb dX7_isShiftSound_30 rfl (lv_at hl 0 rfl) ?_
                refine cV (S := S) (nA := 3) (As := [.int (nI k2), .int (nI k10), .int (cSlot S 1 (nI k2) (nI k10))]) (rest := []) X w hl h.v7 (m_X7_sitsElsewhere G S ea ns nj nm nt nr nc h (nI k2) (nI k10) (cSlot S 1 (nI k2) (nI k10))) wY_X7_sitsElsewhere wM_X7_108 wIn_X7_sitsElsewhere wSe_X7_X7_sitsElsewhere wI_X7 (by decide) rfl (by decide +kernel) rfl rfl dX7_isShiftSound_31 ⟨by decide, by decide⟩ (Nat.le_of_ble_eq_true rfl) (⟨Nat.le_of_ble_eq_true rfl, Nat.le_of_ble_eq_true rfl⟩) (fun v3 S1 H locs hp w => ?_)
                obtain ⟨rfl, rfl⟩ := hp
                refine lv_if_eq (tgt := 39) hx hb dX7_isShiftSound_34 (by decide) (fun hc4 => ?_) (fun hc4 => ?_)
                · refine lv_iinc (v := nI (k10 + 1)) (lv' := [(2, .int (nI (k10 + 1))), (3, .int (cSlot S 1 (nI k2) (nI k10))), (1, .int (nI k2)), (0, .ref (gG S 7 0))]) hx hb dX7_isShiftSound_39 hl (k := 1) rfl (nI_1 _) (by decide) rfl (fun ls hl => ?_)
                  refine lv_goto (tgt := 10) hx hb dX7_isShiftSound_42 (by decide) ?_
                  exact ih10 (k10 + 1) _ _ _ (by omega) (hlt_k10) w (lv_sub hl [0, 2, 3] rfl)
                · refine lv_iconst (v := 0) hx hb dX7_isShiftSound_37 (by decide) ?_
                  exact rZ X w rfl dX7_isShiftSound_38 (by decide) (by decide) (by decide) (px_z01 (by first | exact Or.inl rfl | exact Or.inr rfl | exact b2i_01 _))
        exact L10 _ 0 _ _ _ (Nat.lt_succ_self _) (Nat.zero_le _) w (lv_sub hl [0, 1, 2] rfl)
  exact L2 _ 0 _ _ _ (Nat.lt_succ_self _) (Nat.zero_le _) w (lv_sub hl [0, 1] rfl)

theorem dX9_isOnDays_0 : decode cX9_isOnDays 0 = .ok (.aload_n 0, 1) := by decide +kernel
theorem dX9_isOnDays_1 : decode cX9_isOnDays 1 = .ok (.getfield 22, 3) := by decide +kernel
theorem dX9_isOnDays_4 : decode cX9_isOnDays 4 = .ok (.bipush 24, 2) := by decide +kernel
theorem dX9_isOnDays_6 : decode cX9_isOnDays 6 = .ok (.idiv, 1) := by decide +kernel
theorem dX9_isOnDays_7 : decode cX9_isOnDays 7 = .ok (.iload_n 1, 1) := by decide +kernel
theorem dX9_isOnDays_8 : decode cX9_isOnDays 8 = .ok (.iload_n 2, 1) := by decide +kernel
theorem dX9_isOnDays_9 : decode cX9_isOnDays 9 = .ok (.invokestatic 37, 3) := by decide +kernel
theorem dX9_isOnDays_12 : decode cX9_isOnDays 12 = .ok (.ifCond .ne 7, 3) := by decide +kernel
theorem dX9_isOnDays_15 : decode cX9_isOnDays 15 = .ok (.iconst 1, 1) := by decide +kernel
theorem dX9_isOnDays_16 : decode cX9_isOnDays 16 = .ok (.goto 4, 3) := by decide +kernel
theorem dX9_isOnDays_19 : decode cX9_isOnDays 19 = .ok (.iconst 0, 1) := by decide +kernel
theorem dX9_isOnDays_20 : decode cX9_isOnDays 20 = .ok (.ireturn, 1) := by decide +kernel
abbrev rm_m_X9_isOnDays : Room := { frames := 1, cells := 0, slots := 0, locals := 22 }
set_option maxHeartbeats 4000000 in
set_option maxRecDepth 100000 in
theorem m_X9_isOnDays {s0 : State} {l : Launch} {D : va_G} {cy : Nat → ClassId} (G : Gl s0 l D cy) (S : HS) (ea ns nj nm nt nr nc : Nat) (h : CI ea S ns nj nm nt nr nc) (j : Nat) (hj : j < nt) (a b : Int32) : Ctr s0 l D cy yX9_isOnDays cX9_isOnDays 3 (some .boolean) rm_m_X9_isOnDays S [.ref (gG S 9 j), .int a, .int b] (PXz S) := by
  refine pro "CavershamShift$Talk" G rfl rfl (Nat.le_of_ble_eq_true rfl) (fun p e s m below meth c ls X w hnm hl => ?_)
  have hx := X.1
  have hb := X.2.1
  have hown := X.2.2.2.1
  have hts := X.2.2.2.2.1
  have hl : lv_has ls 3 [(0, .ref (gG S 9 j)), (1, .int a), (2, .int b)] := hl
  refine lv_aload_n hx hb dX9_isOnDays_0 rfl (lv_at hl 0 rfl) ?_
  refine g_9_2 (S := S) (x := (mI S 146 j)) X w (h.e_ta j hj).2 wF_X9_22 (rfl) dX9_isOnDays_1 ?_
  refine lv_bipush (v := 24) hx hb dX9_isOnDays_4 (by decide) ?_
  refine lv_idiv hx hb dX9_isOnDays_6 (by decide) ?_
  refine lv_iload_n hx hb dX9_isOnDays_7 rfl (lv_at hl 1 rfl) ?_
  refine lv_iload_n hx hb dX9_isOnDays_8 rfl (lv_at hl 2 rfl) ?_
  refine cSN (S := S) (nA := 3) (As := [.int ((mI S 146 j) / 24), .int a, .int b]) (rest := []) X w hl (m_X10_isOutside G S ((mI S 146 j) / 24) a b) wY_X10_isOutside wMN_X9_37 wSt_X10_isOutside wI_X10 (by decide +kernel) rfl rfl dX9_isOnDays_9 ⟨by decide, by decide⟩ (Nat.le_of_ble_eq_true rfl) (⟨Nat.le_of_ble_eq_true rfl, Nat.le_of_ble_eq_true rfl⟩) (fun v1 S1 H locs hp w => ?_)
  obtain ⟨rfl, rfl⟩ := hp
  refine lv_if_ne (tgt := 19) hx hb dX9_isOnDays_12 (by decide) (fun hc2 => ?_) (fun hc2 => ?_)
  · refine lv_iconst (v := 0) hx hb dX9_isOnDays_19 (by decide) ?_
    exact rZ X w rfl dX9_isOnDays_20 (by decide) (by decide) (by decide) (px_z01 (by first | exact Or.inl rfl | exact Or.inr rfl | exact b2i_01 _))
  · refine lv_iconst (v := 1) hx hb dX9_isOnDays_15 (by decide) ?_
    refine lv_goto (tgt := 20) hx hb dX9_isOnDays_16 (by decide) ?_
    exact rZ X w rfl dX9_isOnDays_20 (by decide) (by decide) (by decide) (px_z01 (by first | exact Or.inl rfl | exact Or.inr rfl | exact b2i_01 _))

theorem dX9_hasReportThatStands_0 : decode cX9_hasReportThatStands 0 = .ok (.aload_n 0, 1) := by decide +kernel
theorem dX9_hasReportThatStands_1 : decode cX9_hasReportThatStands 1 = .ok (.getfield 41, 3) := by decide +kernel
theorem dX9_hasReportThatStands_4 : decode cX9_hasReportThatStands 4 = .ok (.ifnull 18, 3) := by decide +kernel
theorem dX9_hasReportThatStands_7 : decode cX9_hasReportThatStands 7 = .ok (.aload_n 0, 1) := by decide +kernel
theorem dX9_hasReportThatStands_8 : decode cX9_hasReportThatStands 8 = .ok (.getfield 41, 3) := by decide +kernel
theorem dX9_hasReportThatStands_11 : decode cX9_hasReportThatStands 11 = .ok (.getfield 45, 3) := by decide +kernel
theorem dX9_hasReportThatStands_14 : decode cX9_hasReportThatStands 14 = .ok (.iload_n 1, 1) := by decide +kernel
theorem dX9_hasReportThatStands_15 : decode cX9_hasReportThatStands 15 = .ok (.if_icmp .ne 7, 3) := by decide +kernel
theorem dX9_hasReportThatStands_18 : decode cX9_hasReportThatStands 18 = .ok (.iconst 1, 1) := by decide +kernel
theorem dX9_hasReportThatStands_19 : decode cX9_hasReportThatStands 19 = .ok (.goto 4, 3) := by decide +kernel
theorem dX9_hasReportThatStands_22 : decode cX9_hasReportThatStands 22 = .ok (.iconst 0, 1) := by decide +kernel
theorem dX9_hasReportThatStands_23 : decode cX9_hasReportThatStands 23 = .ok (.ireturn, 1) := by decide +kernel
abbrev rm_m_X9_hasReportThatStands : Room := { frames := 0, cells := 0, slots := 0, locals := 0 }
set_option maxHeartbeats 4000000 in
set_option maxRecDepth 100000 in
theorem m_X9_hasReportThatStands {s0 : State} {l : Launch} {D : va_G} {cy : Nat → ClassId} (G : Gl s0 l D cy) (S : HS) (ea ns nj nm nt nr nc : Nat) (h : CI ea S ns nj nm nt nr nc) (j : Nat) (hj : j < nt) (a : Int32) : Ctr s0 l D cy yX9_hasReportThatStands cX9_hasReportThatStands 2 (some .boolean) rm_m_X9_hasReportThatStands S [.ref (gG S 9 j), .int a] (PU S (some (.int (b2i (decide (mR S 152 j ≠ none) && decide (mI S 104 j = a)))))) := by
  refine pro "CavershamShift$Talk" G rfl rfl (Nat.le_of_ble_eq_true rfl) (fun p e s m below meth c ls X w hnm hl => ?_)
  have hx := X.1
  have hb := X.2.1
  have hown := X.2.2.2.1
  have hts := X.2.2.2.2.1
  have hl : lv_has ls 2 [(0, .ref (gG S 9 j)), (1, .int a)] := hl
  refine lv_aload_n hx hb dX9_hasReportThatStands_0 rfl (lv_at hl 0 rfl) ?_
  rcases h.t_rp j hj with her1 | ⟨her1, hvr1⟩
  · refine g_9_8 (S := S) (x := none) X w (h.e_ta j hj).2 wF_X9_41 (her1) dX9_hasReportThatStands_1 ?_
    refine lv_ifnullN (tgt := 22) hx hb dX9_hasReportThatStands_4 (by decide) ?_
    refine lv_iconst (v := 0) hx hb dX9_hasReportThatStands_22 (by decide) ?_
    exact rZ X w rfl dX9_hasReportThatStands_23 (by decide) (by decide) (by decide) (pu_i (by simp_all [b2i]))
  · refine g_9_8 (S := S) (x := (some (gG S 6 j))) X w (h.e_ta j hj).2 wF_X9_41 (her1) dX9_hasReportThatStands_1 ?_
    refine lv_ifnull hx hb dX9_hasReportThatStands_4 ?_
    refine lv_aload_n hx hb dX9_hasReportThatStands_7 rfl (lv_at hl 0 rfl) ?_
    refine g_9_8 (S := S) (x := (some (gG S 6 j))) X w (h.e_ta j hj).2 wF_X9_41 (her1) dX9_hasReportThatStands_8 ?_
    refine g_6_8 (S := S) (x := (mI S 104 j)) X w hvr1 wF_X9_45 (rfl) dX9_hasReportThatStands_11 ?_
    refine lv_iload_n hx hb dX9_hasReportThatStands_14 rfl (lv_at hl 1 rfl) ?_
    refine lv_icmp_ne (tgt := 22) hx hb dX9_hasReportThatStands_15 (by decide) (fun hc2 => ?_) (fun hc2 => ?_)
    · refine lv_iconst (v := 0) hx hb dX9_hasReportThatStands_22 (by decide) ?_
      exact rZ X w rfl dX9_hasReportThatStands_23 (by decide) (by decide) (by decide) (pu_i (by simp_all [b2i]))
    · refine lv_iconst (v := 1) hx hb dX9_hasReportThatStands_18 (by decide) ?_
      refine lv_goto (tgt := 23) hx hb dX9_hasReportThatStands_19 (by decide) ?_
      exact rZ X w rfl dX9_hasReportThatStands_23 (by decide) (by decide) (by decide) (pu_i (by simp_all [b2i]))

theorem dX6_formulas_0 : decode cX6_formulas 0 = .ok (.aload_n 0, 1) := by decide +kernel
theorem dX6_formulas_1 : decode cX6_formulas 1 = .ok (.getfield 65, 3) := by decide +kernel
theorem dX6_formulas_4 : decode cX6_formulas 4 = .ok (.iconst (-1), 1) := by decide +kernel
theorem dX6_formulas_5 : decode cX6_formulas 5 = .ok (.if_icmp .ne 10, 3) := by decide +kernel
theorem dX6_formulas_8 : decode cX6_formulas 8 = .ok (.aload_n 0, 1) := by decide +kernel
theorem dX6_formulas_9 : decode cX6_formulas 9 = .ok (.getfield 58, 3) := by decide +kernel
theorem dX6_formulas_12 : decode cX6_formulas 12 = .ok (.goto 14, 3) := by decide +kernel
theorem dX6_formulas_15 : decode cX6_formulas 15 = .ok (.aload_n 0, 1) := by decide +kernel
theorem dX6_formulas_16 : decode cX6_formulas 16 = .ok (.getfield 58, 3) := by decide +kernel
theorem dX6_formulas_19 : decode cX6_formulas 19 = .ok (.iconst 1, 1) := by decide +kernel
theorem dX6_formulas_20 : decode cX6_formulas 20 = .ok (.aload_n 0, 1) := by decide +kernel
theorem dX6_formulas_21 : decode cX6_formulas 21 = .ok (.getfield 65, 3) := by decide +kernel
theorem dX6_formulas_24 : decode cX6_formulas 24 = .ok (.ishl, 1) := by decide +kernel
theorem dX6_formulas_25 : decode cX6_formulas 25 = .ok (.ior, 1) := by decide +kernel
theorem dX6_formulas_26 : decode cX6_formulas 26 = .ok (.ireturn, 1) := by decide +kernel
abbrev rm_m_X6_formulas : Room := { frames := 0, cells := 0, slots := 0, locals := 0 }
set_option maxHeartbeats 4000000 in
set_option maxRecDepth 100000 in
theorem m_X6_formulas {s0 : State} {l : Launch} {D : va_G} {cy : Nat → ClassId} (G : Gl s0 l D cy) (S : HS) (ea ns nj nm nt nr nc : Nat) (h : CI ea S ns nj nm nt nr nc) (j : Nat) (hv : vV S 6 j) : Ctr s0 l D cy yX6_formulas cX6_formulas 1 (some .int) rm_m_X6_formulas S [.ref (gG S 6 j)] (PXi S) := by
  refine pro "CavershamShift$Report" G rfl rfl (Nat.le_of_ble_eq_true rfl) (fun p e s m below meth c ls X w hnm hl => ?_)
  have hx := X.1
  have hb := X.2.1
  have hown := X.2.2.2.1
  have hts := X.2.2.2.2.1
  have hl : lv_has ls 1 [(0, .ref (gG S 6 j))] := hl
  refine lv_aload_n hx hb dX6_formulas_0 rfl (lv_at hl 0 rfl) ?_
  refine g_6_4 (S := S) (x := (mI S 100 j)) X w hv wF_X6_65 (rfl) dX6_formulas_1 ?_
  refine lv_iconst (v := (-1)) hx hb dX6_formulas_4 (by decide) ?_
  refine lv_icmp_ne (tgt := 15) hx hb dX6_formulas_5 (by decide) (fun hc1 => ?_) (fun hc1 => ?_)
  · refine lv_aload_n hx hb dX6_formulas_15 rfl (lv_at hl 0 rfl) ?_
    refine g_6_3 (S := S) (x := (mI S 99 j)) X w hv wF_X6_58 (rfl) dX6_formulas_16 ?_
    refine lv_iconst (v := 1) hx hb dX6_formulas_19 (by decide) ?_
    refine lv_aload_n hx hb dX6_formulas_20 rfl (lv_at hl 0 rfl) ?_
    refine g_6_4 (S := S) (x := (mI S 100 j)) X w hv wF_X6_65 (rfl) dX6_formulas_21 ?_
    refine lv_ishl hx hb dX6_formulas_24 ?_
    refine lv_ior hx hb dX6_formulas_25 ?_
    exact rI X w rfl dX6_formulas_26 (by decide) (by decide) (px_i)
  · refine lv_aload_n hx hb dX6_formulas_8 rfl (lv_at hl 0 rfl) ?_
    refine g_6_3 (S := S) (x := (mI S 99 j)) X w hv wF_X6_58 (rfl) dX6_formulas_9 ?_
    refine lv_goto (tgt := 26) hx hb dX6_formulas_12 (by decide) ?_
    exact rI X w rfl dX6_formulas_26 (by decide) (by decide) (px_i)

theorem dX9_isInError_0 : decode cX9_isInError 0 = .ok (.aload_n 0, 1) := by decide +kernel
theorem dX9_isInError_1 : decode cX9_isInError 1 = .ok (.getfield 41, 3) := by decide +kernel
theorem dX9_isInError_4 : decode cX9_isInError 4 = .ok (.ifnull 22, 3) := by decide +kernel
theorem dX9_isInError_7 : decode cX9_isInError 7 = .ok (.aload_n 0, 1) := by decide +kernel
theorem dX9_isInError_8 : decode cX9_isInError 8 = .ok (.getfield 41, 3) := by decide +kernel
theorem dX9_isInError_11 : decode cX9_isInError 11 = .ok (.getfield 45, 3) := by decide +kernel
theorem dX9_isInError_14 : decode cX9_isInError 14 = .ok (.iconst 1, 1) := by decide +kernel
theorem dX9_isInError_15 : decode cX9_isInError 15 = .ok (.if_icmp .ne 11, 3) := by decide +kernel
theorem dX9_isInError_18 : decode cX9_isInError 18 = .ok (.aload_n 0, 1) := by decide +kernel
theorem dX9_isInError_19 : decode cX9_isInError 19 = .ok (.getfield 9, 3) := by decide +kernel
theorem dX9_isInError_22 : decode cX9_isInError 22 = .ok (.iconst (-1), 1) := by decide +kernel
theorem dX9_isInError_23 : decode cX9_isInError 23 = .ok (.if_icmp .ne 5, 3) := by decide +kernel
theorem dX9_isInError_26 : decode cX9_isInError 26 = .ok (.iconst 0, 1) := by decide +kernel
theorem dX9_isInError_27 : decode cX9_isInError 27 = .ok (.ireturn, 1) := by decide +kernel
theorem dX9_isInError_28 : decode cX9_isInError 28 = .ok (.aload_n 0, 1) := by decide +kernel
theorem dX9_isInError_29 : decode cX9_isInError 29 = .ok (.getfield 41, 3) := by decide +kernel
theorem dX9_isInError_32 : decode cX9_isInError 32 = .ok (.getfield 50, 3) := by decide +kernel
theorem dX9_isInError_35 : decode cX9_isInError 35 = .ok (.iconst (-1), 1) := by decide +kernel
theorem dX9_isInError_36 : decode cX9_isInError 36 = .ok (.if_icmp .eq 24, 3) := by decide +kernel
theorem dX9_isInError_39 : decode cX9_isInError 39 = .ok (.aload_n 0, 1) := by decide +kernel
theorem dX9_isInError_40 : decode cX9_isInError 40 = .ok (.getfield 9, 3) := by decide +kernel
theorem dX9_isInError_43 : decode cX9_isInError 43 = .ok (.aload_n 0, 1) := by decide +kernel
theorem dX9_isInError_44 : decode cX9_isInError 44 = .ok (.getfield 41, 3) := by decide +kernel
theorem dX9_isInError_47 : decode cX9_isInError 47 = .ok (.getfield 50, 3) := by decide +kernel
theorem dX9_isInError_50 : decode cX9_isInError 50 = .ok (.invokestatic 53, 3) := by decide +kernel
theorem dX9_isInError_53 : decode cX9_isInError 53 = .ok (.ifCond .ne 7, 3) := by decide +kernel
theorem dX9_isInError_56 : decode cX9_isInError 56 = .ok (.iconst 1, 1) := by decide +kernel
theorem dX9_isInError_57 : decode cX9_isInError 57 = .ok (.goto 4, 3) := by decide +kernel
theorem dX9_isInError_60 : decode cX9_isInError 60 = .ok (.iconst 0, 1) := by decide +kernel
theorem dX9_isInError_61 : decode cX9_isInError 61 = .ok (.istore_n 1, 1) := by decide +kernel
theorem dX9_isInError_62 : decode cX9_isInError 62 = .ok (.iload_n 1, 1) := by decide +kernel
theorem dX9_isInError_63 : decode cX9_isInError 63 = .ok (.ifCond .ne 20, 3) := by decide +kernel
theorem dX9_isInError_66 : decode cX9_isInError 66 = .ok (.aload_n 0, 1) := by decide +kernel
theorem dX9_isInError_67 : decode cX9_isInError 67 = .ok (.getfield 9, 3) := by decide +kernel
theorem dX9_isInError_70 : decode cX9_isInError 70 = .ok (.aload_n 0, 1) := by decide +kernel
theorem dX9_isInError_71 : decode cX9_isInError 71 = .ok (.getfield 41, 3) := by decide +kernel
theorem dX9_isInError_74 : decode cX9_isInError 74 = .ok (.invokevirtual 57, 3) := by decide +kernel
theorem dX9_isInError_77 : decode cX9_isInError 77 = .ok (.iconst (-1), 1) := by decide +kernel
theorem dX9_isInError_78 : decode cX9_isInError 78 = .ok (.ixor, 1) := by decide +kernel
theorem dX9_isInError_79 : decode cX9_isInError 79 = .ok (.iand, 1) := by decide +kernel
theorem dX9_isInError_80 : decode cX9_isInError 80 = .ok (.ifCond .eq 7, 3) := by decide +kernel
theorem dX9_isInError_83 : decode cX9_isInError 83 = .ok (.iconst 1, 1) := by decide +kernel
theorem dX9_isInError_84 : decode cX9_isInError 84 = .ok (.goto 4, 3) := by decide +kernel
theorem dX9_isInError_87 : decode cX9_isInError 87 = .ok (.iconst 0, 1) := by decide +kernel
theorem dX9_isInError_88 : decode cX9_isInError 88 = .ok (.ireturn, 1) := by decide +kernel
abbrev rm_m_X9_isInError : Room := { frames := 1, cells := 0, slots := 0, locals := 21 }
set_option maxHeartbeats 4000000 in
set_option maxRecDepth 100000 in
theorem m_X9_isInError {s0 : State} {l : Launch} {D : va_G} {cy : Nat → ClassId} (G : Gl s0 l D cy) (S : HS) (ea ns nj nm nt nr nc : Nat) (h : CI ea S ns nj nm nt nr nc) (j : Nat) (hj : j < nt) : Ctr s0 l D cy yX9_isInError cX9_isInError 2 (some .boolean) rm_m_X9_isInError S [.ref (gG S 9 j)] (PXe S j) := by
  refine pro "CavershamShift$Talk" G rfl rfl (Nat.le_of_ble_eq_true rfl) (fun p e s m below meth c ls X w hnm hl => ?_)
  have hx := X.1
  have hb := X.2.1
  have hown := X.2.2.2.1
  have hts := X.2.2.2.2.1
  have hl : lv_has ls 2 [(0, .ref (gG S 9 j))] := hl
  refine lv_aload_n hx hb dX9_isInError_0 rfl (lv_at hl 0 rfl) ?_
  rcases h.t_rp j hj with her1 | ⟨her1, hvr1⟩
  · refine g_9_8 (S := S) (x := none) X w (h.e_ta j hj).2 wF_X9_41 (her1) dX9_isInError_1 ?_
    refine lv_ifnullN (tgt := 26) hx hb dX9_isInError_4 (by decide) ?_
    refine lv_iconst (v := 0) hx hb dX9_isInError_26 (by decide) ?_
    exact rZ X w rfl dX9_isInError_27 (by decide) (by decide) (by decide) (pxe (by first | exact Or.inl rfl | exact Or.inr rfl | exact b2i_01 _) (by first | (intro z; exact absurd z (by decide)) | (intro _; simp_all [pOut])))
  · refine g_9_8 (S := S) (x := (some (gG S 6 j))) X w (h.e_ta j hj).2 wF_X9_41 (her1) dX9_isInError_1 ?_
    refine lv_ifnull hx hb dX9_isInError_4 ?_
    refine lv_aload_n hx hb dX9_isInError_7 rfl (lv_at hl 0 rfl) ?_
    refine g_9_8 (S := S) (x := (some (gG S 6 j))) X w (h.e_ta j hj).2 wF_X9_41 (her1) dX9_isInError_8 ?_
    refine g_6_8 (S := S) (x := (mI S 104 j)) X w hvr1 wF_X9_45 (rfl) dX9_isInError_11 ?_
    refine lv_iconst (v := 1) hx hb dX9_isInError_14 (by decide) ?_
    refine lv_icmp_ne (tgt := 26) hx hb dX9_isInError_15 (by decide) (fun hc2 => ?_) (fun hc2 => ?_)
    · refine lv_iconst (v := 0) hx hb dX9_isInError_26 (by decide) ?_
      exact rZ X w rfl dX9_isInError_27 (by decide) (by decide) (by decide) (pxe (by first | exact Or.inl rfl | exact Or.inr rfl | exact b2i_01 _) (by first | (intro z; exact absurd z (by decide)) | (intro _; simp_all [pOut])))
    · refine lv_aload_n hx hb dX9_isInError_18 rfl (lv_at hl 0 rfl) ?_
      refine g_9_7 (S := S) (x := (mI S 151 j)) X w (h.e_ta j hj).2 wF_X9_9 (rfl) dX9_isInError_19 ?_
      refine lv_iconst (v := (-1)) hx hb dX9_isInError_22 (by decide) ?_
      refine lv_icmp_ne (tgt := 28) hx hb dX9_isInError_23 (by decide) (fun hc3 => ?_) (fun hc3 => ?_)
      · refine lv_aload_n hx hb dX9_isInError_28 rfl (lv_at hl 0 rfl) ?_
        refine g_9_8 (S := S) (x := (some (gG S 6 j))) X w (h.e_ta j hj).2 wF_X9_41 (her1) dX9_isInError_29 ?_
        refine g_6_4 (S := S) (x := (mI S 100 j)) X w hvr1 wF_X9_50 (rfl) dX9_isInError_32 ?_
        refine lv_iconst (v := (-1)) hx hb dX9_isInError_35 (by decide) ?_
        have J61 : ∀ (z61_0 : Bool) (H : Heap) (locs : List Loc) (ls : Array Slot), Wd s0 D cy S s.heap H locs → lv_has ls 2 [(0, .ref (gG S 9 j))] → W p l e rm_m_X9_isInError s m ([.ref (gG S 9 j)] : List Value).toArray below meth c H locs 0 0 (MQ below (GQ s0 D cy (PXe S j)) ([.ref (gG S 9 j)] : List Value).toArray s rm_m_X9_isInError.cells rm_m_X9_isInError.slots (A0 s0)) (F0 m 61 ls [.int (b2i z61_0)]) := by
          intro z61_0 H locs ls  w hl
          refine lv_istore_n (lv' := [(1, .int (b2i z61_0)), (0, .ref (gG S 9 j))]) hx hb dX9_isInError_61 rfl hl (by decide) rfl (fun ls hl => ?_)
          refine lv_iload_n hx hb dX9_isInError_62 rfl (lv_at hl 0 rfl) ?_
          refine lv_if_ne (tgt := 83) hx hb dX9_isInError_63 (by decide) (fun hc4 => ?_) (fun hc4 => ?_)
          · refine lv_iconst (v := 1) hx hb dX9_isInError_83 (by decide) ?_
            refine lv_goto (tgt := 88) hx hb dX9_isInError_84 (by decide) ?_
            exact rZ X w rfl dX9_isInError_88 (by decide) (by decide) (by decide) (pxe (by first | exact Or.inl rfl | exact Or.inr rfl | exact b2i_01 _) (by first | (intro z; exact absurd z (by decide)) | (intro _; simp_all [pOut])))
          · refine lv_aload_n hx hb dX9_isInError_66 rfl (lv_at hl 1 rfl) ?_
            refine g_9_7 (S := S) (x := (mI S 151 j)) X w (h.e_ta j hj).2 wF_X9_9 (rfl) dX9_isInError_67 ?_
            refine lv_aload_n hx hb dX9_isInError_70 rfl (lv_at hl 1 rfl) ?_
            refine g_9_8 (S := S) (x := (some (gG S 6 j))) X w (h.e_ta j hj).2 wF_X9_41 (her1) dX9_isInError_71 ?_
            refine cV (S := S) (nA := 0) (As := []) (rest := [.int (mI S 151 j)]) X w hl hvr1 (m_X6_formulas G S ea ns nj nm nt nr nc h j (by assumption)) wY_X6_formulas wM_X9_57 wIn_X6_formulas wSe_X6_X6_formulas wI_X6 (by decide) rfl (by decide +kernel) rfl rfl dX9_isInError_74 ⟨by decide, by decide⟩ (Nat.le_of_ble_eq_true rfl) (⟨Nat.le_of_ble_eq_true rfl, Nat.le_of_ble_eq_true rfl⟩) (fun v6 S1 H locs hp w => ?_)
            obtain ⟨⟨x5, rfl⟩, rfl⟩ := hp
            refine lv_iconst (v := (-1)) hx hb dX9_isInError_77 (by decide) ?_
            refine lv_ixor hx hb dX9_isInError_78 ?_
            refine lv_iand hx hb dX9_isInError_79 ?_
            refine lv_if_eq (tgt := 87) hx hb dX9_isInError_80 (by decide) (fun hc7 => ?_) (fun hc7 => ?_)
            · refine lv_iconst (v := 0) hx hb dX9_isInError_87 (by decide) ?_
              exact rZ X w rfl dX9_isInError_88 (by decide) (by decide) (by decide) (pxe (by first | exact Or.inl rfl | exact Or.inr rfl | exact b2i_01 _) (by first | (intro z; exact absurd z (by decide)) | (intro _; simp_all [pOut])))
            · refine lv_iconst (v := 1) hx hb dX9_isInError_83 (by decide) ?_
              refine lv_goto (tgt := 88) hx hb dX9_isInError_84 (by decide) ?_
              exact rZ X w rfl dX9_isInError_88 (by decide) (by decide) (by decide) (pxe (by first | exact Or.inl rfl | exact Or.inr rfl | exact b2i_01 _) (by first | (intro z; exact absurd z (by decide)) | (intro _; simp_all [pOut])))
        refine lv_icmp_eq (tgt := 60) hx hb dX9_isInError_36 (by decide) (fun hc8 => ?_) (fun hc8 => ?_)
        · refine lv_iconst (v := 0) hx hb dX9_isInError_60 (by decide) ?_
          exact J61 false _ _ _  w (lv_sub hl [0] rfl)
        · refine lv_aload_n hx hb dX9_isInError_39 rfl (lv_at hl 0 rfl) ?_
          refine g_9_7 (S := S) (x := (mI S 151 j)) X w (h.e_ta j hj).2 wF_X9_9 (rfl) dX9_isInError_40 ?_
          refine lv_aload_n hx hb dX9_isInError_43 rfl (lv_at hl 0 rfl) ?_
          refine g_9_8 (S := S) (x := (some (gG S 6 j))) X w (h.e_ta j hj).2 wF_X9_41 (her1) dX9_isInError_44 ?_
          refine g_6_4 (S := S) (x := (mI S 100 j)) X w hvr1 wF_X9_50 (rfl) dX9_isInError_47 ?_
          refine cSN (S := S) (nA := 2) (As := [.int (mI S 151 j), .int (mI S 100 j)]) (rest := []) X w hl (m_X10_isIn G S (mI S 151 j) (mI S 100 j)) wY_X10_isIn wMN_X9_53 wSt_X10_isIn wI_X10 (by decide +kernel) rfl rfl dX9_isInError_50 ⟨by decide, by decide⟩ (Nat.le_of_ble_eq_true rfl) (⟨Nat.le_of_ble_eq_true rfl, Nat.le_of_ble_eq_true rfl⟩) (fun v9 S1 H locs hp w => ?_)
          obtain ⟨rfl, rfl⟩ := hp
          refine lv_if_ne (tgt := 60) hx hb dX9_isInError_53 (by decide) (fun hc10 => ?_) (fun hc10 => ?_)
          · refine lv_iconst (v := 0) hx hb dX9_isInError_60 (by decide) ?_
            exact J61 false _ _ _  w (lv_sub hl [0] rfl)
          · refine lv_iconst (v := 1) hx hb dX9_isInError_56 (by decide) ?_
            refine lv_goto (tgt := 61) hx hb dX9_isInError_57 (by decide) ?_
            exact J61 true _ _ _  w (lv_sub hl [0] rfl)
      · refine lv_iconst (v := 0) hx hb dX9_isInError_26 (by decide) ?_
        exact rZ X w rfl dX9_isInError_27 (by decide) (by decide) (by decide) (pxe (by first | exact Or.inl rfl | exact Or.inr rfl | exact b2i_01 _) (by first | (intro z; exact absurd z (by decide)) | (intro _; simp_all [pOut])))

theorem dX9_isFor_0 : decode cX9_isFor 0 = .ok (.aload_n 1, 1) := by decide +kernel
theorem dX9_isFor_1 : decode cX9_isFor 1 = .ok (.getfield 60, 3) := by decide +kernel
theorem dX9_isFor_4 : decode cX9_isFor 4 = .ok (.aload_n 0, 1) := by decide +kernel
theorem dX9_isFor_5 : decode cX9_isFor 5 = .ok (.getfield 18, 3) := by decide +kernel
theorem dX9_isFor_8 : decode cX9_isFor 8 = .ok (.getfield 65, 3) := by decide +kernel
theorem dX9_isFor_11 : decode cX9_isFor 11 = .ok (.invokestatic 53, 3) := by decide +kernel
theorem dX9_isFor_14 : decode cX9_isFor 14 = .ok (.ifCond .eq 21, 3) := by decide +kernel
theorem dX9_isFor_17 : decode cX9_isFor 17 = .ok (.aload_n 1, 1) := by decide +kernel
theorem dX9_isFor_18 : decode cX9_isFor 18 = .ok (.getfield 70, 3) := by decide +kernel
theorem dX9_isFor_21 : decode cX9_isFor 21 = .ok (.aload_n 0, 1) := by decide +kernel
theorem dX9_isFor_22 : decode cX9_isFor 22 = .ok (.getfield 25, 3) := by decide +kernel
theorem dX9_isFor_25 : decode cX9_isFor 25 = .ok (.invokestatic 53, 3) := by decide +kernel
theorem dX9_isFor_28 : decode cX9_isFor 28 = .ok (.ifCond .eq 7, 3) := by decide +kernel
theorem dX9_isFor_31 : decode cX9_isFor 31 = .ok (.iconst 1, 1) := by decide +kernel
theorem dX9_isFor_32 : decode cX9_isFor 32 = .ok (.goto 4, 3) := by decide +kernel
theorem dX9_isFor_35 : decode cX9_isFor 35 = .ok (.iconst 0, 1) := by decide +kernel
theorem dX9_isFor_36 : decode cX9_isFor 36 = .ok (.ireturn, 1) := by decide +kernel
theorem dX9_reached_0 : decode cX9_reached 0 = .ok (.aload_n 0, 1) := by decide +kernel
theorem dX9_reached_1 : decode cX9_reached 1 = .ok (.getfield 41, 3) := by decide +kernel
theorem dX9_reached_4 : decode cX9_reached 4 = .ok (.ifnull 20, 3) := by decide +kernel
theorem dX9_reached_7 : decode cX9_reached 7 = .ok (.aload_n 0, 1) := by decide +kernel
theorem dX9_reached_8 : decode cX9_reached 8 = .ok (.getfield 41, 3) := by decide +kernel
theorem dX9_reached_11 : decode cX9_reached 11 = .ok (.getfield 73, 3) := by decide +kernel
theorem dX9_reached_14 : decode cX9_reached 14 = .ok (.aload_n 1, 1) := by decide +kernel
theorem dX9_reached_15 : decode cX9_reached 15 = .ok (.getfield 76, 3) := by decide +kernel
theorem dX9_reached_18 : decode cX9_reached 18 = .ok (.invokestatic 53, 3) := by decide +kernel
theorem dX9_reached_21 : decode cX9_reached 21 = .ok (.ifCond .ne 5, 3) := by decide +kernel
theorem dX9_reached_24 : decode cX9_reached 24 = .ok (.iconst 0, 1) := by decide +kernel
theorem dX9_reached_25 : decode cX9_reached 25 = .ok (.ireturn, 1) := by decide +kernel
theorem dX9_reached_26 : decode cX9_reached 26 = .ok (.aload_n 0, 1) := by decide +kernel
theorem dX9_reached_27 : decode cX9_reached 27 = .ok (.getfield 41, 3) := by decide +kernel
theorem dX9_reached_30 : decode cX9_reached 30 = .ok (.getfield 77, 3) := by decide +kernel
theorem dX9_reached_33 : decode cX9_reached 33 = .ok (.iconst 2, 1) := by decide +kernel
theorem dX9_reached_34 : decode cX9_reached 34 = .ok (.if_icmp .ne 7, 3) := by decide +kernel
theorem dX9_reached_37 : decode cX9_reached 37 = .ok (.iconst 2, 1) := by decide +kernel
theorem dX9_reached_38 : decode cX9_reached 38 = .ok (.goto 4, 3) := by decide +kernel
theorem dX9_reached_41 : decode cX9_reached 41 = .ok (.iconst 1, 1) := by decide +kernel
theorem dX9_reached_42 : decode cX9_reached 42 = .ok (.ireturn, 1) := by decide +kernel
abbrev rm_m_X9_reached : Room := { frames := 1, cells := 0, slots := 0, locals := 21 }
set_option maxHeartbeats 4000000 in
set_option maxRecDepth 100000 in
theorem m_X9_reached {s0 : State} {l : Launch} {D : va_G} {cy : Nat → ClassId} (G : Gl s0 l D cy) (S : HS) (ea ns nj nm nt nr nc : Nat) (h : CI ea S ns nj nm nt nr nc) (j : Nat) (hj : j < nt) (r : Nat) (hr : r < nr) : Ctr s0 l D cy yX9_reached cX9_reached 2 (some .int) rm_m_X9_reached S [.ref (gG S 9 j), .ref (gG S 5 r)] (PXi S) := by
  refine pro "CavershamShift$Talk" G rfl rfl (Nat.le_of_ble_eq_true rfl) (fun p e s m below meth c ls X w hnm hl => ?_)
  have hx := X.1
  have hb := X.2.1
  have hown := X.2.2.2.1
  have hts := X.2.2.2.2.1
  have hl : lv_has ls 2 [(0, .ref (gG S 9 j)), (1, .ref (gG S 5 r))] := hl
  refine lv_aload_n hx hb dX9_reached_0 rfl (lv_at hl 0 rfl) ?_
  rcases h.t_rp j hj with her1 | ⟨her1, hvr1⟩
  · refine g_9_8 (S := S) (x := none) X w (h.e_ta j hj).2 wF_X9_41 (her1) dX9_reached_1 ?_
    refine lv_ifnullN (tgt := 24) hx hb dX9_reached_4 (by decide) ?_
    refine lv_iconst (v := 0) hx hb dX9_reached_24 (by decide) ?_
    exact rI X w rfl dX9_reached_25 (by decide) (by decide) (px_i)
  · refine g_9_8 (S := S) (x := (some (gG S 6 j))) X w (h.e_ta j hj).2 wF_X9_41 (her1) dX9_reached_1 ?_
    refine lv_ifnull hx hb dX9_reached_4 ?_
    refine lv_aload_n hx hb dX9_reached_7 rfl (lv_at hl 0 rfl) ?_
    refine g_9_8 (S := S) (x := (some (gG S 6 j))) X w (h.e_ta j hj).2 wF_X9_41 (her1) dX9_reached_8 ?_
    refine g_6_12 (S := S) (x := (mI S 108 j)) X w hvr1 wF_X9_73 (rfl) dX9_reached_11 ?_
    refine lv_aload_n hx hb dX9_reached_14 rfl (lv_at hl 1 rfl) ?_
    refine g_5_0 (S := S) (x := (mI S 80 r)) X w (h.e_re r hr).2 wF_X9_76 (rfl) dX9_reached_15 ?_
    refine cSN (S := S) (nA := 2) (As := [.int (mI S 108 j), .int (mI S 80 r)]) (rest := []) X w hl (m_X10_isIn G S (mI S 108 j) (mI S 80 r)) wY_X10_isIn wMN_X9_53 wSt_X10_isIn wI_X10 (by decide +kernel) rfl rfl dX9_reached_18 ⟨by decide, by decide⟩ (Nat.le_of_ble_eq_true rfl) (⟨Nat.le_of_ble_eq_true rfl, Nat.le_of_ble_eq_true rfl⟩) (fun v2 S1 H locs hp w => ?_)
    obtain ⟨rfl, rfl⟩ := hp
    refine lv_if_ne (tgt := 26) hx hb dX9_reached_21 (by decide) (fun hc3 => ?_) (fun hc3 => ?_)
    · refine lv_aload_n hx hb dX9_reached_26 rfl (lv_at hl 0 rfl) ?_
      refine g_9_8 (S := S) (x := (some (gG S 6 j))) X w (h.e_ta j hj).2 wF_X9_41 (her1) dX9_reached_27 ?_
      refine g_6_11 (S := S) (x := (mI S 107 j)) X w hvr1 wF_X9_77 (rfl) dX9_reached_30 ?_
      refine lv_iconst (v := 2) hx hb dX9_reached_33 (by decide) ?_
      refine lv_icmp_ne (tgt := 41) hx hb dX9_reached_34 (by decide) (fun hc4 => ?_) (fun hc4 => ?_)
      · refine lv_iconst (v := 1) hx hb dX9_reached_41 (by decide) ?_
        exact rI X w rfl dX9_reached_42 (by decide) (by decide) (px_i)
      · refine lv_iconst (v := 2) hx hb dX9_reached_37 (by decide) ?_
        refine lv_goto (tgt := 42) hx hb dX9_reached_38 (by decide) ?_
        exact rI X w rfl dX9_reached_42 (by decide) (by decide) (px_i)
    · refine lv_iconst (v := 0) hx hb dX9_reached_24 (by decide) ?_
      exact rI X w rfl dX9_reached_25 (by decide) (by decide) (px_i)

theorem dX4_isTooOld_0 : decode cX4_isTooOld 0 = .ok (.aload_n 0, 1) := by decide +kernel
theorem dX4_isTooOld_1 : decode cX4_isTooOld 1 = .ok (.getfield 48, 3) := by decide +kernel
theorem dX4_isTooOld_4 : decode cX4_isTooOld 4 = .ok (.bipush 24, 2) := by decide +kernel
theorem dX4_isTooOld_6 : decode cX4_isTooOld 6 = .ok (.iadd, 1) := by decide +kernel
theorem dX4_isTooOld_7 : decode cX4_isTooOld 7 = .ok (.iload_n 1, 1) := by decide +kernel
theorem dX4_isTooOld_8 : decode cX4_isTooOld 8 = .ok (.if_icmp .gt 7, 3) := by decide +kernel
theorem dX4_isTooOld_11 : decode cX4_isTooOld 11 = .ok (.iconst 1, 1) := by decide +kernel
theorem dX4_isTooOld_12 : decode cX4_isTooOld 12 = .ok (.goto 4, 3) := by decide +kernel
theorem dX4_isTooOld_15 : decode cX4_isTooOld 15 = .ok (.iconst 0, 1) := by decide +kernel
theorem dX4_isTooOld_16 : decode cX4_isTooOld 16 = .ok (.ireturn, 1) := by decide +kernel
abbrev rm_m_X4_isTooOld : Room := { frames := 0, cells := 0, slots := 0, locals := 0 }
set_option maxHeartbeats 4000000 in
set_option maxRecDepth 100000 in
theorem m_X4_isTooOld {s0 : State} {l : Launch} {D : va_G} {cy : Nat → ClassId} (G : Gl s0 l D cy) (S : HS) (ea ns nj nm nt nr nc : Nat) (h : CI ea S ns nj nm nt nr nc) (j : Nat) (hj : j < nt) (a : Int32) : Ctr s0 l D cy yX4_isTooOld cX4_isTooOld 2 (some .boolean) rm_m_X4_isTooOld S [.ref (gG S 9 j), .int a] (PXz S) := by
  refine pro "CavershamShift$Newsroom" G rfl rfl (Nat.le_of_ble_eq_true rfl) (fun p e s m below meth c ls X w hnm hl => ?_)
  have hx := X.1
  have hb := X.2.1
  have hown := X.2.2.2.1
  have hts := X.2.2.2.2.1
  have hl : lv_has ls 2 [(0, .ref (gG S 9 j)), (1, .int a)] := hl
  refine lv_aload_n hx hb dX4_isTooOld_0 rfl (lv_at hl 0 rfl) ?_
  refine g_9_2 (S := S) (x := (mI S 146 j)) X w (h.e_ta j hj).2 wF_X4_48 (rfl) dX4_isTooOld_1 ?_
  refine lv_bipush (v := 24) hx hb dX4_isTooOld_4 (by decide) ?_
  refine lv_iadd hx hb dX4_isTooOld_6 ?_
  refine lv_iload_n hx hb dX4_isTooOld_7 rfl (lv_at hl 1 rfl) ?_
  refine lv_icmp_gt (tgt := 15) hx hb dX4_isTooOld_8 (by decide) (fun hc1 => ?_) (fun hc1 => ?_)
  · refine lv_iconst (v := 0) hx hb dX4_isTooOld_15 (by decide) ?_
    exact rZ X w rfl dX4_isTooOld_16 (by decide) (by decide) (by decide) (px_z01 (by first | exact Or.inl rfl | exact Or.inr rfl | exact b2i_01 _))
  · refine lv_iconst (v := 1) hx hb dX4_isTooOld_11 (by decide) ?_
    refine lv_goto (tgt := 16) hx hb dX4_isTooOld_12 (by decide) ?_
    exact rZ X w rfl dX4_isTooOld_16 (by decide) (by decide) (by decide) (px_z01 (by first | exact Or.inl rfl | exact Or.inr rfl | exact b2i_01 _))

theorem dX4_hasTalk_0 : decode cX4_hasTalk 0 = .ok (.iconst 0, 1) := by decide +kernel
theorem dX4_hasTalk_1 : decode cX4_hasTalk 1 = .ok (.istore_n 3, 1) := by decide +kernel
theorem dX4_hasTalk_2 : decode cX4_hasTalk 2 = .ok (.iload_n 3, 1) := by decide +kernel
theorem dX4_hasTalk_3 : decode cX4_hasTalk 3 = .ok (.aload_n 0, 1) := by decide +kernel
theorem dX4_hasTalk_4 : decode cX4_hasTalk 4 = .ok (.getfield 12, 3) := by decide +kernel
theorem dX4_hasTalk_7 : decode cX4_hasTalk 7 = .ok (.invokevirtual 28, 3) := by decide +kernel
theorem dX4_hasTalk_10 : decode cX4_hasTalk 10 = .ok (.if_icmp .ge 42, 3) := by decide +kernel
theorem dX4_hasTalk_13 : decode cX4_hasTalk 13 = .ok (.aload_n 0, 1) := by decide +kernel
theorem dX4_hasTalk_14 : decode cX4_hasTalk 14 = .ok (.getfield 12, 3) := by decide +kernel
theorem dX4_hasTalk_17 : decode cX4_hasTalk 17 = .ok (.iload_n 3, 1) := by decide +kernel
theorem dX4_hasTalk_18 : decode cX4_hasTalk 18 = .ok (.invokevirtual 36, 3) := by decide +kernel
theorem dX4_hasTalk_21 : decode cX4_hasTalk 21 = .ok (.checkcast 40, 3) := by decide +kernel
theorem dX4_hasTalk_24 : decode cX4_hasTalk 24 = .ok (.astore 4, 2) := by decide +kernel
theorem dX4_hasTalk_26 : decode cX4_hasTalk 26 = .ok (.aload 4, 2) := by decide +kernel
theorem dX4_hasTalk_28 : decode cX4_hasTalk 28 = .ok (.getfield 44, 3) := by decide +kernel
theorem dX4_hasTalk_31 : decode cX4_hasTalk 31 = .ok (.aload_n 1, 1) := by decide +kernel
theorem dX4_hasTalk_32 : decode cX4_hasTalk 32 = .ok (.if_acmp .ne 14, 3) := by decide +kernel
theorem dX4_hasTalk_35 : decode cX4_hasTalk 35 = .ok (.aload 4, 2) := by decide +kernel
theorem dX4_hasTalk_37 : decode cX4_hasTalk 37 = .ok (.getfield 48, 3) := by decide +kernel
theorem dX4_hasTalk_40 : decode cX4_hasTalk 40 = .ok (.iload_n 2, 1) := by decide +kernel
theorem dX4_hasTalk_41 : decode cX4_hasTalk 41 = .ok (.if_icmp .ne 5, 3) := by decide +kernel
theorem dX4_hasTalk_44 : decode cX4_hasTalk 44 = .ok (.iconst 1, 1) := by decide +kernel
theorem dX4_hasTalk_45 : decode cX4_hasTalk 45 = .ok (.ireturn, 1) := by decide +kernel
theorem dX4_hasTalk_46 : decode cX4_hasTalk 46 = .ok (.iinc 3 1, 3) := by decide +kernel
theorem dX4_hasTalk_49 : decode cX4_hasTalk 49 = .ok (.goto (-47), 3) := by decide +kernel
theorem dX4_hasTalk_52 : decode cX4_hasTalk 52 = .ok (.iconst 0, 1) := by decide +kernel
theorem dX4_hasTalk_53 : decode cX4_hasTalk 53 = .ok (.ireturn, 1) := by decide +kernel
abbrev rm_m_X4_hasTalk : Room := { frames := 3, cells := 0, slots := 0, locals := 64 }
set_option maxHeartbeats 4000000 in
set_option maxRecDepth 100000 in
theorem m_X4_hasTalk {s0 : State} {l : Launch} {D : va_G} {cy : Nat → ClassId} (G : Gl s0 l D cy) (S : HS) (ea ns nj nm nt nr nc : Nat) (h : CI ea S ns nj nm nt nr nc) (i : Nat) (hi : i < ns) (a : Int32) (st : Nat → Nat) (hst : StN S ns nt st) : Ctr s0 l D cy yX4_hasTalk cX4_hasTalk 5 (some .boolean) rm_m_X4_hasTalk S [.ref (gG S 4 0), .ref (gG S 8 i), .int a] (PU S (some (.int (b2i (cHas S st i a nt))))) := by
  refine pro "CavershamShift$Newsroom" G rfl rfl (Nat.le_of_ble_eq_true rfl) (fun p e s m below meth c ls X w hnm hl => ?_)
  have hx := X.1
  have hb := X.2.1
  have hown := X.2.2.2.1
  have hts := X.2.2.2.2.1
  have hl : lv_has ls 5 [(0, .ref (gG S 4 0)), (1, .ref (gG S 8 i)), (2, .int a)] := hl
  refine lv_iconst (v := 0) hx hb dX4_hasTalk_0 (by decide) ?_
  refine lv_istore_n (lv' := [(3, .int 0), (0, .ref (gG S 4 0)), (1, .ref (gG S 8 i)), (2, .int a)]) hx hb dX4_hasTalk_1 rfl hl (by decide) rfl (fun ls hl => ?_)
  have L2 : ∀ (N : Nat) (k : Nat) (H : Heap) (locs : List Loc) (ls : Array Slot), nt - k < N → (k ≤ nt) → (cHas S st i a k = false) → Wd s0 D cy S s.heap H locs → lv_has ls 5 [(0, .ref (gG S 4 0)), (1, .ref (gG S 8 i)), (2, .int a), (3, .int (nI k))] → W p l e rm_m_X4_hasTalk s m ([.ref (gG S 4 0), .ref (gG S 8 i), .int a] : List Value).toArray below meth c H locs 0 0 (MQ below (GQ s0 D cy (PU S (some (.int (b2i (cHas S st i a nt)))))) ([.ref (gG S 4 0), .ref (gG S 8 i), .int a] : List Value).toArray s rm_m_X4_hasTalk.cells rm_m_X4_hasTalk.slots (A0 s0)) (F0 m 2 ls []) := by
    intro N
    induction N with
    | zero => intros; omega
    | succ N ih2 =>
      intro k H locs ls hmu hk hno w hl
      refine lv_iload_n hx hb dX4_hasTalk_2 rfl (lv_at hl 3 rfl) ?_
      refine lv_aload_n hx hb dX4_hasTalk_3 rfl (lv_at hl 0 rfl) ?_
      refine g_4_0 (S := S) (x := (some (gG S 17 3))) X w h.v4 wF_X4_12 (h.f64) dX4_hasTalk_4 ?_
      refine cV (S := S) (nA := 0) (As := []) (rest := [.int (nI k)]) X w hl h.l_ta.1 (m_size G S ea 3 nt h.l_ta) wY_Jx4a65c_size_8abf5 wM_X4_28 wIn_Jx4a65c_size_8abf5 wSe_Jx4a65c_Jx4a65c_size_8abf5 wI_Jx4a65c (by decide) rfl (by decide +kernel) rfl rfl dX4_hasTalk_7 ⟨by decide, by decide⟩ (Nat.le_of_ble_eq_true rfl) (⟨Nat.le_of_ble_eq_true rfl, Nat.le_of_ble_eq_true rfl⟩) (fun v1 S1 H locs hp w => ?_)
      obtain ⟨rfl, rfl⟩ := hp
      refine lv_icmp_ge (tgt := 52) hx hb dX4_hasTalk_10 (by decide) (fun hc10 => ?_) (fun hc10 => ?_)
      · have hge : nt ≤ k := by
          have hb1 := h.b_ta
          exact (nI_leI (by omega) (by omega)).mp hc10
        refine lv_iconst (v := 0) hx hb dX4_hasTalk_52 (by decide) ?_
        exact rZ X w rfl dX4_hasTalk_53 (by decide) (by decide) (by decide) (pu_i (by rw [show k = nt by omega] at hno; simp [hno, b2i]))
      · have hlt : k < nt := by
          have hb1 := h.b_ta
          exact Nat.lt_of_not_le (fun z => hc10 ((nI_leI (by omega) (by omega)).mpr z))
        refine lv_aload_n hx hb dX4_hasTalk_13 rfl (lv_at hl 0 rfl) ?_
        refine g_4_0 (S := S) (x := (some (gG S 17 3))) X w h.v4 wF_X4_12 (h.f64) dX4_hasTalk_14 ?_
        refine lv_iload_n hx hb dX4_hasTalk_17 rfl (lv_at hl 3 rfl) ?_
        refine cV (S := S) (nA := 1) (As := [.int (nI k)]) (rest := []) X w hl h.l_ta.1 (m_get G S ea 3 k nt (some (gG S 9 k)) h.l_ta hlt (h.e_ta k hlt).1) wY_Jx4a65c_get_915e3 wM_X4_36 wIn_Jx4a65c_get_915e3 wSe_Jx4a65c_Jx4a65c_get_915e3 wI_Jx4a65c (by decide) rfl (by decide +kernel) rfl rfl dX4_hasTalk_18 ⟨by decide, by decide⟩ (Nat.le_of_ble_eq_true rfl) (⟨Nat.le_of_ble_eq_true rfl, Nat.le_of_ble_eq_true rfl⟩) (fun v2 S1 H locs hp w => ?_)
        obtain ⟨rfl, rfl⟩ := hp
        refine ckC (S := S) (t := 9) X w (h.e_ta k hlt).2 (by decide) rfl wC_X4_40 dX4_hasTalk_21 ?_
        refine lv_astore (lv' := [(4, .ref (gG S 9 k)), (0, .ref (gG S 4 0)), (1, .ref (gG S 8 i)), (2, .int a), (3, .int (nI k))]) hx hb dX4_hasTalk_24 hl (by decide) rfl (fun ls hl => ?_)
        refine lv_aload hx hb dX4_hasTalk_26 (lv_at hl 0 rfl) ?_
        refine g_9_1 (S := S) (x := (some (gG S 8 (st k)))) X w (h.e_ta k hlt).2 wF_X4_44 ((hst k hlt).2) dX4_hasTalk_28 ?_
        refine lv_aload_n hx hb dX4_hasTalk_31 rfl (lv_at hl 2 rfl) ?_
        refine lv_acmp_ne (rx := (some (gG S 8 (st k)))) (ry := (some (gG S 8 i))) (tgt := 46) hx hb dX4_hasTalk_32 (by decide) (fun hac => ?_) (fun hac => ?_)
        · skip
          have hs : cHas S st i a (k + 1) = false := cHas_f hno (fun z => hac (by rw [z.1]))
          refine lv_iinc (v := nI (k + 1)) (lv' := [(3, .int (nI (k + 1))), (4, .ref (gG S 9 k)), (0, .ref (gG S 4 0)), (1, .ref (gG S 8 i)), (2, .int a)]) hx hb dX4_hasTalk_46 hl (k := 4) rfl (nI_1 _) (by decide) rfl (fun ls hl => ?_)
          refine lv_goto (tgt := 2) hx hb dX4_hasTalk_49 (by decide) ?_
          exact ih2 (k + 1) _ _ _ (by omega) (by omega) (hs) w (lv_sub hl [2, 3, 4, 0] rfl)
        · skip
          have hsi : st k = i := (w.1.2 8 (st k) 8 i (h.e_st _ (hst k hlt).1).2 (h.e_st i hi).2 (Option.some.inj hac)).2
          refine lv_aload hx hb dX4_hasTalk_35 (lv_at hl 0 rfl) ?_
          refine g_9_2 (S := S) (x := (mI S 146 k)) X w (h.e_ta k hlt).2 wF_X4_48 (rfl) dX4_hasTalk_37 ?_
          refine lv_iload_n hx hb dX4_hasTalk_40 rfl (lv_at hl 3 rfl) ?_
          refine lv_icmp_ne (tgt := 46) hx hb dX4_hasTalk_41 (by decide) (fun hah => ?_) (fun hah => ?_)
          · have hs : cHas S st i a (k + 1) = false := cHas_f hno (fun z => hah z.2)
            refine lv_iinc (v := nI (k + 1)) (lv' := [(3, .int (nI (k + 1))), (4, .ref (gG S 9 k)), (0, .ref (gG S 4 0)), (1, .ref (gG S 8 i)), (2, .int a)]) hx hb dX4_hasTalk_46 hl (k := 4) rfl (nI_1 _) (by decide) rfl (fun ls hl => ?_)
            refine lv_goto (tgt := 2) hx hb dX4_hasTalk_49 (by decide) ?_
            exact ih2 (k + 1) _ _ _ (by omega) (by omega) (hs) w (lv_sub hl [2, 3, 4, 0] rfl)
          · refine lv_iconst (v := 1) hx hb dX4_hasTalk_44 (by decide) ?_
            exact rZ X w rfl dX4_hasTalk_45 (by decide) (by decide) (by decide) (pu_i (by simp [cHas_t hlt hsi hah, b2i]))
  exact L2 _ 0 _ _ _ (Nat.lt_succ_self _) (by omega) (rfl) w (lv_sub hl [1, 2, 3, 0] rfl)

theorem dX4_correctionsThatFit_0 : decode cX4_correctionsThatFit 0 = .ok (.aload_n 0, 1) := by decide +kernel
theorem dX4_correctionsThatFit_1 : decode cX4_correctionsThatFit 1 = .ok (.getfield 24, 3) := by decide +kernel
theorem dX4_correctionsThatFit_4 : decode cX4_correctionsThatFit 4 = .ok (.bipush 10, 2) := by decide +kernel
theorem dX4_correctionsThatFit_6 : decode cX4_correctionsThatFit 6 = .ok (.idiv, 1) := by decide +kernel
theorem dX4_correctionsThatFit_7 : decode cX4_correctionsThatFit 7 = .ok (.aload_n 0, 1) := by decide +kernel
theorem dX4_correctionsThatFit_8 : decode cX4_correctionsThatFit 8 = .ok (.getfield 21, 3) := by decide +kernel
theorem dX4_correctionsThatFit_11 : decode cX4_correctionsThatFit 11 = .ok (.invokevirtual 28, 3) := by decide +kernel
theorem dX4_correctionsThatFit_14 : decode cX4_correctionsThatFit 14 = .ok (.aload_n 0, 1) := by decide +kernel
theorem dX4_correctionsThatFit_15 : decode cX4_correctionsThatFit 15 = .ok (.getfield 122, 3) := by decide +kernel
theorem dX4_correctionsThatFit_18 : decode cX4_correctionsThatFit 18 = .ok (.isub, 1) := by decide +kernel
theorem dX4_correctionsThatFit_19 : decode cX4_correctionsThatFit 19 = .ok (.invokestatic 125, 3) := by decide +kernel
theorem dX4_correctionsThatFit_22 : decode cX4_correctionsThatFit 22 = .ok (.ireturn, 1) := by decide +kernel
abbrev rm_m_X4_correctionsThatFit : Room := { frames := 1, cells := 0, slots := 0, locals := 21 }
set_option maxHeartbeats 4000000 in
set_option maxRecDepth 100000 in
theorem m_X4_correctionsThatFit {s0 : State} {l : Launch} {D : va_G} {cy : Nat → ClassId} (G : Gl s0 l D cy) (S : HS) (ea ns nj nm nt nr nc : Nat) (h : CI ea S ns nj nm nt nr nc)  : Ctr s0 l D cy yX4_correctionsThatFit cX4_correctionsThatFit 1 (some .int) rm_m_X4_correctionsThatFit S [.ref (gG S 4 0)] (PU S (some (.int (sMin (mI S 69 0 / 10) (nI nc - mI S 67 0))))) := by
  refine pro "CavershamShift$Newsroom" G rfl rfl (Nat.le_of_ble_eq_true rfl) (fun p e s m below meth c ls X w hnm hl => ?_)
  have hx := X.1
  have hb := X.2.1
  have hown := X.2.2.2.1
  have hts := X.2.2.2.2.1
  have hl : lv_has ls 1 [(0, .ref (gG S 4 0))] := hl
  refine lv_aload_n hx hb dX4_correctionsThatFit_0 rfl (lv_at hl 0 rfl) ?_
  refine g_4_5 (S := S) (x := (mI S 69 0)) X w h.v4 wF_X4_24 (rfl) dX4_correctionsThatFit_1 ?_
  refine lv_bipush (v := 10) hx hb dX4_correctionsThatFit_4 (by decide) ?_
  refine lv_idiv hx hb dX4_correctionsThatFit_6 (by decide) ?_
  refine lv_aload_n hx hb dX4_correctionsThatFit_7 rfl (lv_at hl 0 rfl) ?_
  refine g_4_2 (S := S) (x := (some (gG S 17 5))) X w h.v4 wF_X4_21 (h.f66) dX4_correctionsThatFit_8 ?_
  refine cV (S := S) (nA := 0) (As := []) (rest := [.int ((mI S 69 0) / 10)]) X w hl h.l_co.1 (m_size G S ea 5 nc h.l_co) wY_Jx4a65c_size_8abf5 wM_X4_28 wIn_Jx4a65c_size_8abf5 wSe_Jx4a65c_Jx4a65c_size_8abf5 wI_Jx4a65c (by decide) rfl (by decide +kernel) rfl rfl dX4_correctionsThatFit_11 ⟨by decide, by decide⟩ (Nat.le_of_ble_eq_true rfl) (⟨Nat.le_of_ble_eq_true rfl, Nat.le_of_ble_eq_true rfl⟩) (fun v1 S1 H locs hp w => ?_)
  obtain ⟨rfl, rfl⟩ := hp
  refine lv_aload_n hx hb dX4_correctionsThatFit_14 rfl (lv_at hl 0 rfl) ?_
  refine g_4_3 (S := S) (x := (mI S 67 0)) X w h.v4 wF_X4_122 (rfl) dX4_correctionsThatFit_15 ?_
  refine lv_isub hx hb dX4_correctionsThatFit_18 ?_
  refine va_mmin hx hb (X.2.2.1.trans hl.1.symm) hown (hts _ wM_X4_125) (hts _ wSt_J9_min_7cf53) (hts _ wI_J9) (hts _ wY_J9_min_7cf53) (by decide) (Nat.le_of_ble_eq_true rfl) (Nat.le_of_ble_eq_true rfl) (Nat.le_of_ble_eq_true rfl) dX4_correctionsThatFit_19 ?_
  exact rI X w rfl dX4_correctionsThatFit_22 (by decide) (by decide) (pu_i rfl)

theorem dX4_countWaitingFor_0 : decode cX4_countWaitingFor 0 = .ok (.iconst 0, 1) := by decide +kernel
theorem dX4_countWaitingFor_1 : decode cX4_countWaitingFor 1 = .ok (.istore_n 2, 1) := by decide +kernel
theorem dX4_countWaitingFor_2 : decode cX4_countWaitingFor 2 = .ok (.iconst 0, 1) := by decide +kernel
theorem dX4_countWaitingFor_3 : decode cX4_countWaitingFor 3 = .ok (.istore_n 3, 1) := by decide +kernel
theorem dX4_countWaitingFor_4 : decode cX4_countWaitingFor 4 = .ok (.iload_n 3, 1) := by decide +kernel
theorem dX4_countWaitingFor_5 : decode cX4_countWaitingFor 5 = .ok (.aload_n 0, 1) := by decide +kernel
theorem dX4_countWaitingFor_6 : decode cX4_countWaitingFor 6 = .ok (.getfield 12, 3) := by decide +kernel
theorem dX4_countWaitingFor_9 : decode cX4_countWaitingFor 9 = .ok (.invokevirtual 28, 3) := by decide +kernel
theorem dX4_countWaitingFor_12 : decode cX4_countWaitingFor 12 = .ok (.if_icmp .ge 48, 3) := by decide +kernel
theorem dX4_countWaitingFor_15 : decode cX4_countWaitingFor 15 = .ok (.aload_n 0, 1) := by decide +kernel
theorem dX4_countWaitingFor_16 : decode cX4_countWaitingFor 16 = .ok (.getfield 12, 3) := by decide +kernel
theorem dX4_countWaitingFor_19 : decode cX4_countWaitingFor 19 = .ok (.iload_n 3, 1) := by decide +kernel
theorem dX4_countWaitingFor_20 : decode cX4_countWaitingFor 20 = .ok (.invokevirtual 36, 3) := by decide +kernel
theorem dX4_countWaitingFor_23 : decode cX4_countWaitingFor 23 = .ok (.checkcast 40, 3) := by decide +kernel
theorem dX4_countWaitingFor_26 : decode cX4_countWaitingFor 26 = .ok (.astore 4, 2) := by decide +kernel
theorem dX4_countWaitingFor_28 : decode cX4_countWaitingFor 28 = .ok (.iload_n 2, 1) := by decide +kernel
theorem dX4_countWaitingFor_29 : decode cX4_countWaitingFor 29 = .ok (.aload 4, 2) := by decide +kernel
theorem dX4_countWaitingFor_31 : decode cX4_countWaitingFor 31 = .ok (.iconst 0, 1) := by decide +kernel
theorem dX4_countWaitingFor_32 : decode cX4_countWaitingFor 32 = .ok (.invokevirtual 92, 3) := by decide +kernel
theorem dX4_countWaitingFor_35 : decode cX4_countWaitingFor 35 = .ok (.ifCond .eq 16, 3) := by decide +kernel
theorem dX4_countWaitingFor_38 : decode cX4_countWaitingFor 38 = .ok (.aload 4, 2) := by decide +kernel
theorem dX4_countWaitingFor_40 : decode cX4_countWaitingFor 40 = .ok (.aload_n 1, 1) := by decide +kernel
theorem dX4_countWaitingFor_41 : decode cX4_countWaitingFor 41 = .ok (.invokevirtual 112, 3) := by decide +kernel
theorem dX4_countWaitingFor_44 : decode cX4_countWaitingFor 44 = .ok (.ifCond .eq 7, 3) := by decide +kernel
theorem dX4_countWaitingFor_47 : decode cX4_countWaitingFor 47 = .ok (.iconst 1, 1) := by decide +kernel
theorem dX4_countWaitingFor_48 : decode cX4_countWaitingFor 48 = .ok (.goto 4, 3) := by decide +kernel
theorem dX4_countWaitingFor_51 : decode cX4_countWaitingFor 51 = .ok (.iconst 0, 1) := by decide +kernel
theorem dX4_countWaitingFor_52 : decode cX4_countWaitingFor 52 = .ok (.iadd, 1) := by decide +kernel
theorem dX4_countWaitingFor_53 : decode cX4_countWaitingFor 53 = .ok (.istore_n 2, 1) := by decide +kernel
theorem dX4_countWaitingFor_54 : decode cX4_countWaitingFor 54 = .ok (.iinc 3 1, 3) := by decide +kernel
theorem dX4_countWaitingFor_57 : decode cX4_countWaitingFor 57 = .ok (.goto (-53), 3) := by decide +kernel
theorem dX4_countWaitingFor_60 : decode cX4_countWaitingFor 60 = .ok (.iload_n 2, 1) := by decide +kernel
theorem dX4_countWaitingFor_61 : decode cX4_countWaitingFor 61 = .ok (.ireturn, 1) := by decide +kernel
theorem dX4_countTalksOf_0 : decode cX4_countTalksOf 0 = .ok (.iconst 0, 1) := by decide +kernel
theorem dX4_countTalksOf_1 : decode cX4_countTalksOf 1 = .ok (.istore_n 2, 1) := by decide +kernel
theorem dX4_countTalksOf_2 : decode cX4_countTalksOf 2 = .ok (.iconst 0, 1) := by decide +kernel
theorem dX4_countTalksOf_3 : decode cX4_countTalksOf 3 = .ok (.istore_n 3, 1) := by decide +kernel
theorem dX4_countTalksOf_4 : decode cX4_countTalksOf 4 = .ok (.iload_n 3, 1) := by decide +kernel
theorem dX4_countTalksOf_5 : decode cX4_countTalksOf 5 = .ok (.aload_n 0, 1) := by decide +kernel
theorem dX4_countTalksOf_6 : decode cX4_countTalksOf 6 = .ok (.getfield 12, 3) := by decide +kernel
theorem dX4_countTalksOf_9 : decode cX4_countTalksOf 9 = .ok (.invokevirtual 28, 3) := by decide +kernel
theorem dX4_countTalksOf_12 : decode cX4_countTalksOf 12 = .ok (.if_icmp .ge 35, 3) := by decide +kernel
theorem dX4_countTalksOf_15 : decode cX4_countTalksOf 15 = .ok (.iload_n 2, 1) := by decide +kernel
theorem dX4_countTalksOf_16 : decode cX4_countTalksOf 16 = .ok (.aload_n 0, 1) := by decide +kernel
theorem dX4_countTalksOf_17 : decode cX4_countTalksOf 17 = .ok (.getfield 12, 3) := by decide +kernel
theorem dX4_countTalksOf_20 : decode cX4_countTalksOf 20 = .ok (.iload_n 3, 1) := by decide +kernel
theorem dX4_countTalksOf_21 : decode cX4_countTalksOf 21 = .ok (.invokevirtual 36, 3) := by decide +kernel
theorem dX4_countTalksOf_24 : decode cX4_countTalksOf 24 = .ok (.checkcast 40, 3) := by decide +kernel
theorem dX4_countTalksOf_27 : decode cX4_countTalksOf 27 = .ok (.getfield 44, 3) := by decide +kernel
theorem dX4_countTalksOf_30 : decode cX4_countTalksOf 30 = .ok (.aload_n 1, 1) := by decide +kernel
theorem dX4_countTalksOf_31 : decode cX4_countTalksOf 31 = .ok (.if_acmp .ne 7, 3) := by decide +kernel
theorem dX4_countTalksOf_34 : decode cX4_countTalksOf 34 = .ok (.iconst 1, 1) := by decide +kernel
theorem dX4_countTalksOf_35 : decode cX4_countTalksOf 35 = .ok (.goto 4, 3) := by decide +kernel
theorem dX4_countTalksOf_38 : decode cX4_countTalksOf 38 = .ok (.iconst 0, 1) := by decide +kernel
theorem dX4_countTalksOf_39 : decode cX4_countTalksOf 39 = .ok (.iadd, 1) := by decide +kernel
theorem dX4_countTalksOf_40 : decode cX4_countTalksOf 40 = .ok (.istore_n 2, 1) := by decide +kernel
theorem dX4_countTalksOf_41 : decode cX4_countTalksOf 41 = .ok (.iinc 3 1, 3) := by decide +kernel
theorem dX4_countTalksOf_44 : decode cX4_countTalksOf 44 = .ok (.goto (-40), 3) := by decide +kernel
theorem dX4_countTalksOf_47 : decode cX4_countTalksOf 47 = .ok (.iload_n 2, 1) := by decide +kernel
theorem dX4_countTalksOf_48 : decode cX4_countTalksOf 48 = .ok (.ireturn, 1) := by decide +kernel
abbrev rm_m_X4_countTalksOf : Room := { frames := 3, cells := 0, slots := 0, locals := 64 }
set_option maxHeartbeats 4000000 in
set_option maxRecDepth 100000 in
theorem m_X4_countTalksOf {s0 : State} {l : Launch} {D : va_G} {cy : Nat → ClassId} (G : Gl s0 l D cy) (S : HS) (ea ns nj nm nt nr nc : Nat) (h : CI ea S ns nj nm nt nr nc) (i : Nat) (hi : i < ns) : Ctr s0 l D cy yX4_countTalksOf cX4_countTalksOf 4 (some .int) rm_m_X4_countTalksOf S [.ref (gG S 4 0), .ref (gG S 8 i)] (PXi S) := by
  refine pro "CavershamShift$Newsroom" G rfl rfl (Nat.le_of_ble_eq_true rfl) (fun p e s m below meth c ls X w hnm hl => ?_)
  have hx := X.1
  have hb := X.2.1
  have hown := X.2.2.2.1
  have hts := X.2.2.2.2.1
  have hl : lv_has ls 4 [(0, .ref (gG S 4 0)), (1, .ref (gG S 8 i))] := hl
  refine lv_iconst (v := 0) hx hb dX4_countTalksOf_0 (by decide) ?_
  refine lv_istore_n (lv' := [(2, .int 0), (0, .ref (gG S 4 0)), (1, .ref (gG S 8 i))]) hx hb dX4_countTalksOf_1 rfl hl (by decide) rfl (fun ls hl => ?_)
  refine lv_iconst (v := 0) hx hb dX4_countTalksOf_2 (by decide) ?_
  refine lv_istore_n (lv' := [(3, .int 0), (2, .int 0), (0, .ref (gG S 4 0)), (1, .ref (gG S 8 i))]) hx hb dX4_countTalksOf_3 rfl hl (by decide) rfl (fun ls hl => ?_)
  have L4 : ∀ (N : Nat) (k4 : Nat) (v4_2 : Int32) (H : Heap) (locs : List Loc) (ls : Array Slot), nt - k4 < N → (k4 ≤ nt) → Wd s0 D cy S s.heap H locs → lv_has ls 4 [(3, .int (nI k4)), (2, .int v4_2), (0, .ref (gG S 4 0)), (1, .ref (gG S 8 i))] → W p l e rm_m_X4_countTalksOf s m ([.ref (gG S 4 0), .ref (gG S 8 i)] : List Value).toArray below meth c H locs 0 0 (MQ below (GQ s0 D cy (PXi S)) ([.ref (gG S 4 0), .ref (gG S 8 i)] : List Value).toArray s rm_m_X4_countTalksOf.cells rm_m_X4_countTalksOf.slots (A0 s0)) (F0 m 4 ls []) := by
    intro N
    induction N with
    | zero => intros; omega
    | succ N ih4 =>
      intro k4 v4_2 H locs ls hmu hk_k4 w hl
      refine lv_iload_n hx hb dX4_countTalksOf_4 rfl (lv_at hl 0 rfl) ?_
      refine lv_aload_n hx hb dX4_countTalksOf_5 rfl (lv_at hl 2 rfl) ?_
      refine g_4_0 (S := S) (x := (some (gG S 17 3))) X w h.v4 wF_X4_12 (h.f64) dX4_countTalksOf_6 ?_
      refine cV (S := S) (nA := 0) (As := []) (rest := [.int (nI k4)]) X w hl h.l_ta.1 (m_size G S ea 3 nt h.l_ta) wY_Jx4a65c_size_8abf5 wM_X4_28 wIn_Jx4a65c_size_8abf5 wSe_Jx4a65c_Jx4a65c_size_8abf5 wI_Jx4a65c (by decide) rfl (by decide +kernel) rfl rfl dX4_countTalksOf_9 ⟨by decide, by decide⟩ (Nat.le_of_ble_eq_true rfl) (⟨Nat.le_of_ble_eq_true rfl, Nat.le_of_ble_eq_true rfl⟩) (fun v1 S1 H locs hp w => ?_)
      obtain ⟨rfl, rfl⟩ := hp
      refine lv_icmp_ge (tgt := 47) hx hb dX4_countTalksOf_12 (by decide) (fun hc_k4 => ?_) (fun hc_k4 => ?_)
      · have hge_k4 : nt ≤ k4 := by
          have hb1 := h.b_ta
          exact (nI_leI (a := nt) (b := k4) (by omega) (by omega)).mp hc_k4
        refine lv_iload_n hx hb dX4_countTalksOf_47 rfl (lv_at hl 1 rfl) ?_
        exact rI X w rfl dX4_countTalksOf_48 (by decide) (by decide) (px_i)
      · have hlt_k4 : k4 < nt := by
          have hb1 := h.b_ta
          exact Nat.lt_of_not_le (fun z => hc_k4 ((nI_leI (a := nt) (b := k4) (by omega) (by omega)).mpr z))
        refine lv_iload_n hx hb dX4_countTalksOf_15 rfl (lv_at hl 1 rfl) ?_
        refine lv_aload_n hx hb dX4_countTalksOf_16 rfl (lv_at hl 2 rfl) ?_
        refine g_4_0 (S := S) (x := (some (gG S 17 3))) X w h.v4 wF_X4_12 (h.f64) dX4_countTalksOf_17 ?_
        refine lv_iload_n hx hb dX4_countTalksOf_20 rfl (lv_at hl 0 rfl) ?_
        refine cV (S := S) (nA := 1) (As := [.int (nI k4)]) (rest := [.int v4_2]) X w hl h.l_ta.1 (m_get G S ea 3 k4 nt (some (gG S 9 k4)) h.l_ta hlt_k4 (h.e_ta k4 hlt_k4).1) wY_Jx4a65c_get_915e3 wM_X4_36 wIn_Jx4a65c_get_915e3 wSe_Jx4a65c_Jx4a65c_get_915e3 wI_Jx4a65c (by decide) rfl (by decide +kernel) rfl rfl dX4_countTalksOf_21 ⟨by decide, by decide⟩ (Nat.le_of_ble_eq_true rfl) (⟨Nat.le_of_ble_eq_true rfl, Nat.le_of_ble_eq_true rfl⟩) (fun v2 S1 H locs hp w => ?_)
        obtain ⟨rfl, rfl⟩ := hp
        refine ckC (S := S) (t := 9) X w (h.e_ta k4 hlt_k4).2 (by decide) rfl wC_X4_40 dX4_countTalksOf_24 ?_
        obtain ⟨i3, hli3, hei3⟩ := h.t_st k4 hlt_k4
        refine g_9_1 (S := S) (x := (some (gG S 8 i3))) X w (h.e_ta k4 hlt_k4).2 wF_X4_44 (hei3) dX4_countTalksOf_27 ?_
        refine lv_aload_n hx hb dX4_countTalksOf_30 rfl (lv_at hl 3 rfl) ?_
        refine lv_acmp_ne (rx := (some (gG S 8 i3))) (ry := (some (gG S 8 i))) (tgt := 38) hx hb dX4_countTalksOf_31 (by decide) (fun hc4 => ?_) (fun hc4 => ?_)
        · skip
          refine lv_iconst (v := 0) hx hb dX4_countTalksOf_38 (by decide) ?_
          refine lv_iadd hx hb dX4_countTalksOf_39 ?_
          refine lv_istore_n (lv' := [(2, .int (v4_2 + 0)), (3, .int (nI k4)), (0, .ref (gG S 4 0)), (1, .ref (gG S 8 i))]) hx hb dX4_countTalksOf_40 rfl hl (by decide) rfl (fun ls hl => ?_)
          refine lv_iinc (v := nI (k4 + 1)) (lv' := [(3, .int (nI (k4 + 1))), (2, .int (v4_2 + 0)), (0, .ref (gG S 4 0)), (1, .ref (gG S 8 i))]) hx hb dX4_countTalksOf_41 hl (k := 1) rfl (nI_1 _) (by decide) rfl (fun ls hl => ?_)
          refine lv_goto (tgt := 4) hx hb dX4_countTalksOf_44 (by decide) ?_
          exact ih4 (k4 + 1) (v4_2 + 0) _ _ _ (by omega) (hlt_k4) w (lv_sub hl [0, 1, 2, 3] rfl)
        · skip
          refine lv_iconst (v := 1) hx hb dX4_countTalksOf_34 (by decide) ?_
          refine lv_goto (tgt := 39) hx hb dX4_countTalksOf_35 (by decide) ?_
          refine lv_iadd hx hb dX4_countTalksOf_39 ?_
          refine lv_istore_n (lv' := [(2, .int (v4_2 + 1)), (3, .int (nI k4)), (0, .ref (gG S 4 0)), (1, .ref (gG S 8 i))]) hx hb dX4_countTalksOf_40 rfl hl (by decide) rfl (fun ls hl => ?_)
          refine lv_iinc (v := nI (k4 + 1)) (lv' := [(3, .int (nI (k4 + 1))), (2, .int (v4_2 + 1)), (0, .ref (gG S 4 0)), (1, .ref (gG S 8 i))]) hx hb dX4_countTalksOf_41 hl (k := 1) rfl (nI_1 _) (by decide) rfl (fun ls hl => ?_)
          refine lv_goto (tgt := 4) hx hb dX4_countTalksOf_44 (by decide) ?_
          exact ih4 (k4 + 1) (v4_2 + 1) _ _ _ (by omega) (hlt_k4) w (lv_sub hl [0, 1, 2, 3] rfl)
  exact L4 _ 0 0 _ _ _ (Nat.lt_succ_self _) (Nat.zero_le _) w (lv_sub hl [0, 1, 2, 3] rfl)

theorem dX4_countReportsOf_0 : decode cX4_countReportsOf 0 = .ok (.iconst 0, 1) := by decide +kernel
theorem dX4_countReportsOf_1 : decode cX4_countReportsOf 1 = .ok (.istore_n 2, 1) := by decide +kernel
theorem dX4_countReportsOf_2 : decode cX4_countReportsOf 2 = .ok (.iconst 0, 1) := by decide +kernel
theorem dX4_countReportsOf_3 : decode cX4_countReportsOf 3 = .ok (.istore_n 3, 1) := by decide +kernel
theorem dX4_countReportsOf_4 : decode cX4_countReportsOf 4 = .ok (.iload_n 3, 1) := by decide +kernel
theorem dX4_countReportsOf_5 : decode cX4_countReportsOf 5 = .ok (.aload_n 0, 1) := by decide +kernel
theorem dX4_countReportsOf_6 : decode cX4_countReportsOf 6 = .ok (.getfield 12, 3) := by decide +kernel
theorem dX4_countReportsOf_9 : decode cX4_countReportsOf 9 = .ok (.invokevirtual 28, 3) := by decide +kernel
theorem dX4_countReportsOf_12 : decode cX4_countReportsOf 12 = .ok (.if_icmp .ge 47, 3) := by decide +kernel
theorem dX4_countReportsOf_15 : decode cX4_countReportsOf 15 = .ok (.aload_n 0, 1) := by decide +kernel
theorem dX4_countReportsOf_16 : decode cX4_countReportsOf 16 = .ok (.getfield 12, 3) := by decide +kernel
theorem dX4_countReportsOf_19 : decode cX4_countReportsOf 19 = .ok (.iload_n 3, 1) := by decide +kernel
theorem dX4_countReportsOf_20 : decode cX4_countReportsOf 20 = .ok (.invokevirtual 36, 3) := by decide +kernel
theorem dX4_countReportsOf_23 : decode cX4_countReportsOf 23 = .ok (.checkcast 40, 3) := by decide +kernel
theorem dX4_countReportsOf_26 : decode cX4_countReportsOf 26 = .ok (.astore 4, 2) := by decide +kernel
theorem dX4_countReportsOf_28 : decode cX4_countReportsOf 28 = .ok (.iload_n 2, 1) := by decide +kernel
theorem dX4_countReportsOf_29 : decode cX4_countReportsOf 29 = .ok (.aload 4, 2) := by decide +kernel
theorem dX4_countReportsOf_31 : decode cX4_countReportsOf 31 = .ok (.getfield 71, 3) := by decide +kernel
theorem dX4_countReportsOf_34 : decode cX4_countReportsOf 34 = .ok (.ifnull 16, 3) := by decide +kernel
theorem dX4_countReportsOf_37 : decode cX4_countReportsOf 37 = .ok (.aload 4, 2) := by decide +kernel
theorem dX4_countReportsOf_39 : decode cX4_countReportsOf 39 = .ok (.getfield 44, 3) := by decide +kernel
theorem dX4_countReportsOf_42 : decode cX4_countReportsOf 42 = .ok (.aload_n 1, 1) := by decide +kernel
theorem dX4_countReportsOf_43 : decode cX4_countReportsOf 43 = .ok (.if_acmp .ne 7, 3) := by decide +kernel
theorem dX4_countReportsOf_46 : decode cX4_countReportsOf 46 = .ok (.iconst 1, 1) := by decide +kernel
theorem dX4_countReportsOf_47 : decode cX4_countReportsOf 47 = .ok (.goto 4, 3) := by decide +kernel
theorem dX4_countReportsOf_50 : decode cX4_countReportsOf 50 = .ok (.iconst 0, 1) := by decide +kernel
theorem dX4_countReportsOf_51 : decode cX4_countReportsOf 51 = .ok (.iadd, 1) := by decide +kernel
theorem dX4_countReportsOf_52 : decode cX4_countReportsOf 52 = .ok (.istore_n 2, 1) := by decide +kernel
theorem dX4_countReportsOf_53 : decode cX4_countReportsOf 53 = .ok (.iinc 3 1, 3) := by decide +kernel
theorem dX4_countReportsOf_56 : decode cX4_countReportsOf 56 = .ok (.goto (-52), 3) := by decide +kernel
theorem dX4_countReportsOf_59 : decode cX4_countReportsOf 59 = .ok (.iload_n 2, 1) := by decide +kernel
theorem dX4_countReportsOf_60 : decode cX4_countReportsOf 60 = .ok (.ireturn, 1) := by decide +kernel
abbrev rm_m_X4_countReportsOf : Room := { frames := 3, cells := 0, slots := 0, locals := 64 }
set_option maxHeartbeats 4000000 in
set_option maxRecDepth 100000 in
theorem m_X4_countReportsOf {s0 : State} {l : Launch} {D : va_G} {cy : Nat → ClassId} (G : Gl s0 l D cy) (S : HS) (ea ns nj nm nt nr nc : Nat) (h : CI ea S ns nj nm nt nr nc) (i : Nat) (hi : i < ns) : Ctr s0 l D cy yX4_countReportsOf cX4_countReportsOf 5 (some .int) rm_m_X4_countReportsOf S [.ref (gG S 4 0), .ref (gG S 8 i)] (PXi S) := by
  refine pro "CavershamShift$Newsroom" G rfl rfl (Nat.le_of_ble_eq_true rfl) (fun p e s m below meth c ls X w hnm hl => ?_)
  have hx := X.1
  have hb := X.2.1
  have hown := X.2.2.2.1
  have hts := X.2.2.2.2.1
  have hl : lv_has ls 5 [(0, .ref (gG S 4 0)), (1, .ref (gG S 8 i))] := hl
  refine lv_iconst (v := 0) hx hb dX4_countReportsOf_0 (by decide) ?_
  refine lv_istore_n (lv' := [(2, .int 0), (0, .ref (gG S 4 0)), (1, .ref (gG S 8 i))]) hx hb dX4_countReportsOf_1 rfl hl (by decide) rfl (fun ls hl => ?_)
  refine lv_iconst (v := 0) hx hb dX4_countReportsOf_2 (by decide) ?_
  refine lv_istore_n (lv' := [(3, .int 0), (2, .int 0), (0, .ref (gG S 4 0)), (1, .ref (gG S 8 i))]) hx hb dX4_countReportsOf_3 rfl hl (by decide) rfl (fun ls hl => ?_)
  have L4 : ∀ (N : Nat) (k4 : Nat) (v4_2 : Int32) (H : Heap) (locs : List Loc) (ls : Array Slot), nt - k4 < N → (k4 ≤ nt) → Wd s0 D cy S s.heap H locs → lv_has ls 5 [(3, .int (nI k4)), (2, .int v4_2), (0, .ref (gG S 4 0)), (1, .ref (gG S 8 i))] → W p l e rm_m_X4_countReportsOf s m ([.ref (gG S 4 0), .ref (gG S 8 i)] : List Value).toArray below meth c H locs 0 0 (MQ below (GQ s0 D cy (PXi S)) ([.ref (gG S 4 0), .ref (gG S 8 i)] : List Value).toArray s rm_m_X4_countReportsOf.cells rm_m_X4_countReportsOf.slots (A0 s0)) (F0 m 4 ls []) := by
    intro N
    induction N with
    | zero => intros; omega
    | succ N ih4 =>
      intro k4 v4_2 H locs ls hmu hk_k4 w hl
      refine lv_iload_n hx hb dX4_countReportsOf_4 rfl (lv_at hl 0 rfl) ?_
      refine lv_aload_n hx hb dX4_countReportsOf_5 rfl (lv_at hl 2 rfl) ?_
      refine g_4_0 (S := S) (x := (some (gG S 17 3))) X w h.v4 wF_X4_12 (h.f64) dX4_countReportsOf_6 ?_
      refine cV (S := S) (nA := 0) (As := []) (rest := [.int (nI k4)]) X w hl h.l_ta.1 (m_size G S ea 3 nt h.l_ta) wY_Jx4a65c_size_8abf5 wM_X4_28 wIn_Jx4a65c_size_8abf5 wSe_Jx4a65c_Jx4a65c_size_8abf5 wI_Jx4a65c (by decide) rfl (by decide +kernel) rfl rfl dX4_countReportsOf_9 ⟨by decide, by decide⟩ (Nat.le_of_ble_eq_true rfl) (⟨Nat.le_of_ble_eq_true rfl, Nat.le_of_ble_eq_true rfl⟩) (fun v1 S1 H locs hp w => ?_)
      obtain ⟨rfl, rfl⟩ := hp
      refine lv_icmp_ge (tgt := 59) hx hb dX4_countReportsOf_12 (by decide) (fun hc_k4 => ?_) (fun hc_k4 => ?_)
      · have hge_k4 : nt ≤ k4 := by
          have hb1 := h.b_ta
          exact (nI_leI (a := nt) (b := k4) (by omega) (by omega)).mp hc_k4
        refine lv_iload_n hx hb dX4_countReportsOf_59 rfl (lv_at hl 1 rfl) ?_
        exact rI X w rfl dX4_countReportsOf_60 (by decide) (by decide) (px_i)
      · have hlt_k4 : k4 < nt := by
          have hb1 := h.b_ta
          exact Nat.lt_of_not_le (fun z => hc_k4 ((nI_leI (a := nt) (b := k4) (by omega) (by omega)).mpr z))
        refine lv_aload_n hx hb dX4_countReportsOf_15 rfl (lv_at hl 2 rfl) ?_
        refine g_4_0 (S := S) (x := (some (gG S 17 3))) X w h.v4 wF_X4_12 (h.f64) dX4_countReportsOf_16 ?_
        refine lv_iload_n hx hb dX4_countReportsOf_19 rfl (lv_at hl 0 rfl) ?_
        refine cV (S := S) (nA := 1) (As := [.int (nI k4)]) (rest := []) X w hl h.l_ta.1 (m_get G S ea 3 k4 nt (some (gG S 9 k4)) h.l_ta hlt_k4 (h.e_ta k4 hlt_k4).1) wY_Jx4a65c_get_915e3 wM_X4_36 wIn_Jx4a65c_get_915e3 wSe_Jx4a65c_Jx4a65c_get_915e3 wI_Jx4a65c (by decide) rfl (by decide +kernel) rfl rfl dX4_countReportsOf_20 ⟨by decide, by decide⟩ (Nat.le_of_ble_eq_true rfl) (⟨Nat.le_of_ble_eq_true rfl, Nat.le_of_ble_eq_true rfl⟩) (fun v2 S1 H locs hp w => ?_)
        obtain ⟨rfl, rfl⟩ := hp
        refine ckC (S := S) (t := 9) X w (h.e_ta k4 hlt_k4).2 (by decide) rfl wC_X4_40 dX4_countReportsOf_23 ?_
        refine lv_astore (lv' := [(4, .ref (gG S 9 k4)), (3, .int (nI k4)), (2, .int v4_2), (0, .ref (gG S 4 0)), (1, .ref (gG S 8 i))]) hx hb dX4_countReportsOf_26 hl (by decide) rfl (fun ls hl => ?_)
        refine lv_iload_n hx hb dX4_countReportsOf_28 rfl (lv_at hl 2 rfl) ?_
        refine lv_aload hx hb dX4_countReportsOf_29 (lv_at hl 0 rfl) ?_
        have J51 : ∀ (z51_1 : Bool) (H : Heap) (locs : List Loc) (ls : Array Slot), Wd s0 D cy S s.heap H locs → lv_has ls 5 [(4, .ref (gG S 9 k4)), (3, .int (nI k4)), (2, .int v4_2), (0, .ref (gG S 4 0)), (1, .ref (gG S 8 i))] → W p l e rm_m_X4_countReportsOf s m ([.ref (gG S 4 0), .ref (gG S 8 i)] : List Value).toArray below meth c H locs 0 0 (MQ below (GQ s0 D cy (PXi S)) ([.ref (gG S 4 0), .ref (gG S 8 i)] : List Value).toArray s rm_m_X4_countReportsOf.cells rm_m_X4_countReportsOf.slots (A0 s0)) (F0 m 51 ls [.int (b2i z51_1), .int v4_2]) := by
          intro z51_1 H locs ls  w hl
          refine lv_iadd hx hb dX4_countReportsOf_51 ?_
          refine lv_istore_n (lv' := [(2, .int (v4_2 + (b2i z51_1))), (4, .ref (gG S 9 k4)), (3, .int (nI k4)), (0, .ref (gG S 4 0)), (1, .ref (gG S 8 i))]) hx hb dX4_countReportsOf_52 rfl hl (by decide) rfl (fun ls hl => ?_)
          refine lv_iinc (v := nI (k4 + 1)) (lv' := [(3, .int (nI (k4 + 1))), (2, .int (v4_2 + (b2i z51_1))), (4, .ref (gG S 9 k4)), (0, .ref (gG S 4 0)), (1, .ref (gG S 8 i))]) hx hb dX4_countReportsOf_53 hl (k := 2) rfl (nI_1 _) (by decide) rfl (fun ls hl => ?_)
          refine lv_goto (tgt := 4) hx hb dX4_countReportsOf_56 (by decide) ?_
          exact ih4 (k4 + 1) (v4_2 + (b2i z51_1)) _ _ _ (by omega) (hlt_k4) w (lv_sub hl [0, 1, 3, 4] rfl)
        rcases h.t_rp k4 hlt_k4 with her3 | ⟨her3, hvr3⟩
        · refine g_9_8 (S := S) (x := none) X w (h.e_ta k4 hlt_k4).2 wF_X4_71 (her3) dX4_countReportsOf_31 ?_
          refine lv_ifnullN (tgt := 50) hx hb dX4_countReportsOf_34 (by decide) ?_
          refine lv_iconst (v := 0) hx hb dX4_countReportsOf_50 (by decide) ?_
          exact J51 false _ _ _  w (lv_sub hl [0, 1, 2, 3, 4] rfl)
        · refine g_9_8 (S := S) (x := (some (gG S 6 k4))) X w (h.e_ta k4 hlt_k4).2 wF_X4_71 (her3) dX4_countReportsOf_31 ?_
          refine lv_ifnull hx hb dX4_countReportsOf_34 ?_
          refine lv_aload hx hb dX4_countReportsOf_37 (lv_at hl 0 rfl) ?_
          obtain ⟨i4, hli4, hei4⟩ := h.t_st k4 hlt_k4
          refine g_9_1 (S := S) (x := (some (gG S 8 i4))) X w (h.e_ta k4 hlt_k4).2 wF_X4_44 (hei4) dX4_countReportsOf_39 ?_
          refine lv_aload_n hx hb dX4_countReportsOf_42 rfl (lv_at hl 4 rfl) ?_
          refine lv_acmp_ne (rx := (some (gG S 8 i4))) (ry := (some (gG S 8 i))) (tgt := 50) hx hb dX4_countReportsOf_43 (by decide) (fun hc5 => ?_) (fun hc5 => ?_)
          · skip
            refine lv_iconst (v := 0) hx hb dX4_countReportsOf_50 (by decide) ?_
            exact J51 false _ _ _  w (lv_sub hl [0, 1, 2, 3, 4] rfl)
          · skip
            refine lv_iconst (v := 1) hx hb dX4_countReportsOf_46 (by decide) ?_
            refine lv_goto (tgt := 51) hx hb dX4_countReportsOf_47 (by decide) ?_
            exact J51 true _ _ _  w (lv_sub hl [0, 1, 2, 3, 4] rfl)
  exact L4 _ 0 0 _ _ _ (Nat.lt_succ_self _) (Nat.zero_le _) w (lv_sub hl [0, 1, 2, 3] rfl)

theorem dX4_countReportsBy_0 : decode cX4_countReportsBy 0 = .ok (.iconst 0, 1) := by decide +kernel
theorem dX4_countReportsBy_1 : decode cX4_countReportsBy 1 = .ok (.istore_n 2, 1) := by decide +kernel
theorem dX4_countReportsBy_2 : decode cX4_countReportsBy 2 = .ok (.iconst 0, 1) := by decide +kernel
theorem dX4_countReportsBy_3 : decode cX4_countReportsBy 3 = .ok (.istore_n 3, 1) := by decide +kernel
theorem dX4_countReportsBy_4 : decode cX4_countReportsBy 4 = .ok (.iload_n 3, 1) := by decide +kernel
theorem dX4_countReportsBy_5 : decode cX4_countReportsBy 5 = .ok (.aload_n 0, 1) := by decide +kernel
theorem dX4_countReportsBy_6 : decode cX4_countReportsBy 6 = .ok (.getfield 12, 3) := by decide +kernel
theorem dX4_countReportsBy_9 : decode cX4_countReportsBy 9 = .ok (.invokevirtual 28, 3) := by decide +kernel
theorem dX4_countReportsBy_12 : decode cX4_countReportsBy 12 = .ok (.if_icmp .ge 50, 3) := by decide +kernel
theorem dX4_countReportsBy_15 : decode cX4_countReportsBy 15 = .ok (.aload_n 0, 1) := by decide +kernel
theorem dX4_countReportsBy_16 : decode cX4_countReportsBy 16 = .ok (.getfield 12, 3) := by decide +kernel
theorem dX4_countReportsBy_19 : decode cX4_countReportsBy 19 = .ok (.iload_n 3, 1) := by decide +kernel
theorem dX4_countReportsBy_20 : decode cX4_countReportsBy 20 = .ok (.invokevirtual 36, 3) := by decide +kernel
theorem dX4_countReportsBy_23 : decode cX4_countReportsBy 23 = .ok (.checkcast 40, 3) := by decide +kernel
theorem dX4_countReportsBy_26 : decode cX4_countReportsBy 26 = .ok (.getfield 71, 3) := by decide +kernel
theorem dX4_countReportsBy_29 : decode cX4_countReportsBy 29 = .ok (.astore 4, 2) := by decide +kernel
theorem dX4_countReportsBy_31 : decode cX4_countReportsBy 31 = .ok (.iload_n 2, 1) := by decide +kernel
theorem dX4_countReportsBy_32 : decode cX4_countReportsBy 32 = .ok (.aload 4, 2) := by decide +kernel
theorem dX4_countReportsBy_34 : decode cX4_countReportsBy 34 = .ok (.ifnull 19, 3) := by decide +kernel
theorem dX4_countReportsBy_37 : decode cX4_countReportsBy 37 = .ok (.aload 4, 2) := by decide +kernel
theorem dX4_countReportsBy_39 : decode cX4_countReportsBy 39 = .ok (.getfield 142, 3) := by decide +kernel
theorem dX4_countReportsBy_42 : decode cX4_countReportsBy 42 = .ok (.aload_n 1, 1) := by decide +kernel
theorem dX4_countReportsBy_43 : decode cX4_countReportsBy 43 = .ok (.getfield 145, 3) := by decide +kernel
theorem dX4_countReportsBy_46 : decode cX4_countReportsBy 46 = .ok (.if_icmp .ne 7, 3) := by decide +kernel
theorem dX4_countReportsBy_49 : decode cX4_countReportsBy 49 = .ok (.iconst 1, 1) := by decide +kernel
theorem dX4_countReportsBy_50 : decode cX4_countReportsBy 50 = .ok (.goto 4, 3) := by decide +kernel
theorem dX4_countReportsBy_53 : decode cX4_countReportsBy 53 = .ok (.iconst 0, 1) := by decide +kernel
theorem dX4_countReportsBy_54 : decode cX4_countReportsBy 54 = .ok (.iadd, 1) := by decide +kernel
theorem dX4_countReportsBy_55 : decode cX4_countReportsBy 55 = .ok (.istore_n 2, 1) := by decide +kernel
theorem dX4_countReportsBy_56 : decode cX4_countReportsBy 56 = .ok (.iinc 3 1, 3) := by decide +kernel
theorem dX4_countReportsBy_59 : decode cX4_countReportsBy 59 = .ok (.goto (-55), 3) := by decide +kernel
theorem dX4_countReportsBy_62 : decode cX4_countReportsBy 62 = .ok (.iload_n 2, 1) := by decide +kernel
theorem dX4_countReportsBy_63 : decode cX4_countReportsBy 63 = .ok (.ireturn, 1) := by decide +kernel
abbrev rm_m_X4_countReportsBy : Room := { frames := 3, cells := 0, slots := 0, locals := 64 }
set_option maxHeartbeats 4000000 in
set_option maxRecDepth 100000 in
theorem m_X4_countReportsBy {s0 : State} {l : Launch} {D : va_G} {cy : Nat → ClassId} (G : Gl s0 l D cy) (S : HS) (ea ns nj nm nt nr nc : Nat) (h : CI ea S ns nj nm nt nr nc) (mo : Nat) (hmo : mo < nm) : Ctr s0 l D cy yX4_countReportsBy cX4_countReportsBy 5 (some .int) rm_m_X4_countReportsBy S [.ref (gG S 4 0), .ref (gG S 3 mo)] (PXi S) := by
  refine pro "CavershamShift$Newsroom" G rfl rfl (Nat.le_of_ble_eq_true rfl) (fun p e s m below meth c ls X w hnm hl => ?_)
  have hx := X.1
  have hb := X.2.1
  have hown := X.2.2.2.1
  have hts := X.2.2.2.2.1
  have hl : lv_has ls 5 [(0, .ref (gG S 4 0)), (1, .ref (gG S 3 mo))] := hl
  refine lv_iconst (v := 0) hx hb dX4_countReportsBy_0 (by decide) ?_
  refine lv_istore_n (lv' := [(2, .int 0), (0, .ref (gG S 4 0)), (1, .ref (gG S 3 mo))]) hx hb dX4_countReportsBy_1 rfl hl (by decide) rfl (fun ls hl => ?_)
  refine lv_iconst (v := 0) hx hb dX4_countReportsBy_2 (by decide) ?_
  refine lv_istore_n (lv' := [(3, .int 0), (2, .int 0), (0, .ref (gG S 4 0)), (1, .ref (gG S 3 mo))]) hx hb dX4_countReportsBy_3 rfl hl (by decide) rfl (fun ls hl => ?_)
  have L4 : ∀ (N : Nat) (k4 : Nat) (v4_2 : Int32) (H : Heap) (locs : List Loc) (ls : Array Slot), nt - k4 < N → (k4 ≤ nt) → Wd s0 D cy S s.heap H locs → lv_has ls 5 [(3, .int (nI k4)), (2, .int v4_2), (0, .ref (gG S 4 0)), (1, .ref (gG S 3 mo))] → W p l e rm_m_X4_countReportsBy s m ([.ref (gG S 4 0), .ref (gG S 3 mo)] : List Value).toArray below meth c H locs 0 0 (MQ below (GQ s0 D cy (PXi S)) ([.ref (gG S 4 0), .ref (gG S 3 mo)] : List Value).toArray s rm_m_X4_countReportsBy.cells rm_m_X4_countReportsBy.slots (A0 s0)) (F0 m 4 ls []) := by
    intro N
    induction N with
    | zero => intros; omega
    | succ N ih4 =>
      intro k4 v4_2 H locs ls hmu hk_k4 w hl
      refine lv_iload_n hx hb dX4_countReportsBy_4 rfl (lv_at hl 0 rfl) ?_
      refine lv_aload_n hx hb dX4_countReportsBy_5 rfl (lv_at hl 2 rfl) ?_
      refine g_4_0 (S := S) (x := (some (gG S 17 3))) X w h.v4 wF_X4_12 (h.f64) dX4_countReportsBy_6 ?_
      refine cV (S := S) (nA := 0) (As := []) (rest := [.int (nI k4)]) X w hl h.l_ta.1 (m_size G S ea 3 nt h.l_ta) wY_Jx4a65c_size_8abf5 wM_X4_28 wIn_Jx4a65c_size_8abf5 wSe_Jx4a65c_Jx4a65c_size_8abf5 wI_Jx4a65c (by decide) rfl (by decide +kernel) rfl rfl dX4_countReportsBy_9 ⟨by decide, by decide⟩ (Nat.le_of_ble_eq_true rfl) (⟨Nat.le_of_ble_eq_true rfl, Nat.le_of_ble_eq_true rfl⟩) (fun v1 S1 H locs hp w => ?_)
      obtain ⟨rfl, rfl⟩ := hp
      refine lv_icmp_ge (tgt := 62) hx hb dX4_countReportsBy_12 (by decide) (fun hc_k4 => ?_) (fun hc_k4 => ?_)
      · have hge_k4 : nt ≤ k4 := by
          have hb1 := h.b_ta
          exact (nI_leI (a := nt) (b := k4) (by omega) (by omega)).mp hc_k4
        refine lv_iload_n hx hb dX4_countReportsBy_62 rfl (lv_at hl 1 rfl) ?_
        exact rI X w rfl dX4_countReportsBy_63 (by decide) (by decide) (px_i)
      · have hlt_k4 : k4 < nt := by
          have hb1 := h.b_ta
          exact Nat.lt_of_not_le (fun z => hc_k4 ((nI_leI (a := nt) (b := k4) (by omega) (by omega)).mpr z))
        refine lv_aload_n hx hb dX4_countReportsBy_15 rfl (lv_at hl 2 rfl) ?_
        refine g_4_0 (S := S) (x := (some (gG S 17 3))) X w h.v4 wF_X4_12 (h.f64) dX4_countReportsBy_16 ?_
        refine lv_iload_n hx hb dX4_countReportsBy_19 rfl (lv_at hl 0 rfl) ?_
        refine cV (S := S) (nA := 1) (As := [.int (nI k4)]) (rest := []) X w hl h.l_ta.1 (m_get G S ea 3 k4 nt (some (gG S 9 k4)) h.l_ta hlt_k4 (h.e_ta k4 hlt_k4).1) wY_Jx4a65c_get_915e3 wM_X4_36 wIn_Jx4a65c_get_915e3 wSe_Jx4a65c_Jx4a65c_get_915e3 wI_Jx4a65c (by decide) rfl (by decide +kernel) rfl rfl dX4_countReportsBy_20 ⟨by decide, by decide⟩ (Nat.le_of_ble_eq_true rfl) (⟨Nat.le_of_ble_eq_true rfl, Nat.le_of_ble_eq_true rfl⟩) (fun v2 S1 H locs hp w => ?_)
        obtain ⟨rfl, rfl⟩ := hp
        refine ckC (S := S) (t := 9) X w (h.e_ta k4 hlt_k4).2 (by decide) rfl wC_X4_40 dX4_countReportsBy_23 ?_
        have J54 : ∀ (z54_1 : Bool) (H : Heap) (locs : List Loc) (ls : Array Slot), Wd s0 D cy S s.heap H locs → lv_has ls 5 [(3, .int (nI k4)), (2, .int v4_2), (0, .ref (gG S 4 0)), (1, .ref (gG S 3 mo))] → W p l e rm_m_X4_countReportsBy s m ([.ref (gG S 4 0), .ref (gG S 3 mo)] : List Value).toArray below meth c H locs 0 0 (MQ below (GQ s0 D cy (PXi S)) ([.ref (gG S 4 0), .ref (gG S 3 mo)] : List Value).toArray s rm_m_X4_countReportsBy.cells rm_m_X4_countReportsBy.slots (A0 s0)) (F0 m 54 ls [.int (b2i z54_1), .int v4_2]) := by
          intro z54_1 H locs ls  w hl
          refine lv_iadd hx hb dX4_countReportsBy_54 ?_
          refine lv_istore_n (lv' := [(2, .int (v4_2 + (b2i z54_1))), (3, .int (nI k4)), (0, .ref (gG S 4 0)), (1, .ref (gG S 3 mo))]) hx hb dX4_countReportsBy_55 rfl hl (by decide) rfl (fun ls hl => ?_)
          refine lv_iinc (v := nI (k4 + 1)) (lv' := [(3, .int (nI (k4 + 1))), (2, .int (v4_2 + (b2i z54_1))), (0, .ref (gG S 4 0)), (1, .ref (gG S 3 mo))]) hx hb dX4_countReportsBy_56 hl (k := 1) rfl (nI_1 _) (by decide) rfl (fun ls hl => ?_)
          refine lv_goto (tgt := 4) hx hb dX4_countReportsBy_59 (by decide) ?_
          exact ih4 (k4 + 1) (v4_2 + (b2i z54_1)) _ _ _ (by omega) (hlt_k4) w (lv_sub hl [0, 1, 2, 3] rfl)
        rcases h.t_rp k4 hlt_k4 with her3 | ⟨her3, hvr3⟩
        · refine g_9_8 (S := S) (x := none) X w (h.e_ta k4 hlt_k4).2 wF_X4_71 (her3) dX4_countReportsBy_26 ?_
          refine lv_astoreN (lv' := [(4, .null), (3, .int (nI k4)), (2, .int v4_2), (0, .ref (gG S 4 0)), (1, .ref (gG S 3 mo))]) hx hb dX4_countReportsBy_29 hl (by decide) rfl (fun ls hl => ?_)
          refine lv_iload_n hx hb dX4_countReportsBy_31 rfl (lv_at hl 2 rfl) ?_
          refine lv_aloadN hx hb dX4_countReportsBy_32 (lv_at hl 0 rfl) ?_
          refine lv_ifnullN (tgt := 53) hx hb dX4_countReportsBy_34 (by decide) ?_
          refine lv_iconst (v := 0) hx hb dX4_countReportsBy_53 (by decide) ?_
          exact J54 false _ _ _  w (lv_sub hl [1, 2, 3, 4] rfl)
        · refine g_9_8 (S := S) (x := (some (gG S 6 k4))) X w (h.e_ta k4 hlt_k4).2 wF_X4_71 (her3) dX4_countReportsBy_26 ?_
          refine lv_astore (lv' := [(4, .ref (gG S 6 k4)), (3, .int (nI k4)), (2, .int v4_2), (0, .ref (gG S 4 0)), (1, .ref (gG S 3 mo))]) hx hb dX4_countReportsBy_29 hl (by decide) rfl (fun ls hl => ?_)
          refine lv_iload_n hx hb dX4_countReportsBy_31 rfl (lv_at hl 2 rfl) ?_
          refine lv_aload hx hb dX4_countReportsBy_32 (lv_at hl 0 rfl) ?_
          refine lv_ifnull hx hb dX4_countReportsBy_34 ?_
          refine lv_aload hx hb dX4_countReportsBy_37 (lv_at hl 0 rfl) ?_
          refine g_6_6 (S := S) (x := (mI S 102 k4)) X w hvr3 wF_X4_142 (rfl) dX4_countReportsBy_39 ?_
          refine lv_aload_n hx hb dX4_countReportsBy_42 rfl (lv_at hl 4 rfl) ?_
          refine g_3_0 (S := S) (x := (mI S 48 mo)) X w (h.e_mo mo hmo).2 wF_X4_145 (rfl) dX4_countReportsBy_43 ?_
          refine lv_icmp_ne (tgt := 53) hx hb dX4_countReportsBy_46 (by decide) (fun hc4 => ?_) (fun hc4 => ?_)
          · refine lv_iconst (v := 0) hx hb dX4_countReportsBy_53 (by decide) ?_
            exact J54 false _ _ _  w (lv_sub hl [1, 2, 3, 4] rfl)
          · refine lv_iconst (v := 1) hx hb dX4_countReportsBy_49 (by decide) ?_
            refine lv_goto (tgt := 54) hx hb dX4_countReportsBy_50 (by decide) ?_
            exact J54 true _ _ _  w (lv_sub hl [1, 2, 3, 4] rfl)
  exact L4 _ 0 0 _ _ _ (Nat.lt_succ_self _) (Nat.zero_le _) w (lv_sub hl [0, 1, 2, 3] rfl)

theorem dX4_countReports_0 : decode cX4_countReports 0 = .ok (.iconst 0, 1) := by decide +kernel
theorem dX4_countReports_1 : decode cX4_countReports 1 = .ok (.istore_n 1, 1) := by decide +kernel
theorem dX4_countReports_2 : decode cX4_countReports 2 = .ok (.iconst 0, 1) := by decide +kernel
theorem dX4_countReports_3 : decode cX4_countReports 3 = .ok (.istore_n 2, 1) := by decide +kernel
theorem dX4_countReports_4 : decode cX4_countReports 4 = .ok (.iload_n 2, 1) := by decide +kernel
theorem dX4_countReports_5 : decode cX4_countReports 5 = .ok (.aload_n 0, 1) := by decide +kernel
theorem dX4_countReports_6 : decode cX4_countReports 6 = .ok (.getfield 12, 3) := by decide +kernel
theorem dX4_countReports_9 : decode cX4_countReports 9 = .ok (.invokevirtual 28, 3) := by decide +kernel
theorem dX4_countReports_12 : decode cX4_countReports 12 = .ok (.if_icmp .ge 34, 3) := by decide +kernel
theorem dX4_countReports_15 : decode cX4_countReports 15 = .ok (.iload_n 1, 1) := by decide +kernel
theorem dX4_countReports_16 : decode cX4_countReports 16 = .ok (.aload_n 0, 1) := by decide +kernel
theorem dX4_countReports_17 : decode cX4_countReports 17 = .ok (.getfield 12, 3) := by decide +kernel
theorem dX4_countReports_20 : decode cX4_countReports 20 = .ok (.iload_n 2, 1) := by decide +kernel
theorem dX4_countReports_21 : decode cX4_countReports 21 = .ok (.invokevirtual 36, 3) := by decide +kernel
theorem dX4_countReports_24 : decode cX4_countReports 24 = .ok (.checkcast 40, 3) := by decide +kernel
theorem dX4_countReports_27 : decode cX4_countReports 27 = .ok (.getfield 71, 3) := by decide +kernel
theorem dX4_countReports_30 : decode cX4_countReports 30 = .ok (.ifnull 7, 3) := by decide +kernel
theorem dX4_countReports_33 : decode cX4_countReports 33 = .ok (.iconst 1, 1) := by decide +kernel
theorem dX4_countReports_34 : decode cX4_countReports 34 = .ok (.goto 4, 3) := by decide +kernel
theorem dX4_countReports_37 : decode cX4_countReports 37 = .ok (.iconst 0, 1) := by decide +kernel
theorem dX4_countReports_38 : decode cX4_countReports 38 = .ok (.iadd, 1) := by decide +kernel
theorem dX4_countReports_39 : decode cX4_countReports 39 = .ok (.istore_n 1, 1) := by decide +kernel
theorem dX4_countReports_40 : decode cX4_countReports 40 = .ok (.iinc 2 1, 3) := by decide +kernel
theorem dX4_countReports_43 : decode cX4_countReports 43 = .ok (.goto (-39), 3) := by decide +kernel
theorem dX4_countReports_46 : decode cX4_countReports 46 = .ok (.iload_n 1, 1) := by decide +kernel
theorem dX4_countReports_47 : decode cX4_countReports 47 = .ok (.ireturn, 1) := by decide +kernel
abbrev rm_m_X4_countReports : Room := { frames := 3, cells := 0, slots := 0, locals := 64 }
set_option maxHeartbeats 4000000 in
set_option maxRecDepth 100000 in
theorem m_X4_countReports {s0 : State} {l : Launch} {D : va_G} {cy : Nat → ClassId} (G : Gl s0 l D cy) (S : HS) (ea ns nj nm nt nr nc : Nat) (h : CI ea S ns nj nm nt nr nc)  : Ctr s0 l D cy yX4_countReports cX4_countReports 3 (some .int) rm_m_X4_countReports S [.ref (gG S 4 0)] (PXi S) := by
  refine pro "CavershamShift$Newsroom" G rfl rfl (Nat.le_of_ble_eq_true rfl) (fun p e s m below meth c ls X w hnm hl => ?_)
  have hx := X.1
  have hb := X.2.1
  have hown := X.2.2.2.1
  have hts := X.2.2.2.2.1
  have hl : lv_has ls 3 [(0, .ref (gG S 4 0))] := hl
  refine lv_iconst (v := 0) hx hb dX4_countReports_0 (by decide) ?_
  refine lv_istore_n (lv' := [(1, .int 0), (0, .ref (gG S 4 0))]) hx hb dX4_countReports_1 rfl hl (by decide) rfl (fun ls hl => ?_)
  refine lv_iconst (v := 0) hx hb dX4_countReports_2 (by decide) ?_
  refine lv_istore_n (lv' := [(2, .int 0), (1, .int 0), (0, .ref (gG S 4 0))]) hx hb dX4_countReports_3 rfl hl (by decide) rfl (fun ls hl => ?_)
  have L4 : ∀ (N : Nat) (k4 : Nat) (v4_1 : Int32) (H : Heap) (locs : List Loc) (ls : Array Slot), nt - k4 < N → (k4 ≤ nt) → Wd s0 D cy S s.heap H locs → lv_has ls 3 [(2, .int (nI k4)), (1, .int v4_1), (0, .ref (gG S 4 0))] → W p l e rm_m_X4_countReports s m ([.ref (gG S 4 0)] : List Value).toArray below meth c H locs 0 0 (MQ below (GQ s0 D cy (PXi S)) ([.ref (gG S 4 0)] : List Value).toArray s rm_m_X4_countReports.cells rm_m_X4_countReports.slots (A0 s0)) (F0 m 4 ls []) := by
    intro N
    induction N with
    | zero => intros; omega
    | succ N ih4 =>
      intro k4 v4_1 H locs ls hmu hk_k4 w hl
      refine lv_iload_n hx hb dX4_countReports_4 rfl (lv_at hl 0 rfl) ?_
      refine lv_aload_n hx hb dX4_countReports_5 rfl (lv_at hl 2 rfl) ?_
      refine g_4_0 (S := S) (x := (some (gG S 17 3))) X w h.v4 wF_X4_12 (h.f64) dX4_countReports_6 ?_
      refine cV (S := S) (nA := 0) (As := []) (rest := [.int (nI k4)]) X w hl h.l_ta.1 (m_size G S ea 3 nt h.l_ta) wY_Jx4a65c_size_8abf5 wM_X4_28 wIn_Jx4a65c_size_8abf5 wSe_Jx4a65c_Jx4a65c_size_8abf5 wI_Jx4a65c (by decide) rfl (by decide +kernel) rfl rfl dX4_countReports_9 ⟨by decide, by decide⟩ (Nat.le_of_ble_eq_true rfl) (⟨Nat.le_of_ble_eq_true rfl, Nat.le_of_ble_eq_true rfl⟩) (fun v1 S1 H locs hp w => ?_)
      obtain ⟨rfl, rfl⟩ := hp
      refine lv_icmp_ge (tgt := 46) hx hb dX4_countReports_12 (by decide) (fun hc_k4 => ?_) (fun hc_k4 => ?_)
      · have hge_k4 : nt ≤ k4 := by
          have hb1 := h.b_ta
          exact (nI_leI (a := nt) (b := k4) (by omega) (by omega)).mp hc_k4
        refine lv_iload_n hx hb dX4_countReports_46 rfl (lv_at hl 1 rfl) ?_
        exact rI X w rfl dX4_countReports_47 (by decide) (by decide) (px_i)
      · have hlt_k4 : k4 < nt := by
          have hb1 := h.b_ta
          exact Nat.lt_of_not_le (fun z => hc_k4 ((nI_leI (a := nt) (b := k4) (by omega) (by omega)).mpr z))
        refine lv_iload_n hx hb dX4_countReports_15 rfl (lv_at hl 1 rfl) ?_
        refine lv_aload_n hx hb dX4_countReports_16 rfl (lv_at hl 2 rfl) ?_
        refine g_4_0 (S := S) (x := (some (gG S 17 3))) X w h.v4 wF_X4_12 (h.f64) dX4_countReports_17 ?_
        refine lv_iload_n hx hb dX4_countReports_20 rfl (lv_at hl 0 rfl) ?_
        refine cV (S := S) (nA := 1) (As := [.int (nI k4)]) (rest := [.int v4_1]) X w hl h.l_ta.1 (m_get G S ea 3 k4 nt (some (gG S 9 k4)) h.l_ta hlt_k4 (h.e_ta k4 hlt_k4).1) wY_Jx4a65c_get_915e3 wM_X4_36 wIn_Jx4a65c_get_915e3 wSe_Jx4a65c_Jx4a65c_get_915e3 wI_Jx4a65c (by decide) rfl (by decide +kernel) rfl rfl dX4_countReports_21 ⟨by decide, by decide⟩ (Nat.le_of_ble_eq_true rfl) (⟨Nat.le_of_ble_eq_true rfl, Nat.le_of_ble_eq_true rfl⟩) (fun v2 S1 H locs hp w => ?_)
        obtain ⟨rfl, rfl⟩ := hp
        refine ckC (S := S) (t := 9) X w (h.e_ta k4 hlt_k4).2 (by decide) rfl wC_X4_40 dX4_countReports_24 ?_
        have J38 : ∀ (z38_1 : Bool) (H : Heap) (locs : List Loc) (ls : Array Slot), Wd s0 D cy S s.heap H locs → lv_has ls 3 [(2, .int (nI k4)), (1, .int v4_1), (0, .ref (gG S 4 0))] → W p l e rm_m_X4_countReports s m ([.ref (gG S 4 0)] : List Value).toArray below meth c H locs 0 0 (MQ below (GQ s0 D cy (PXi S)) ([.ref (gG S 4 0)] : List Value).toArray s rm_m_X4_countReports.cells rm_m_X4_countReports.slots (A0 s0)) (F0 m 38 ls [.int (b2i z38_1), .int v4_1]) := by
          intro z38_1 H locs ls  w hl
          refine lv_iadd hx hb dX4_countReports_38 ?_
          refine lv_istore_n (lv' := [(1, .int (v4_1 + (b2i z38_1))), (2, .int (nI k4)), (0, .ref (gG S 4 0))]) hx hb dX4_countReports_39 rfl hl (by decide) rfl (fun ls hl => ?_)
          refine lv_iinc (v := nI (k4 + 1)) (lv' := [(2, .int (nI (k4 + 1))), (1, .int (v4_1 + (b2i z38_1))), (0, .ref (gG S 4 0))]) hx hb dX4_countReports_40 hl (k := 1) rfl (nI_1 _) (by decide) rfl (fun ls hl => ?_)
          refine lv_goto (tgt := 4) hx hb dX4_countReports_43 (by decide) ?_
          exact ih4 (k4 + 1) (v4_1 + (b2i z38_1)) _ _ _ (by omega) (hlt_k4) w (lv_sub hl [0, 1, 2] rfl)
        rcases h.t_rp k4 hlt_k4 with her3 | ⟨her3, hvr3⟩
        · refine g_9_8 (S := S) (x := none) X w (h.e_ta k4 hlt_k4).2 wF_X4_71 (her3) dX4_countReports_27 ?_
          refine lv_ifnullN (tgt := 37) hx hb dX4_countReports_30 (by decide) ?_
          refine lv_iconst (v := 0) hx hb dX4_countReports_37 (by decide) ?_
          exact J38 false _ _ _  w (lv_sub hl [0, 1, 2] rfl)
        · refine g_9_8 (S := S) (x := (some (gG S 6 k4))) X w (h.e_ta k4 hlt_k4).2 wF_X4_71 (her3) dX4_countReports_27 ?_
          refine lv_ifnull hx hb dX4_countReports_30 ?_
          refine lv_iconst (v := 1) hx hb dX4_countReports_33 (by decide) ?_
          refine lv_goto (tgt := 38) hx hb dX4_countReports_34 (by decide) ?_
          exact J38 true _ _ _  w (lv_sub hl [0, 1, 2] rfl)
  exact L4 _ 0 0 _ _ _ (Nat.lt_succ_self _) (Nat.zero_le _) w (lv_sub hl [0, 1, 2] rfl)

theorem dX4_countThatStand_0 : decode cX4_countThatStand 0 = .ok (.iconst 0, 1) := by decide +kernel
theorem dX4_countThatStand_1 : decode cX4_countThatStand 1 = .ok (.istore_n 2, 1) := by decide +kernel
theorem dX4_countThatStand_2 : decode cX4_countThatStand 2 = .ok (.iconst 0, 1) := by decide +kernel
theorem dX4_countThatStand_3 : decode cX4_countThatStand 3 = .ok (.istore_n 3, 1) := by decide +kernel
theorem dX4_countThatStand_4 : decode cX4_countThatStand 4 = .ok (.iload_n 3, 1) := by decide +kernel
theorem dX4_countThatStand_5 : decode cX4_countThatStand 5 = .ok (.aload_n 0, 1) := by decide +kernel
theorem dX4_countThatStand_6 : decode cX4_countThatStand 6 = .ok (.getfield 12, 3) := by decide +kernel
theorem dX4_countThatStand_9 : decode cX4_countThatStand 9 = .ok (.invokevirtual 28, 3) := by decide +kernel
theorem dX4_countThatStand_12 : decode cX4_countThatStand 12 = .ok (.if_icmp .ge 35, 3) := by decide +kernel
theorem dX4_countThatStand_15 : decode cX4_countThatStand 15 = .ok (.iload_n 2, 1) := by decide +kernel
theorem dX4_countThatStand_16 : decode cX4_countThatStand 16 = .ok (.aload_n 0, 1) := by decide +kernel
theorem dX4_countThatStand_17 : decode cX4_countThatStand 17 = .ok (.getfield 12, 3) := by decide +kernel
theorem dX4_countThatStand_20 : decode cX4_countThatStand 20 = .ok (.iload_n 3, 1) := by decide +kernel
theorem dX4_countThatStand_21 : decode cX4_countThatStand 21 = .ok (.invokevirtual 36, 3) := by decide +kernel
theorem dX4_countThatStand_24 : decode cX4_countThatStand 24 = .ok (.checkcast 40, 3) := by decide +kernel
theorem dX4_countThatStand_27 : decode cX4_countThatStand 27 = .ok (.iload_n 1, 1) := by decide +kernel
theorem dX4_countThatStand_28 : decode cX4_countThatStand 28 = .ok (.invokevirtual 92, 3) := by decide +kernel
theorem dX4_countThatStand_31 : decode cX4_countThatStand 31 = .ok (.ifCond .eq 7, 3) := by decide +kernel
theorem dX4_countThatStand_34 : decode cX4_countThatStand 34 = .ok (.iconst 1, 1) := by decide +kernel
theorem dX4_countThatStand_35 : decode cX4_countThatStand 35 = .ok (.goto 4, 3) := by decide +kernel
theorem dX4_countThatStand_38 : decode cX4_countThatStand 38 = .ok (.iconst 0, 1) := by decide +kernel
theorem dX4_countThatStand_39 : decode cX4_countThatStand 39 = .ok (.iadd, 1) := by decide +kernel
theorem dX4_countThatStand_40 : decode cX4_countThatStand 40 = .ok (.istore_n 2, 1) := by decide +kernel
theorem dX4_countThatStand_41 : decode cX4_countThatStand 41 = .ok (.iinc 3 1, 3) := by decide +kernel
theorem dX4_countThatStand_44 : decode cX4_countThatStand 44 = .ok (.goto (-40), 3) := by decide +kernel
theorem dX4_countThatStand_47 : decode cX4_countThatStand 47 = .ok (.iload_n 2, 1) := by decide +kernel
theorem dX4_countThatStand_48 : decode cX4_countThatStand 48 = .ok (.ireturn, 1) := by decide +kernel
abbrev rm_m_X4_countThatStand : Room := { frames := 3, cells := 0, slots := 0, locals := 64 }
set_option maxHeartbeats 4000000 in
set_option maxRecDepth 100000 in
theorem m_X4_countThatStand {s0 : State} {l : Launch} {D : va_G} {cy : Nat → ClassId} (G : Gl s0 l D cy) (S : HS) (ea ns nj nm nt nr nc : Nat) (h : CI ea S ns nj nm nt nr nc) (a : Int32) : Ctr s0 l D cy yX4_countThatStand cX4_countThatStand 4 (some .int) rm_m_X4_countThatStand S [.ref (gG S 4 0), .int a] (PXi S) := by
  refine pro "CavershamShift$Newsroom" G rfl rfl (Nat.le_of_ble_eq_true rfl) (fun p e s m below meth c ls X w hnm hl => ?_)
  have hx := X.1
  have hb := X.2.1
  have hown := X.2.2.2.1
  have hts := X.2.2.2.2.1
  have hl : lv_has ls 4 [(0, .ref (gG S 4 0)), (1, .int a)] := hl
  refine lv_iconst (v := 0) hx hb dX4_countThatStand_0 (by decide) ?_
  refine lv_istore_n (lv' := [(2, .int 0), (0, .ref (gG S 4 0)), (1, .int a)]) hx hb dX4_countThatStand_1 rfl hl (by decide) rfl (fun ls hl => ?_)
  refine lv_iconst (v := 0) hx hb dX4_countThatStand_2 (by decide) ?_
  refine lv_istore_n (lv' := [(3, .int 0), (2, .int 0), (0, .ref (gG S 4 0)), (1, .int a)]) hx hb dX4_countThatStand_3 rfl hl (by decide) rfl (fun ls hl => ?_)
  have L4 : ∀ (N : Nat) (k4 : Nat) (v4_2 : Int32) (H : Heap) (locs : List Loc) (ls : Array Slot), nt - k4 < N → (k4 ≤ nt) → Wd s0 D cy S s.heap H locs → lv_has ls 4 [(3, .int (nI k4)), (2, .int v4_2), (0, .ref (gG S 4 0)), (1, .int a)] → W p l e rm_m_X4_countThatStand s m ([.ref (gG S 4 0), .int a] : List Value).toArray below meth c H locs 0 0 (MQ below (GQ s0 D cy (PXi S)) ([.ref (gG S 4 0), .int a] : List Value).toArray s rm_m_X4_countThatStand.cells rm_m_X4_countThatStand.slots (A0 s0)) (F0 m 4 ls []) := by
    intro N
    induction N with
    | zero => intros; omega
    | succ N ih4 =>
      intro k4 v4_2 H locs ls hmu hk_k4 w hl
      refine lv_iload_n hx hb dX4_countThatStand_4 rfl (lv_at hl 0 rfl) ?_
      refine lv_aload_n hx hb dX4_countThatStand_5 rfl (lv_at hl 2 rfl) ?_
      refine g_4_0 (S := S) (x := (some (gG S 17 3))) X w h.v4 wF_X4_12 (h.f64) dX4_countThatStand_6 ?_
      refine cV (S := S) (nA := 0) (As := []) (rest := [.int (nI k4)]) X w hl h.l_ta.1 (m_size G S ea 3 nt h.l_ta) wY_Jx4a65c_size_8abf5 wM_X4_28 wIn_Jx4a65c_size_8abf5 wSe_Jx4a65c_Jx4a65c_size_8abf5 wI_Jx4a65c (by decide) rfl (by decide +kernel) rfl rfl dX4_countThatStand_9 ⟨by decide, by decide⟩ (Nat.le_of_ble_eq_true rfl) (⟨Nat.le_of_ble_eq_true rfl, Nat.le_of_ble_eq_true rfl⟩) (fun v1 S1 H locs hp w => ?_)
      obtain ⟨rfl, rfl⟩ := hp
      refine lv_icmp_ge (tgt := 47) hx hb dX4_countThatStand_12 (by decide) (fun hc_k4 => ?_) (fun hc_k4 => ?_)
      · have hge_k4 : nt ≤ k4 := by
          have hb1 := h.b_ta
          exact (nI_leI (a := nt) (b := k4) (by omega) (by omega)).mp hc_k4
        refine lv_iload_n hx hb dX4_countThatStand_47 rfl (lv_at hl 1 rfl) ?_
        exact rI X w rfl dX4_countThatStand_48 (by decide) (by decide) (px_i)
      · have hlt_k4 : k4 < nt := by
          have hb1 := h.b_ta
          exact Nat.lt_of_not_le (fun z => hc_k4 ((nI_leI (a := nt) (b := k4) (by omega) (by omega)).mpr z))
        refine lv_iload_n hx hb dX4_countThatStand_15 rfl (lv_at hl 1 rfl) ?_
        refine lv_aload_n hx hb dX4_countThatStand_16 rfl (lv_at hl 2 rfl) ?_
        refine g_4_0 (S := S) (x := (some (gG S 17 3))) X w h.v4 wF_X4_12 (h.f64) dX4_countThatStand_17 ?_
        refine lv_iload_n hx hb dX4_countThatStand_20 rfl (lv_at hl 0 rfl) ?_
        refine cV (S := S) (nA := 1) (As := [.int (nI k4)]) (rest := [.int v4_2]) X w hl h.l_ta.1 (m_get G S ea 3 k4 nt (some (gG S 9 k4)) h.l_ta hlt_k4 (h.e_ta k4 hlt_k4).1) wY_Jx4a65c_get_915e3 wM_X4_36 wIn_Jx4a65c_get_915e3 wSe_Jx4a65c_Jx4a65c_get_915e3 wI_Jx4a65c (by decide) rfl (by decide +kernel) rfl rfl dX4_countThatStand_21 ⟨by decide, by decide⟩ (Nat.le_of_ble_eq_true rfl) (⟨Nat.le_of_ble_eq_true rfl, Nat.le_of_ble_eq_true rfl⟩) (fun v2 S1 H locs hp w => ?_)
        obtain ⟨rfl, rfl⟩ := hp
        refine ckC (S := S) (t := 9) X w (h.e_ta k4 hlt_k4).2 (by decide) rfl wC_X4_40 dX4_countThatStand_24 ?_
        refine lv_iload_n hx hb dX4_countThatStand_27 rfl (lv_at hl 3 rfl) ?_
        refine cV (S := S) (nA := 1) (As := [.int a]) (rest := [.int v4_2]) X w hl (h.e_ta k4 hlt_k4).2 (m_X9_hasReportThatStands G S ea ns nj nm nt nr nc h k4 hlt_k4 a) wY_X9_hasReportThatStands wM_X4_92 wIn_X9_hasReportThatStands wSe_X9_X9_hasReportThatStands wI_X9 (by decide) rfl (by decide +kernel) rfl rfl dX4_countThatStand_28 ⟨by decide, by decide⟩ (Nat.le_of_ble_eq_true rfl) (⟨Nat.le_of_ble_eq_true rfl, Nat.le_of_ble_eq_true rfl⟩) (fun v3 S1 H locs hp w => ?_)
        obtain ⟨rfl, rfl⟩ := hp
        have J39 : ∀ (z39_1 : Bool) (H : Heap) (locs : List Loc) (ls : Array Slot), Wd s0 D cy S s.heap H locs → lv_has ls 4 [(3, .int (nI k4)), (2, .int v4_2), (0, .ref (gG S 4 0)), (1, .int a)] → W p l e rm_m_X4_countThatStand s m ([.ref (gG S 4 0), .int a] : List Value).toArray below meth c H locs 0 0 (MQ below (GQ s0 D cy (PXi S)) ([.ref (gG S 4 0), .int a] : List Value).toArray s rm_m_X4_countThatStand.cells rm_m_X4_countThatStand.slots (A0 s0)) (F0 m 39 ls [.int (b2i z39_1), .int v4_2]) := by
          intro z39_1 H locs ls  w hl
          refine lv_iadd hx hb dX4_countThatStand_39 ?_
          refine lv_istore_n (lv' := [(2, .int (v4_2 + (b2i z39_1))), (3, .int (nI k4)), (0, .ref (gG S 4 0)), (1, .int a)]) hx hb dX4_countThatStand_40 rfl hl (by decide) rfl (fun ls hl => ?_)
          refine lv_iinc (v := nI (k4 + 1)) (lv' := [(3, .int (nI (k4 + 1))), (2, .int (v4_2 + (b2i z39_1))), (0, .ref (gG S 4 0)), (1, .int a)]) hx hb dX4_countThatStand_41 hl (k := 1) rfl (nI_1 _) (by decide) rfl (fun ls hl => ?_)
          refine lv_goto (tgt := 4) hx hb dX4_countThatStand_44 (by decide) ?_
          exact ih4 (k4 + 1) (v4_2 + (b2i z39_1)) _ _ _ (by omega) (hlt_k4) w (lv_sub hl [0, 1, 2, 3] rfl)
        refine lv_if_eq (tgt := 38) hx hb dX4_countThatStand_31 (by decide) (fun hc4 => ?_) (fun hc4 => ?_)
        · refine lv_iconst (v := 0) hx hb dX4_countThatStand_38 (by decide) ?_
          exact J39 false _ _ _  w (lv_sub hl [0, 1, 2, 3] rfl)
        · refine lv_iconst (v := 1) hx hb dX4_countThatStand_34 (by decide) ?_
          refine lv_goto (tgt := 39) hx hb dX4_countThatStand_35 (by decide) ?_
          exact J39 true _ _ _  w (lv_sub hl [0, 1, 2, 3] rfl)
  exact L4 _ 0 0 _ _ _ (Nat.lt_succ_self _) (Nat.zero_le _) w (lv_sub hl [0, 1, 2, 3] rfl)

theorem dX4_countReached_0 : decode cX4_countReached 0 = .ok (.iconst 0, 1) := by decide +kernel
theorem dX4_countReached_1 : decode cX4_countReached 1 = .ok (.istore_n 3, 1) := by decide +kernel
theorem dX4_countReached_2 : decode cX4_countReached 2 = .ok (.iconst 0, 1) := by decide +kernel
theorem dX4_countReached_3 : decode cX4_countReached 3 = .ok (.istore 4, 2) := by decide +kernel
theorem dX4_countReached_5 : decode cX4_countReached 5 = .ok (.iload 4, 2) := by decide +kernel
theorem dX4_countReached_7 : decode cX4_countReached 7 = .ok (.aload_n 0, 1) := by decide +kernel
theorem dX4_countReached_8 : decode cX4_countReached 8 = .ok (.getfield 12, 3) := by decide +kernel
theorem dX4_countReached_11 : decode cX4_countReached 11 = .ok (.invokevirtual 28, 3) := by decide +kernel
theorem dX4_countReached_14 : decode cX4_countReached 14 = .ok (.if_icmp .ge 37, 3) := by decide +kernel
theorem dX4_countReached_17 : decode cX4_countReached 17 = .ok (.iload_n 3, 1) := by decide +kernel
theorem dX4_countReached_18 : decode cX4_countReached 18 = .ok (.aload_n 0, 1) := by decide +kernel
theorem dX4_countReached_19 : decode cX4_countReached 19 = .ok (.getfield 12, 3) := by decide +kernel
theorem dX4_countReached_22 : decode cX4_countReached 22 = .ok (.iload 4, 2) := by decide +kernel
theorem dX4_countReached_24 : decode cX4_countReached 24 = .ok (.invokevirtual 36, 3) := by decide +kernel
theorem dX4_countReached_27 : decode cX4_countReached 27 = .ok (.checkcast 40, 3) := by decide +kernel
theorem dX4_countReached_30 : decode cX4_countReached 30 = .ok (.aload_n 1, 1) := by decide +kernel
theorem dX4_countReached_31 : decode cX4_countReached 31 = .ok (.invokevirtual 150, 3) := by decide +kernel
theorem dX4_countReached_34 : decode cX4_countReached 34 = .ok (.iload_n 2, 1) := by decide +kernel
theorem dX4_countReached_35 : decode cX4_countReached 35 = .ok (.if_icmp .lt 7, 3) := by decide +kernel
theorem dX4_countReached_38 : decode cX4_countReached 38 = .ok (.iconst 1, 1) := by decide +kernel
theorem dX4_countReached_39 : decode cX4_countReached 39 = .ok (.goto 4, 3) := by decide +kernel
theorem dX4_countReached_42 : decode cX4_countReached 42 = .ok (.iconst 0, 1) := by decide +kernel
theorem dX4_countReached_43 : decode cX4_countReached 43 = .ok (.iadd, 1) := by decide +kernel
theorem dX4_countReached_44 : decode cX4_countReached 44 = .ok (.istore_n 3, 1) := by decide +kernel
theorem dX4_countReached_45 : decode cX4_countReached 45 = .ok (.iinc 4 1, 3) := by decide +kernel
theorem dX4_countReached_48 : decode cX4_countReached 48 = .ok (.goto (-43), 3) := by decide +kernel
theorem dX4_countReached_51 : decode cX4_countReached 51 = .ok (.iload_n 3, 1) := by decide +kernel
theorem dX4_countReached_52 : decode cX4_countReached 52 = .ok (.ireturn, 1) := by decide +kernel
abbrev rm_m_X4_countReached : Room := { frames := 3, cells := 0, slots := 0, locals := 64 }
set_option maxHeartbeats 4000000 in
set_option maxRecDepth 100000 in
theorem m_X4_countReached {s0 : State} {l : Launch} {D : va_G} {cy : Nat → ClassId} (G : Gl s0 l D cy) (S : HS) (ea ns nj nm nt nr nc : Nat) (h : CI ea S ns nj nm nt nr nc) (r : Nat) (hr : r < nr) (a : Int32) : Ctr s0 l D cy yX4_countReached cX4_countReached 5 (some .int) rm_m_X4_countReached S [.ref (gG S 4 0), .ref (gG S 5 r), .int a] (PXi S) := by
  refine pro "CavershamShift$Newsroom" G rfl rfl (Nat.le_of_ble_eq_true rfl) (fun p e s m below meth c ls X w hnm hl => ?_)
  have hx := X.1
  have hb := X.2.1
  have hown := X.2.2.2.1
  have hts := X.2.2.2.2.1
  have hl : lv_has ls 5 [(0, .ref (gG S 4 0)), (1, .ref (gG S 5 r)), (2, .int a)] := hl
  refine lv_iconst (v := 0) hx hb dX4_countReached_0 (by decide) ?_
  refine lv_istore_n (lv' := [(3, .int 0), (0, .ref (gG S 4 0)), (1, .ref (gG S 5 r)), (2, .int a)]) hx hb dX4_countReached_1 rfl hl (by decide) rfl (fun ls hl => ?_)
  refine lv_iconst (v := 0) hx hb dX4_countReached_2 (by decide) ?_
  refine lv_istore (lv' := [(4, .int 0), (3, .int 0), (0, .ref (gG S 4 0)), (1, .ref (gG S 5 r)), (2, .int a)]) hx hb dX4_countReached_3 hl (by decide) rfl (fun ls hl => ?_)
  have L5 : ∀ (N : Nat) (k5 : Nat) (v5_3 : Int32) (H : Heap) (locs : List Loc) (ls : Array Slot), nt - k5 < N → (k5 ≤ nt) → Wd s0 D cy S s.heap H locs → lv_has ls 5 [(4, .int (nI k5)), (3, .int v5_3), (0, .ref (gG S 4 0)), (1, .ref (gG S 5 r)), (2, .int a)] → W p l e rm_m_X4_countReached s m ([.ref (gG S 4 0), .ref (gG S 5 r), .int a] : List Value).toArray below meth c H locs 0 0 (MQ below (GQ s0 D cy (PXi S)) ([.ref (gG S 4 0), .ref (gG S 5 r), .int a] : List Value).toArray s rm_m_X4_countReached.cells rm_m_X4_countReached.slots (A0 s0)) (F0 m 5 ls []) := by
    intro N
    induction N with
    | zero => intros; omega
    | succ N ih5 =>
      intro k5 v5_3 H locs ls hmu hk_k5 w hl
      refine lv_iload hx hb dX4_countReached_5 (lv_at hl 0 rfl) ?_
      refine lv_aload_n hx hb dX4_countReached_7 rfl (lv_at hl 2 rfl) ?_
      refine g_4_0 (S := S) (x := (some (gG S 17 3))) X w h.v4 wF_X4_12 (h.f64) dX4_countReached_8 ?_
      refine cV (S := S) (nA := 0) (As := []) (rest := [.int (nI k5)]) X w hl h.l_ta.1 (m_size G S ea 3 nt h.l_ta) wY_Jx4a65c_size_8abf5 wM_X4_28 wIn_Jx4a65c_size_8abf5 wSe_Jx4a65c_Jx4a65c_size_8abf5 wI_Jx4a65c (by decide) rfl (by decide +kernel) rfl rfl dX4_countReached_11 ⟨by decide, by decide⟩ (Nat.le_of_ble_eq_true rfl) (⟨Nat.le_of_ble_eq_true rfl, Nat.le_of_ble_eq_true rfl⟩) (fun v1 S1 H locs hp w => ?_)
      obtain ⟨rfl, rfl⟩ := hp
      refine lv_icmp_ge (tgt := 51) hx hb dX4_countReached_14 (by decide) (fun hc_k5 => ?_) (fun hc_k5 => ?_)
      · have hge_k5 : nt ≤ k5 := by
          have hb1 := h.b_ta
          exact (nI_leI (a := nt) (b := k5) (by omega) (by omega)).mp hc_k5
        refine lv_iload_n hx hb dX4_countReached_51 rfl (lv_at hl 1 rfl) ?_
        exact rI X w rfl dX4_countReached_52 (by decide) (by decide) (px_i)
      · have hlt_k5 : k5 < nt := by
          have hb1 := h.b_ta
          exact Nat.lt_of_not_le (fun z => hc_k5 ((nI_leI (a := nt) (b := k5) (by omega) (by omega)).mpr z))
        refine lv_iload_n hx hb dX4_countReached_17 rfl (lv_at hl 1 rfl) ?_
        refine lv_aload_n hx hb dX4_countReached_18 rfl (lv_at hl 2 rfl) ?_
        refine g_4_0 (S := S) (x := (some (gG S 17 3))) X w h.v4 wF_X4_12 (h.f64) dX4_countReached_19 ?_
        refine lv_iload hx hb dX4_countReached_22 (lv_at hl 0 rfl) ?_
        refine cV (S := S) (nA := 1) (As := [.int (nI k5)]) (rest := [.int v5_3]) X w hl h.l_ta.1 (m_get G S ea 3 k5 nt (some (gG S 9 k5)) h.l_ta hlt_k5 (h.e_ta k5 hlt_k5).1) wY_Jx4a65c_get_915e3 wM_X4_36 wIn_Jx4a65c_get_915e3 wSe_Jx4a65c_Jx4a65c_get_915e3 wI_Jx4a65c (by decide) rfl (by decide +kernel) rfl rfl dX4_countReached_24 ⟨by decide, by decide⟩ (Nat.le_of_ble_eq_true rfl) (⟨Nat.le_of_ble_eq_true rfl, Nat.le_of_ble_eq_true rfl⟩) (fun v2 S1 H locs hp w => ?_)
        obtain ⟨rfl, rfl⟩ := hp
        refine ckC (S := S) (t := 9) X w (h.e_ta k5 hlt_k5).2 (by decide) rfl wC_X4_40 dX4_countReached_27 ?_
        refine lv_aload_n hx hb dX4_countReached_30 rfl (lv_at hl 3 rfl) ?_
        refine cV (S := S) (nA := 1) (As := [.ref (gG S 5 r)]) (rest := [.int v5_3]) X w hl (h.e_ta k5 hlt_k5).2 (m_X9_reached G S ea ns nj nm nt nr nc h k5 hlt_k5 r hr) wY_X9_reached wM_X4_150 wIn_X9_reached wSe_X9_X9_reached wI_X9 (by decide) rfl (by decide +kernel) rfl rfl dX4_countReached_31 ⟨by decide, by decide⟩ (Nat.le_of_ble_eq_true rfl) (⟨Nat.le_of_ble_eq_true rfl, Nat.le_of_ble_eq_true rfl⟩) (fun v4 S1 H locs hp w => ?_)
        obtain ⟨⟨x3, rfl⟩, rfl⟩ := hp
        refine lv_iload_n hx hb dX4_countReached_34 rfl (lv_at hl 4 rfl) ?_
        have J43 : ∀ (z43_1 : Bool) (H : Heap) (locs : List Loc) (ls : Array Slot), Wd s0 D cy S s.heap H locs → lv_has ls 5 [(4, .int (nI k5)), (3, .int v5_3), (0, .ref (gG S 4 0)), (1, .ref (gG S 5 r)), (2, .int a)] → W p l e rm_m_X4_countReached s m ([.ref (gG S 4 0), .ref (gG S 5 r), .int a] : List Value).toArray below meth c H locs 0 0 (MQ below (GQ s0 D cy (PXi S)) ([.ref (gG S 4 0), .ref (gG S 5 r), .int a] : List Value).toArray s rm_m_X4_countReached.cells rm_m_X4_countReached.slots (A0 s0)) (F0 m 43 ls [.int (b2i z43_1), .int v5_3]) := by
          intro z43_1 H locs ls  w hl
          refine lv_iadd hx hb dX4_countReached_43 ?_
          refine lv_istore_n (lv' := [(3, .int (v5_3 + (b2i z43_1))), (4, .int (nI k5)), (0, .ref (gG S 4 0)), (1, .ref (gG S 5 r)), (2, .int a)]) hx hb dX4_countReached_44 rfl hl (by decide) rfl (fun ls hl => ?_)
          refine lv_iinc (v := nI (k5 + 1)) (lv' := [(4, .int (nI (k5 + 1))), (3, .int (v5_3 + (b2i z43_1))), (0, .ref (gG S 4 0)), (1, .ref (gG S 5 r)), (2, .int a)]) hx hb dX4_countReached_45 hl (k := 1) rfl (nI_1 _) (by decide) rfl (fun ls hl => ?_)
          refine lv_goto (tgt := 5) hx hb dX4_countReached_48 (by decide) ?_
          exact ih5 (k5 + 1) (v5_3 + (b2i z43_1)) _ _ _ (by omega) (hlt_k5) w (lv_sub hl [0, 1, 2, 3, 4] rfl)
        refine lv_icmp_lt (tgt := 42) hx hb dX4_countReached_35 (by decide) (fun hc5 => ?_) (fun hc5 => ?_)
        · refine lv_iconst (v := 0) hx hb dX4_countReached_42 (by decide) ?_
          exact J43 false _ _ _  w (lv_sub hl [0, 1, 2, 3, 4] rfl)
        · refine lv_iconst (v := 1) hx hb dX4_countReached_38 (by decide) ?_
          refine lv_goto (tgt := 43) hx hb dX4_countReached_39 (by decide) ?_
          exact J43 true _ _ _  w (lv_sub hl [0, 1, 2, 3, 4] rfl)
  exact L5 _ 0 0 _ _ _ (Nat.lt_succ_self _) (Nat.zero_le _) w (lv_sub hl [0, 1, 2, 3, 4] rfl)

theorem dX4_countMisled_0 : decode cX4_countMisled 0 = .ok (.iconst 0, 1) := by decide +kernel
theorem dX4_countMisled_1 : decode cX4_countMisled 1 = .ok (.istore_n 2, 1) := by decide +kernel
theorem dX4_countMisled_2 : decode cX4_countMisled 2 = .ok (.iconst 0, 1) := by decide +kernel
theorem dX4_countMisled_3 : decode cX4_countMisled 3 = .ok (.istore_n 3, 1) := by decide +kernel
theorem dX4_countMisled_4 : decode cX4_countMisled 4 = .ok (.iload_n 3, 1) := by decide +kernel
theorem dX4_countMisled_5 : decode cX4_countMisled 5 = .ok (.aload_n 0, 1) := by decide +kernel
theorem dX4_countMisled_6 : decode cX4_countMisled 6 = .ok (.getfield 12, 3) := by decide +kernel
theorem dX4_countMisled_9 : decode cX4_countMisled 9 = .ok (.invokevirtual 28, 3) := by decide +kernel
theorem dX4_countMisled_12 : decode cX4_countMisled 12 = .ok (.if_icmp .ge 48, 3) := by decide +kernel
theorem dX4_countMisled_15 : decode cX4_countMisled 15 = .ok (.aload_n 0, 1) := by decide +kernel
theorem dX4_countMisled_16 : decode cX4_countMisled 16 = .ok (.getfield 12, 3) := by decide +kernel
theorem dX4_countMisled_19 : decode cX4_countMisled 19 = .ok (.iload_n 3, 1) := by decide +kernel
theorem dX4_countMisled_20 : decode cX4_countMisled 20 = .ok (.invokevirtual 36, 3) := by decide +kernel
theorem dX4_countMisled_23 : decode cX4_countMisled 23 = .ok (.checkcast 40, 3) := by decide +kernel
theorem dX4_countMisled_26 : decode cX4_countMisled 26 = .ok (.astore 4, 2) := by decide +kernel
theorem dX4_countMisled_28 : decode cX4_countMisled 28 = .ok (.iload_n 2, 1) := by decide +kernel
theorem dX4_countMisled_29 : decode cX4_countMisled 29 = .ok (.aload 4, 2) := by decide +kernel
theorem dX4_countMisled_31 : decode cX4_countMisled 31 = .ok (.invokevirtual 134, 3) := by decide +kernel
theorem dX4_countMisled_34 : decode cX4_countMisled 34 = .ok (.ifCond .eq 17, 3) := by decide +kernel
theorem dX4_countMisled_37 : decode cX4_countMisled 37 = .ok (.aload 4, 2) := by decide +kernel
theorem dX4_countMisled_39 : decode cX4_countMisled 39 = .ok (.aload_n 1, 1) := by decide +kernel
theorem dX4_countMisled_40 : decode cX4_countMisled 40 = .ok (.invokevirtual 150, 3) := by decide +kernel
theorem dX4_countMisled_43 : decode cX4_countMisled 43 = .ok (.iconst 1, 1) := by decide +kernel
theorem dX4_countMisled_44 : decode cX4_countMisled 44 = .ok (.if_icmp .ne 7, 3) := by decide +kernel
theorem dX4_countMisled_47 : decode cX4_countMisled 47 = .ok (.iconst 1, 1) := by decide +kernel
theorem dX4_countMisled_48 : decode cX4_countMisled 48 = .ok (.goto 4, 3) := by decide +kernel
theorem dX4_countMisled_51 : decode cX4_countMisled 51 = .ok (.iconst 0, 1) := by decide +kernel
theorem dX4_countMisled_52 : decode cX4_countMisled 52 = .ok (.iadd, 1) := by decide +kernel
theorem dX4_countMisled_53 : decode cX4_countMisled 53 = .ok (.istore_n 2, 1) := by decide +kernel
theorem dX4_countMisled_54 : decode cX4_countMisled 54 = .ok (.iinc 3 1, 3) := by decide +kernel
theorem dX4_countMisled_57 : decode cX4_countMisled 57 = .ok (.goto (-53), 3) := by decide +kernel
theorem dX4_countMisled_60 : decode cX4_countMisled 60 = .ok (.iload_n 2, 1) := by decide +kernel
theorem dX4_countMisled_61 : decode cX4_countMisled 61 = .ok (.ireturn, 1) := by decide +kernel
abbrev rm_m_X4_countMisled : Room := { frames := 3, cells := 0, slots := 0, locals := 64 }
set_option maxHeartbeats 4000000 in
set_option maxRecDepth 100000 in
theorem m_X4_countMisled {s0 : State} {l : Launch} {D : va_G} {cy : Nat → ClassId} (G : Gl s0 l D cy) (S : HS) (ea ns nj nm nt nr nc : Nat) (h : CI ea S ns nj nm nt nr nc) (r : Nat) (hr : r < nr) : Ctr s0 l D cy yX4_countMisled cX4_countMisled 5 (some .int) rm_m_X4_countMisled S [.ref (gG S 4 0), .ref (gG S 5 r)] (PXi S) := by
  refine pro "CavershamShift$Newsroom" G rfl rfl (Nat.le_of_ble_eq_true rfl) (fun p e s m below meth c ls X w hnm hl => ?_)
  have hx := X.1
  have hb := X.2.1
  have hown := X.2.2.2.1
  have hts := X.2.2.2.2.1
  have hl : lv_has ls 5 [(0, .ref (gG S 4 0)), (1, .ref (gG S 5 r))] := hl
  refine lv_iconst (v := 0) hx hb dX4_countMisled_0 (by decide) ?_
  refine lv_istore_n (lv' := [(2, .int 0), (0, .ref (gG S 4 0)), (1, .ref (gG S 5 r))]) hx hb dX4_countMisled_1 rfl hl (by decide) rfl (fun ls hl => ?_)
  refine lv_iconst (v := 0) hx hb dX4_countMisled_2 (by decide) ?_
  refine lv_istore_n (lv' := [(3, .int 0), (2, .int 0), (0, .ref (gG S 4 0)), (1, .ref (gG S 5 r))]) hx hb dX4_countMisled_3 rfl hl (by decide) rfl (fun ls hl => ?_)
  have L4 : ∀ (N : Nat) (k4 : Nat) (v4_2 : Int32) (H : Heap) (locs : List Loc) (ls : Array Slot), nt - k4 < N → (k4 ≤ nt) → Wd s0 D cy S s.heap H locs → lv_has ls 5 [(3, .int (nI k4)), (2, .int v4_2), (0, .ref (gG S 4 0)), (1, .ref (gG S 5 r))] → W p l e rm_m_X4_countMisled s m ([.ref (gG S 4 0), .ref (gG S 5 r)] : List Value).toArray below meth c H locs 0 0 (MQ below (GQ s0 D cy (PXi S)) ([.ref (gG S 4 0), .ref (gG S 5 r)] : List Value).toArray s rm_m_X4_countMisled.cells rm_m_X4_countMisled.slots (A0 s0)) (F0 m 4 ls []) := by
    intro N
    induction N with
    | zero => intros; omega
    | succ N ih4 =>
      intro k4 v4_2 H locs ls hmu hk_k4 w hl
      refine lv_iload_n hx hb dX4_countMisled_4 rfl (lv_at hl 0 rfl) ?_
      refine lv_aload_n hx hb dX4_countMisled_5 rfl (lv_at hl 2 rfl) ?_
      refine g_4_0 (S := S) (x := (some (gG S 17 3))) X w h.v4 wF_X4_12 (h.f64) dX4_countMisled_6 ?_
      refine cV (S := S) (nA := 0) (As := []) (rest := [.int (nI k4)]) X w hl h.l_ta.1 (m_size G S ea 3 nt h.l_ta) wY_Jx4a65c_size_8abf5 wM_X4_28 wIn_Jx4a65c_size_8abf5 wSe_Jx4a65c_Jx4a65c_size_8abf5 wI_Jx4a65c (by decide) rfl (by decide +kernel) rfl rfl dX4_countMisled_9 ⟨by decide, by decide⟩ (Nat.le_of_ble_eq_true rfl) (⟨Nat.le_of_ble_eq_true rfl, Nat.le_of_ble_eq_true rfl⟩) (fun v1 S1 H locs hp w => ?_)
      obtain ⟨rfl, rfl⟩ := hp
      refine lv_icmp_ge (tgt := 60) hx hb dX4_countMisled_12 (by decide) (fun hc_k4 => ?_) (fun hc_k4 => ?_)
      · have hge_k4 : nt ≤ k4 := by
          have hb1 := h.b_ta
          exact (nI_leI (a := nt) (b := k4) (by omega) (by omega)).mp hc_k4
        refine lv_iload_n hx hb dX4_countMisled_60 rfl (lv_at hl 1 rfl) ?_
        exact rI X w rfl dX4_countMisled_61 (by decide) (by decide) (px_i)
      · have hlt_k4 : k4 < nt := by
          have hb1 := h.b_ta
          exact Nat.lt_of_not_le (fun z => hc_k4 ((nI_leI (a := nt) (b := k4) (by omega) (by omega)).mpr z))
        refine lv_aload_n hx hb dX4_countMisled_15 rfl (lv_at hl 2 rfl) ?_
        refine g_4_0 (S := S) (x := (some (gG S 17 3))) X w h.v4 wF_X4_12 (h.f64) dX4_countMisled_16 ?_
        refine lv_iload_n hx hb dX4_countMisled_19 rfl (lv_at hl 0 rfl) ?_
        refine cV (S := S) (nA := 1) (As := [.int (nI k4)]) (rest := []) X w hl h.l_ta.1 (m_get G S ea 3 k4 nt (some (gG S 9 k4)) h.l_ta hlt_k4 (h.e_ta k4 hlt_k4).1) wY_Jx4a65c_get_915e3 wM_X4_36 wIn_Jx4a65c_get_915e3 wSe_Jx4a65c_Jx4a65c_get_915e3 wI_Jx4a65c (by decide) rfl (by decide +kernel) rfl rfl dX4_countMisled_20 ⟨by decide, by decide⟩ (Nat.le_of_ble_eq_true rfl) (⟨Nat.le_of_ble_eq_true rfl, Nat.le_of_ble_eq_true rfl⟩) (fun v2 S1 H locs hp w => ?_)
        obtain ⟨rfl, rfl⟩ := hp
        refine ckC (S := S) (t := 9) X w (h.e_ta k4 hlt_k4).2 (by decide) rfl wC_X4_40 dX4_countMisled_23 ?_
        refine lv_astore (lv' := [(4, .ref (gG S 9 k4)), (3, .int (nI k4)), (2, .int v4_2), (0, .ref (gG S 4 0)), (1, .ref (gG S 5 r))]) hx hb dX4_countMisled_26 hl (by decide) rfl (fun ls hl => ?_)
        refine lv_iload_n hx hb dX4_countMisled_28 rfl (lv_at hl 2 rfl) ?_
        refine lv_aload hx hb dX4_countMisled_29 (lv_at hl 0 rfl) ?_
        refine cV (S := S) (nA := 0) (As := []) (rest := [.int v4_2]) X w hl (h.e_ta k4 hlt_k4).2 (m_X9_isInError G S ea ns nj nm nt nr nc h k4 hlt_k4) wY_X9_isInError wM_X4_134 wIn_X9_isInError wSe_X9_X9_isInError wI_X9 (by decide) rfl (by decide +kernel) rfl rfl dX4_countMisled_31 ⟨by decide, by decide⟩ (Nat.le_of_ble_eq_true rfl) (⟨Nat.le_of_ble_eq_true rfl, Nat.le_of_ble_eq_true rfl⟩) (fun v4 S1 H locs hp w => ?_)
        obtain ⟨⟨x3, rfl, hpx3⟩, rfl⟩ := hp
        have J52 : ∀ (z52_1 : Bool) (H : Heap) (locs : List Loc) (ls : Array Slot), Wd s0 D cy S s.heap H locs → lv_has ls 5 [(4, .ref (gG S 9 k4)), (3, .int (nI k4)), (2, .int v4_2), (0, .ref (gG S 4 0)), (1, .ref (gG S 5 r))] → W p l e rm_m_X4_countMisled s m ([.ref (gG S 4 0), .ref (gG S 5 r)] : List Value).toArray below meth c H locs 0 0 (MQ below (GQ s0 D cy (PXi S)) ([.ref (gG S 4 0), .ref (gG S 5 r)] : List Value).toArray s rm_m_X4_countMisled.cells rm_m_X4_countMisled.slots (A0 s0)) (F0 m 52 ls [.int (b2i z52_1), .int v4_2]) := by
          intro z52_1 H locs ls  w hl
          refine lv_iadd hx hb dX4_countMisled_52 ?_
          refine lv_istore_n (lv' := [(2, .int (v4_2 + (b2i z52_1))), (4, .ref (gG S 9 k4)), (3, .int (nI k4)), (0, .ref (gG S 4 0)), (1, .ref (gG S 5 r))]) hx hb dX4_countMisled_53 rfl hl (by decide) rfl (fun ls hl => ?_)
          refine lv_iinc (v := nI (k4 + 1)) (lv' := [(3, .int (nI (k4 + 1))), (2, .int (v4_2 + (b2i z52_1))), (4, .ref (gG S 9 k4)), (0, .ref (gG S 4 0)), (1, .ref (gG S 5 r))]) hx hb dX4_countMisled_54 hl (k := 2) rfl (nI_1 _) (by decide) rfl (fun ls hl => ?_)
          refine lv_goto (tgt := 4) hx hb dX4_countMisled_57 (by decide) ?_
          exact ih4 (k4 + 1) (v4_2 + (b2i z52_1)) _ _ _ (by omega) (hlt_k4) w (lv_sub hl [0, 1, 3, 4] rfl)
        refine lv_if_eq (tgt := 51) hx hb dX4_countMisled_34 (by decide) (fun hc5 => ?_) (fun hc5 => ?_)
        · refine lv_iconst (v := 0) hx hb dX4_countMisled_51 (by decide) ?_
          exact J52 false _ _ _  w (lv_sub hl [0, 1, 2, 3, 4] rfl)
        · refine lv_aload hx hb dX4_countMisled_37 (lv_at hl 0 rfl) ?_
          refine lv_aload_n hx hb dX4_countMisled_39 rfl (lv_at hl 4 rfl) ?_
          refine cV (S := S) (nA := 1) (As := [.ref (gG S 5 r)]) (rest := [.int v4_2]) X w hl (h.e_ta k4 hlt_k4).2 (m_X9_reached G S ea ns nj nm nt nr nc h k4 hlt_k4 r hr) wY_X9_reached wM_X4_150 wIn_X9_reached wSe_X9_X9_reached wI_X9 (by decide) rfl (by decide +kernel) rfl rfl dX4_countMisled_40 ⟨by decide, by decide⟩ (Nat.le_of_ble_eq_true rfl) (⟨Nat.le_of_ble_eq_true rfl, Nat.le_of_ble_eq_true rfl⟩) (fun v7 S1 H locs hp w => ?_)
          obtain ⟨⟨x6, rfl⟩, rfl⟩ := hp
          refine lv_iconst (v := 1) hx hb dX4_countMisled_43 (by decide) ?_
          refine lv_icmp_ne (tgt := 51) hx hb dX4_countMisled_44 (by decide) (fun hc8 => ?_) (fun hc8 => ?_)
          · refine lv_iconst (v := 0) hx hb dX4_countMisled_51 (by decide) ?_
            exact J52 false _ _ _  w (lv_sub hl [0, 1, 2, 3, 4] rfl)
          · refine lv_iconst (v := 1) hx hb dX4_countMisled_47 (by decide) ?_
            refine lv_goto (tgt := 52) hx hb dX4_countMisled_48 (by decide) ?_
            exact J52 true _ _ _  w (lv_sub hl [0, 1, 2, 3, 4] rfl)
  exact L4 _ 0 0 _ _ _ (Nat.lt_succ_self _) (Nat.zero_le _) w (lv_sub hl [0, 1, 2, 3] rfl)

theorem dX4_countUsed_0 : decode cX4_countUsed 0 = .ok (.iconst 0, 1) := by decide +kernel
theorem dX4_countUsed_1 : decode cX4_countUsed 1 = .ok (.istore 5, 2) := by decide +kernel
theorem dX4_countUsed_3 : decode cX4_countUsed 3 = .ok (.iconst 0, 1) := by decide +kernel
theorem dX4_countUsed_4 : decode cX4_countUsed 4 = .ok (.istore 6, 2) := by decide +kernel
theorem dX4_countUsed_6 : decode cX4_countUsed 6 = .ok (.iload 6, 2) := by decide +kernel
theorem dX4_countUsed_8 : decode cX4_countUsed 8 = .ok (.aload_n 0, 1) := by decide +kernel
theorem dX4_countUsed_9 : decode cX4_countUsed 9 = .ok (.getfield 12, 3) := by decide +kernel
theorem dX4_countUsed_12 : decode cX4_countUsed 12 = .ok (.invokevirtual 28, 3) := by decide +kernel
theorem dX4_countUsed_15 : decode cX4_countUsed 15 = .ok (.if_icmp .ge 80, 3) := by decide +kernel
theorem dX4_countUsed_18 : decode cX4_countUsed 18 = .ok (.aload_n 0, 1) := by decide +kernel
theorem dX4_countUsed_19 : decode cX4_countUsed 19 = .ok (.getfield 12, 3) := by decide +kernel
theorem dX4_countUsed_22 : decode cX4_countUsed 22 = .ok (.iload 6, 2) := by decide +kernel
theorem dX4_countUsed_24 : decode cX4_countUsed 24 = .ok (.invokevirtual 36, 3) := by decide +kernel
theorem dX4_countUsed_27 : decode cX4_countUsed 27 = .ok (.checkcast 40, 3) := by decide +kernel
theorem dX4_countUsed_30 : decode cX4_countUsed 30 = .ok (.astore 7, 2) := by decide +kernel
theorem dX4_countUsed_32 : decode cX4_countUsed 32 = .ok (.aload 7, 2) := by decide +kernel
theorem dX4_countUsed_34 : decode cX4_countUsed 34 = .ok (.getfield 71, 3) := by decide +kernel
theorem dX4_countUsed_37 : decode cX4_countUsed 37 = .ok (.astore 8, 2) := by decide +kernel
theorem dX4_countUsed_39 : decode cX4_countUsed 39 = .ok (.aload 8, 2) := by decide +kernel
theorem dX4_countUsed_41 : decode cX4_countUsed 41 = .ok (.ifnull 48, 3) := by decide +kernel
theorem dX4_countUsed_44 : decode cX4_countUsed 44 = .ok (.aload 7, 2) := by decide +kernel
theorem dX4_countUsed_46 : decode cX4_countUsed 46 = .ok (.getfield 44, 3) := by decide +kernel
theorem dX4_countUsed_49 : decode cX4_countUsed 49 = .ok (.getfield 62, 3) := by decide +kernel
theorem dX4_countUsed_52 : decode cX4_countUsed 52 = .ok (.iload_n 1, 1) := by decide +kernel
theorem dX4_countUsed_53 : decode cX4_countUsed 53 = .ok (.if_icmp .ne 36, 3) := by decide +kernel
theorem dX4_countUsed_56 : decode cX4_countUsed 56 = .ok (.aload 7, 2) := by decide +kernel
theorem dX4_countUsed_58 : decode cX4_countUsed 58 = .ok (.iload_n 3, 1) := by decide +kernel
theorem dX4_countUsed_59 : decode cX4_countUsed 59 = .ok (.iload 4, 2) := by decide +kernel
theorem dX4_countUsed_61 : decode cX4_countUsed 61 = .ok (.invokevirtual 154, 3) := by decide +kernel
theorem dX4_countUsed_64 : decode cX4_countUsed 64 = .ok (.ifCond .eq 25, 3) := by decide +kernel
theorem dX4_countUsed_67 : decode cX4_countUsed 67 = .ok (.iload 5, 2) := by decide +kernel
theorem dX4_countUsed_69 : decode cX4_countUsed 69 = .ok (.aload 8, 2) := by decide +kernel
theorem dX4_countUsed_71 : decode cX4_countUsed 71 = .ok (.getfield 157, 3) := by decide +kernel
theorem dX4_countUsed_74 : decode cX4_countUsed 74 = .ok (.iload_n 2, 1) := by decide +kernel
theorem dX4_countUsed_75 : decode cX4_countUsed 75 = .ok (.invokestatic 67, 3) := by decide +kernel
theorem dX4_countUsed_78 : decode cX4_countUsed 78 = .ok (.ifCond .eq 7, 3) := by decide +kernel
theorem dX4_countUsed_81 : decode cX4_countUsed 81 = .ok (.iconst 1, 1) := by decide +kernel
theorem dX4_countUsed_82 : decode cX4_countUsed 82 = .ok (.goto 4, 3) := by decide +kernel
theorem dX4_countUsed_85 : decode cX4_countUsed 85 = .ok (.iconst 0, 1) := by decide +kernel
theorem dX4_countUsed_86 : decode cX4_countUsed 86 = .ok (.iadd, 1) := by decide +kernel
theorem dX4_countUsed_87 : decode cX4_countUsed 87 = .ok (.istore 5, 2) := by decide +kernel
theorem dX4_countUsed_89 : decode cX4_countUsed 89 = .ok (.iinc 6 1, 3) := by decide +kernel
theorem dX4_countUsed_92 : decode cX4_countUsed 92 = .ok (.goto (-86), 3) := by decide +kernel
theorem dX4_countUsed_95 : decode cX4_countUsed 95 = .ok (.iload 5, 2) := by decide +kernel
theorem dX4_countUsed_97 : decode cX4_countUsed 97 = .ok (.ireturn, 1) := by decide +kernel
abbrev rm_m_X4_countUsed : Room := { frames := 3, cells := 0, slots := 0, locals := 64 }
set_option maxHeartbeats 4000000 in
set_option maxRecDepth 100000 in
theorem m_X4_countUsed {s0 : State} {l : Launch} {D : va_G} {cy : Nat → ClassId} (G : Gl s0 l D cy) (S : HS) (ea ns nj nm nt nr nc : Nat) (h : CI ea S ns nj nm nt nr nc) (a b d e_ : Int32) : Ctr s0 l D cy yX4_countUsed cX4_countUsed 9 (some .int) rm_m_X4_countUsed S [.ref (gG S 4 0), .int a, .int b, .int d, .int e_] (PXi S) := by
  refine pro "CavershamShift$Newsroom" G rfl rfl (Nat.le_of_ble_eq_true rfl) (fun p e s m below meth c ls X w hnm hl => ?_)
  have hx := X.1
  have hb := X.2.1
  have hown := X.2.2.2.1
  have hts := X.2.2.2.2.1
  have hl : lv_has ls 9 [(0, .ref (gG S 4 0)), (1, .int a), (2, .int b), (3, .int d), (4, .int e_)] := hl
  refine lv_iconst (v := 0) hx hb dX4_countUsed_0 (by decide) ?_
  refine lv_istore (lv' := [(5, .int 0), (0, .ref (gG S 4 0)), (1, .int a), (2, .int b), (3, .int d), (4, .int e_)]) hx hb dX4_countUsed_1 hl (by decide) rfl (fun ls hl => ?_)
  refine lv_iconst (v := 0) hx hb dX4_countUsed_3 (by decide) ?_
  refine lv_istore (lv' := [(6, .int 0), (5, .int 0), (0, .ref (gG S 4 0)), (1, .int a), (2, .int b), (3, .int d), (4, .int e_)]) hx hb dX4_countUsed_4 hl (by decide) rfl (fun ls hl => ?_)
  have L6 : ∀ (N : Nat) (k6 : Nat) (v6_5 : Int32) (H : Heap) (locs : List Loc) (ls : Array Slot), nt - k6 < N → (k6 ≤ nt) → Wd s0 D cy S s.heap H locs → lv_has ls 9 [(6, .int (nI k6)), (5, .int v6_5), (0, .ref (gG S 4 0)), (1, .int a), (2, .int b), (3, .int d), (4, .int e_)] → W p l e rm_m_X4_countUsed s m ([.ref (gG S 4 0), .int a, .int b, .int d, .int e_] : List Value).toArray below meth c H locs 0 0 (MQ below (GQ s0 D cy (PXi S)) ([.ref (gG S 4 0), .int a, .int b, .int d, .int e_] : List Value).toArray s rm_m_X4_countUsed.cells rm_m_X4_countUsed.slots (A0 s0)) (F0 m 6 ls []) := by
    intro N
    induction N with
    | zero => intros; omega
    | succ N ih6 =>
      intro k6 v6_5 H locs ls hmu hk_k6 w hl
      refine lv_iload hx hb dX4_countUsed_6 (lv_at hl 0 rfl) ?_
      refine lv_aload_n hx hb dX4_countUsed_8 rfl (lv_at hl 2 rfl) ?_
      refine g_4_0 (S := S) (x := (some (gG S 17 3))) X w h.v4 wF_X4_12 (h.f64) dX4_countUsed_9 ?_
      refine cV (S := S) (nA := 0) (As := []) (rest := [.int (nI k6)]) X w hl h.l_ta.1 (m_size G S ea 3 nt h.l_ta) wY_Jx4a65c_size_8abf5 wM_X4_28 wIn_Jx4a65c_size_8abf5 wSe_Jx4a65c_Jx4a65c_size_8abf5 wI_Jx4a65c (by decide) rfl (by decide +kernel) rfl rfl dX4_countUsed_12 ⟨by decide, by decide⟩ (Nat.le_of_ble_eq_true rfl) (⟨Nat.le_of_ble_eq_true rfl, Nat.le_of_ble_eq_true rfl⟩) (fun v1 S1 H locs hp w => ?_)
      obtain ⟨rfl, rfl⟩ := hp
      refine lv_icmp_ge (tgt := 95) hx hb dX4_countUsed_15 (by decide) (fun hc_k6 => ?_) (fun hc_k6 => ?_)
      · have hge_k6 : nt ≤ k6 := by
          have hb1 := h.b_ta
          exact (nI_leI (a := nt) (b := k6) (by omega) (by omega)).mp hc_k6
        refine lv_iload hx hb dX4_countUsed_95 (lv_at hl 1 rfl) ?_
        exact rI X w rfl dX4_countUsed_97 (by decide) (by decide) (px_i)
      · have hlt_k6 : k6 < nt := by
          have hb1 := h.b_ta
          exact Nat.lt_of_not_le (fun z => hc_k6 ((nI_leI (a := nt) (b := k6) (by omega) (by omega)).mpr z))
        refine lv_aload_n hx hb dX4_countUsed_18 rfl (lv_at hl 2 rfl) ?_
        refine g_4_0 (S := S) (x := (some (gG S 17 3))) X w h.v4 wF_X4_12 (h.f64) dX4_countUsed_19 ?_
        refine lv_iload hx hb dX4_countUsed_22 (lv_at hl 0 rfl) ?_
        refine cV (S := S) (nA := 1) (As := [.int (nI k6)]) (rest := []) X w hl h.l_ta.1 (m_get G S ea 3 k6 nt (some (gG S 9 k6)) h.l_ta hlt_k6 (h.e_ta k6 hlt_k6).1) wY_Jx4a65c_get_915e3 wM_X4_36 wIn_Jx4a65c_get_915e3 wSe_Jx4a65c_Jx4a65c_get_915e3 wI_Jx4a65c (by decide) rfl (by decide +kernel) rfl rfl dX4_countUsed_24 ⟨by decide, by decide⟩ (Nat.le_of_ble_eq_true rfl) (⟨Nat.le_of_ble_eq_true rfl, Nat.le_of_ble_eq_true rfl⟩) (fun v2 S1 H locs hp w => ?_)
        obtain ⟨rfl, rfl⟩ := hp
        refine ckC (S := S) (t := 9) X w (h.e_ta k6 hlt_k6).2 (by decide) rfl wC_X4_40 dX4_countUsed_27 ?_
        refine lv_astore (lv' := [(7, .ref (gG S 9 k6)), (6, .int (nI k6)), (5, .int v6_5), (0, .ref (gG S 4 0)), (1, .int a), (2, .int b), (3, .int d), (4, .int e_)]) hx hb dX4_countUsed_30 hl (by decide) rfl (fun ls hl => ?_)
        refine lv_aload hx hb dX4_countUsed_32 (lv_at hl 0 rfl) ?_
        have J89 : ∀ (y89_5 : Int32) (H : Heap) (locs : List Loc) (ls : Array Slot), Wd s0 D cy S s.heap H locs → lv_has ls 9 [(7, .ref (gG S 9 k6)), (6, .int (nI k6)), (5, .int y89_5), (0, .ref (gG S 4 0)), (1, .int a), (2, .int b), (3, .int d), (4, .int e_)] → W p l e rm_m_X4_countUsed s m ([.ref (gG S 4 0), .int a, .int b, .int d, .int e_] : List Value).toArray below meth c H locs 0 0 (MQ below (GQ s0 D cy (PXi S)) ([.ref (gG S 4 0), .int a, .int b, .int d, .int e_] : List Value).toArray s rm_m_X4_countUsed.cells rm_m_X4_countUsed.slots (A0 s0)) (F0 m 89 ls []) := by
          intro y89_5 H locs ls  w hl
          refine lv_iinc (v := nI (k6 + 1)) (lv' := [(6, .int (nI (k6 + 1))), (7, .ref (gG S 9 k6)), (5, .int y89_5), (0, .ref (gG S 4 0)), (1, .int a), (2, .int b), (3, .int d), (4, .int e_)]) hx hb dX4_countUsed_89 hl (k := 1) rfl (nI_1 _) (by decide) rfl (fun ls hl => ?_)
          refine lv_goto (tgt := 6) hx hb dX4_countUsed_92 (by decide) ?_
          exact ih6 (k6 + 1) y89_5 _ _ _ (by omega) (hlt_k6) w (lv_sub hl [0, 2, 3, 4, 5, 6, 7] rfl)
        rcases h.t_rp k6 hlt_k6 with her3 | ⟨her3, hvr3⟩
        · refine g_9_8 (S := S) (x := none) X w (h.e_ta k6 hlt_k6).2 wF_X4_71 (her3) dX4_countUsed_34 ?_
          refine lv_astoreN (lv' := [(8, .null), (7, .ref (gG S 9 k6)), (6, .int (nI k6)), (5, .int v6_5), (0, .ref (gG S 4 0)), (1, .int a), (2, .int b), (3, .int d), (4, .int e_)]) hx hb dX4_countUsed_37 hl (by decide) rfl (fun ls hl => ?_)
          refine lv_aloadN hx hb dX4_countUsed_39 (lv_at hl 0 rfl) ?_
          refine lv_ifnullN (tgt := 89) hx hb dX4_countUsed_41 (by decide) ?_
          exact J89 v6_5 _ _ _  w (lv_sub hl [1, 2, 3, 4, 5, 6, 7, 8] rfl)
        · refine g_9_8 (S := S) (x := (some (gG S 6 k6))) X w (h.e_ta k6 hlt_k6).2 wF_X4_71 (her3) dX4_countUsed_34 ?_
          refine lv_astore (lv' := [(8, .ref (gG S 6 k6)), (7, .ref (gG S 9 k6)), (6, .int (nI k6)), (5, .int v6_5), (0, .ref (gG S 4 0)), (1, .int a), (2, .int b), (3, .int d), (4, .int e_)]) hx hb dX4_countUsed_37 hl (by decide) rfl (fun ls hl => ?_)
          refine lv_aload hx hb dX4_countUsed_39 (lv_at hl 0 rfl) ?_
          refine lv_ifnull hx hb dX4_countUsed_41 ?_
          refine lv_aload hx hb dX4_countUsed_44 (lv_at hl 1 rfl) ?_
          obtain ⟨i4, hli4, hei4⟩ := h.t_st k6 hlt_k6
          refine g_9_1 (S := S) (x := (some (gG S 8 i4))) X w (h.e_ta k6 hlt_k6).2 wF_X4_44 (hei4) dX4_countUsed_46 ?_
          refine g_8_4 (S := S) (x := (mI S 132 i4)) X w (h.e_st i4 hli4).2 wF_X4_62 (rfl) dX4_countUsed_49 ?_
          refine lv_iload_n hx hb dX4_countUsed_52 rfl (lv_at hl 5 rfl) ?_
          refine lv_icmp_ne (tgt := 89) hx hb dX4_countUsed_53 (by decide) (fun hc5 => ?_) (fun hc5 => ?_)
          · exact J89 v6_5 _ _ _  w (lv_sub hl [1, 2, 3, 4, 5, 6, 7, 8] rfl)
          · refine lv_aload hx hb dX4_countUsed_56 (lv_at hl 1 rfl) ?_
            refine lv_iload_n hx hb dX4_countUsed_58 rfl (lv_at hl 7 rfl) ?_
            refine lv_iload hx hb dX4_countUsed_59 (lv_at hl 8 rfl) ?_
            refine cV (S := S) (nA := 2) (As := [.int d, .int e_]) (rest := []) X w hl (h.e_ta k6 hlt_k6).2 (m_X9_isOnDays G S ea ns nj nm nt nr nc h k6 hlt_k6 d e_) wY_X9_isOnDays wM_X4_154 wIn_X9_isOnDays wSe_X9_X9_isOnDays wI_X9 (by decide) rfl (by decide +kernel) rfl rfl dX4_countUsed_61 ⟨by decide, by decide⟩ (Nat.le_of_ble_eq_true rfl) (⟨Nat.le_of_ble_eq_true rfl, Nat.le_of_ble_eq_true rfl⟩) (fun v7 S1 H locs hp w => ?_)
            obtain ⟨⟨x6, rfl⟩, rfl⟩ := hp
            refine lv_if_eq (tgt := 89) hx hb dX4_countUsed_64 (by decide) (fun hc8 => ?_) (fun hc8 => ?_)
            · exact J89 v6_5 _ _ _  w (lv_sub hl [1, 2, 3, 4, 5, 6, 7, 8] rfl)
            · refine lv_iload hx hb dX4_countUsed_67 (lv_at hl 3 rfl) ?_
              refine lv_aload hx hb dX4_countUsed_69 (lv_at hl 0 rfl) ?_
              refine g_6_3 (S := S) (x := (mI S 99 k6)) X w hvr3 wF_X4_157 (rfl) dX4_countUsed_71 ?_
              refine lv_iload_n hx hb dX4_countUsed_74 rfl (lv_at hl 6 rfl) ?_
              refine cSN (S := S) (nA := 2) (As := [.int (mI S 99 k6), .int b]) (rest := [.int v6_5]) X w hl (m_X10_isIn G S (mI S 99 k6) b) wY_X10_isIn wMN_X4_67 wSt_X10_isIn wI_X10 (by decide +kernel) rfl rfl dX4_countUsed_75 ⟨by decide, by decide⟩ (Nat.le_of_ble_eq_true rfl) (⟨Nat.le_of_ble_eq_true rfl, Nat.le_of_ble_eq_true rfl⟩) (fun v9 S1 H locs hp w => ?_)
              obtain ⟨rfl, rfl⟩ := hp
              have J86 : ∀ (z86_1 : Bool) (H : Heap) (locs : List Loc) (ls : Array Slot), Wd s0 D cy S s.heap H locs → lv_has ls 9 [(8, .ref (gG S 6 k6)), (7, .ref (gG S 9 k6)), (6, .int (nI k6)), (5, .int v6_5), (0, .ref (gG S 4 0)), (1, .int a), (2, .int b), (3, .int d), (4, .int e_)] → W p l e rm_m_X4_countUsed s m ([.ref (gG S 4 0), .int a, .int b, .int d, .int e_] : List Value).toArray below meth c H locs 0 0 (MQ below (GQ s0 D cy (PXi S)) ([.ref (gG S 4 0), .int a, .int b, .int d, .int e_] : List Value).toArray s rm_m_X4_countUsed.cells rm_m_X4_countUsed.slots (A0 s0)) (F0 m 86 ls [.int (b2i z86_1), .int v6_5]) := by
                intro z86_1 H locs ls  w hl
                refine lv_iadd hx hb dX4_countUsed_86 ?_
                refine lv_istore (lv' := [(5, .int (v6_5 + (b2i z86_1))), (8, .ref (gG S 6 k6)), (7, .ref (gG S 9 k6)), (6, .int (nI k6)), (0, .ref (gG S 4 0)), (1, .int a), (2, .int b), (3, .int d), (4, .int e_)]) hx hb dX4_countUsed_87 hl (by decide) rfl (fun ls hl => ?_)
                exact J89 (v6_5 + (b2i z86_1)) _ _ _  w (lv_sub hl [2, 3, 0, 4, 5, 6, 7, 8] rfl)
              refine lv_if_eq (tgt := 85) hx hb dX4_countUsed_78 (by decide) (fun hc10 => ?_) (fun hc10 => ?_)
              · refine lv_iconst (v := 0) hx hb dX4_countUsed_85 (by decide) ?_
                exact J86 false _ _ _  w (lv_sub hl [0, 1, 2, 3, 4, 5, 6, 7, 8] rfl)
              · refine lv_iconst (v := 1) hx hb dX4_countUsed_81 (by decide) ?_
                refine lv_goto (tgt := 86) hx hb dX4_countUsed_82 (by decide) ?_
                exact J86 true _ _ _  w (lv_sub hl [0, 1, 2, 3, 4, 5, 6, 7, 8] rfl)
  exact L6 _ 0 0 _ _ _ (Nat.lt_succ_self _) (Nat.zero_le _) w (lv_sub hl [0, 1, 2, 3, 4, 5, 6] rfl)

theorem dX4_countReportsOn_0 : decode cX4_countReportsOn 0 = .ok (.iconst 0, 1) := by decide +kernel
theorem dX4_countReportsOn_1 : decode cX4_countReportsOn 1 = .ok (.istore 4, 2) := by decide +kernel
theorem dX4_countReportsOn_3 : decode cX4_countReportsOn 3 = .ok (.iconst 0, 1) := by decide +kernel
theorem dX4_countReportsOn_4 : decode cX4_countReportsOn 4 = .ok (.istore 5, 2) := by decide +kernel
theorem dX4_countReportsOn_6 : decode cX4_countReportsOn 6 = .ok (.iload 5, 2) := by decide +kernel
theorem dX4_countReportsOn_8 : decode cX4_countReportsOn 8 = .ok (.aload_n 0, 1) := by decide +kernel
theorem dX4_countReportsOn_9 : decode cX4_countReportsOn 9 = .ok (.getfield 12, 3) := by decide +kernel
theorem dX4_countReportsOn_12 : decode cX4_countReportsOn 12 = .ok (.invokevirtual 28, 3) := by decide +kernel
theorem dX4_countReportsOn_15 : decode cX4_countReportsOn 15 = .ok (.if_icmp .ge 56, 3) := by decide +kernel
theorem dX4_countReportsOn_18 : decode cX4_countReportsOn 18 = .ok (.aload_n 0, 1) := by decide +kernel
theorem dX4_countReportsOn_19 : decode cX4_countReportsOn 19 = .ok (.getfield 12, 3) := by decide +kernel
theorem dX4_countReportsOn_22 : decode cX4_countReportsOn 22 = .ok (.iload 5, 2) := by decide +kernel
theorem dX4_countReportsOn_24 : decode cX4_countReportsOn 24 = .ok (.invokevirtual 36, 3) := by decide +kernel
theorem dX4_countReportsOn_27 : decode cX4_countReportsOn 27 = .ok (.checkcast 40, 3) := by decide +kernel
theorem dX4_countReportsOn_30 : decode cX4_countReportsOn 30 = .ok (.astore 6, 2) := by decide +kernel
theorem dX4_countReportsOn_32 : decode cX4_countReportsOn 32 = .ok (.aload 6, 2) := by decide +kernel
theorem dX4_countReportsOn_34 : decode cX4_countReportsOn 34 = .ok (.getfield 71, 3) := by decide +kernel
theorem dX4_countReportsOn_37 : decode cX4_countReportsOn 37 = .ok (.ifnull 28, 3) := by decide +kernel
theorem dX4_countReportsOn_40 : decode cX4_countReportsOn 40 = .ok (.aload 6, 2) := by decide +kernel
theorem dX4_countReportsOn_42 : decode cX4_countReportsOn 42 = .ok (.getfield 44, 3) := by decide +kernel
theorem dX4_countReportsOn_45 : decode cX4_countReportsOn 45 = .ok (.getfield 62, 3) := by decide +kernel
theorem dX4_countReportsOn_48 : decode cX4_countReportsOn 48 = .ok (.iload_n 1, 1) := by decide +kernel
theorem dX4_countReportsOn_49 : decode cX4_countReportsOn 49 = .ok (.if_icmp .ne 16, 3) := by decide +kernel
theorem dX4_countReportsOn_52 : decode cX4_countReportsOn 52 = .ok (.aload 6, 2) := by decide +kernel
theorem dX4_countReportsOn_54 : decode cX4_countReportsOn 54 = .ok (.iload_n 2, 1) := by decide +kernel
theorem dX4_countReportsOn_55 : decode cX4_countReportsOn 55 = .ok (.iload_n 3, 1) := by decide +kernel
theorem dX4_countReportsOn_56 : decode cX4_countReportsOn 56 = .ok (.invokevirtual 154, 3) := by decide +kernel
theorem dX4_countReportsOn_59 : decode cX4_countReportsOn 59 = .ok (.ifCond .eq 6, 3) := by decide +kernel
theorem dX4_countReportsOn_62 : decode cX4_countReportsOn 62 = .ok (.iinc 4 1, 3) := by decide +kernel
theorem dX4_countReportsOn_65 : decode cX4_countReportsOn 65 = .ok (.iinc 5 1, 3) := by decide +kernel
theorem dX4_countReportsOn_68 : decode cX4_countReportsOn 68 = .ok (.goto (-62), 3) := by decide +kernel
theorem dX4_countReportsOn_71 : decode cX4_countReportsOn 71 = .ok (.iload 4, 2) := by decide +kernel
theorem dX4_countReportsOn_73 : decode cX4_countReportsOn 73 = .ok (.ireturn, 1) := by decide +kernel
abbrev rm_m_X4_countReportsOn : Room := { frames := 3, cells := 0, slots := 0, locals := 64 }
set_option maxHeartbeats 4000000 in
set_option maxRecDepth 100000 in
theorem m_X4_countReportsOn {s0 : State} {l : Launch} {D : va_G} {cy : Nat → ClassId} (G : Gl s0 l D cy) (S : HS) (ea ns nj nm nt nr nc : Nat) (h : CI ea S ns nj nm nt nr nc) (a d e_ : Int32) : Ctr s0 l D cy yX4_countReportsOn cX4_countReportsOn 7 (some .int) rm_m_X4_countReportsOn S [.ref (gG S 4 0), .int a, .int d, .int e_] (PXi S) := by
  refine pro "CavershamShift$Newsroom" G rfl rfl (Nat.le_of_ble_eq_true rfl) (fun p e s m below meth c ls X w hnm hl => ?_)
  have hx := X.1
  have hb := X.2.1
  have hown := X.2.2.2.1
  have hts := X.2.2.2.2.1
  have hl : lv_has ls 7 [(0, .ref (gG S 4 0)), (1, .int a), (2, .int d), (3, .int e_)] := hl
  refine lv_iconst (v := 0) hx hb dX4_countReportsOn_0 (by decide) ?_
  refine lv_istore (lv' := [(4, .int 0), (0, .ref (gG S 4 0)), (1, .int a), (2, .int d), (3, .int e_)]) hx hb dX4_countReportsOn_1 hl (by decide) rfl (fun ls hl => ?_)
  refine lv_iconst (v := 0) hx hb dX4_countReportsOn_3 (by decide) ?_
  refine lv_istore (lv' := [(5, .int 0), (4, .int 0), (0, .ref (gG S 4 0)), (1, .int a), (2, .int d), (3, .int e_)]) hx hb dX4_countReportsOn_4 hl (by decide) rfl (fun ls hl => ?_)
  have L6 : ∀ (N : Nat) (k6 : Nat) (v6_4 : Int32) (H : Heap) (locs : List Loc) (ls : Array Slot), nt - k6 < N → (k6 ≤ nt) → Wd s0 D cy S s.heap H locs → lv_has ls 7 [(5, .int (nI k6)), (4, .int v6_4), (0, .ref (gG S 4 0)), (1, .int a), (2, .int d), (3, .int e_)] → W p l e rm_m_X4_countReportsOn s m ([.ref (gG S 4 0), .int a, .int d, .int e_] : List Value).toArray below meth c H locs 0 0 (MQ below (GQ s0 D cy (PXi S)) ([.ref (gG S 4 0), .int a, .int d, .int e_] : List Value).toArray s rm_m_X4_countReportsOn.cells rm_m_X4_countReportsOn.slots (A0 s0)) (F0 m 6 ls []) := by
    intro N
    induction N with
    | zero => intros; omega
    | succ N ih6 =>
      intro k6 v6_4 H locs ls hmu hk_k6 w hl
      refine lv_iload hx hb dX4_countReportsOn_6 (lv_at hl 0 rfl) ?_
      refine lv_aload_n hx hb dX4_countReportsOn_8 rfl (lv_at hl 2 rfl) ?_
      refine g_4_0 (S := S) (x := (some (gG S 17 3))) X w h.v4 wF_X4_12 (h.f64) dX4_countReportsOn_9 ?_
      refine cV (S := S) (nA := 0) (As := []) (rest := [.int (nI k6)]) X w hl h.l_ta.1 (m_size G S ea 3 nt h.l_ta) wY_Jx4a65c_size_8abf5 wM_X4_28 wIn_Jx4a65c_size_8abf5 wSe_Jx4a65c_Jx4a65c_size_8abf5 wI_Jx4a65c (by decide) rfl (by decide +kernel) rfl rfl dX4_countReportsOn_12 ⟨by decide, by decide⟩ (Nat.le_of_ble_eq_true rfl) (⟨Nat.le_of_ble_eq_true rfl, Nat.le_of_ble_eq_true rfl⟩) (fun v1 S1 H locs hp w => ?_)
      obtain ⟨rfl, rfl⟩ := hp
      refine lv_icmp_ge (tgt := 71) hx hb dX4_countReportsOn_15 (by decide) (fun hc_k6 => ?_) (fun hc_k6 => ?_)
      · have hge_k6 : nt ≤ k6 := by
          have hb1 := h.b_ta
          exact (nI_leI (a := nt) (b := k6) (by omega) (by omega)).mp hc_k6
        refine lv_iload hx hb dX4_countReportsOn_71 (lv_at hl 1 rfl) ?_
        exact rI X w rfl dX4_countReportsOn_73 (by decide) (by decide) (px_i)
      · have hlt_k6 : k6 < nt := by
          have hb1 := h.b_ta
          exact Nat.lt_of_not_le (fun z => hc_k6 ((nI_leI (a := nt) (b := k6) (by omega) (by omega)).mpr z))
        refine lv_aload_n hx hb dX4_countReportsOn_18 rfl (lv_at hl 2 rfl) ?_
        refine g_4_0 (S := S) (x := (some (gG S 17 3))) X w h.v4 wF_X4_12 (h.f64) dX4_countReportsOn_19 ?_
        refine lv_iload hx hb dX4_countReportsOn_22 (lv_at hl 0 rfl) ?_
        refine cV (S := S) (nA := 1) (As := [.int (nI k6)]) (rest := []) X w hl h.l_ta.1 (m_get G S ea 3 k6 nt (some (gG S 9 k6)) h.l_ta hlt_k6 (h.e_ta k6 hlt_k6).1) wY_Jx4a65c_get_915e3 wM_X4_36 wIn_Jx4a65c_get_915e3 wSe_Jx4a65c_Jx4a65c_get_915e3 wI_Jx4a65c (by decide) rfl (by decide +kernel) rfl rfl dX4_countReportsOn_24 ⟨by decide, by decide⟩ (Nat.le_of_ble_eq_true rfl) (⟨Nat.le_of_ble_eq_true rfl, Nat.le_of_ble_eq_true rfl⟩) (fun v2 S1 H locs hp w => ?_)
        obtain ⟨rfl, rfl⟩ := hp
        refine ckC (S := S) (t := 9) X w (h.e_ta k6 hlt_k6).2 (by decide) rfl wC_X4_40 dX4_countReportsOn_27 ?_
        refine lv_astore (lv' := [(6, .ref (gG S 9 k6)), (5, .int (nI k6)), (4, .int v6_4), (0, .ref (gG S 4 0)), (1, .int a), (2, .int d), (3, .int e_)]) hx hb dX4_countReportsOn_30 hl (by decide) rfl (fun ls hl => ?_)
        refine lv_aload hx hb dX4_countReportsOn_32 (lv_at hl 0 rfl) ?_
        have J65 : ∀ (y65_4 : Int32) (H : Heap) (locs : List Loc) (ls : Array Slot), Wd s0 D cy S s.heap H locs → lv_has ls 7 [(6, .ref (gG S 9 k6)), (5, .int (nI k6)), (4, .int y65_4), (0, .ref (gG S 4 0)), (1, .int a), (2, .int d), (3, .int e_)] → W p l e rm_m_X4_countReportsOn s m ([.ref (gG S 4 0), .int a, .int d, .int e_] : List Value).toArray below meth c H locs 0 0 (MQ below (GQ s0 D cy (PXi S)) ([.ref (gG S 4 0), .int a, .int d, .int e_] : List Value).toArray s rm_m_X4_countReportsOn.cells rm_m_X4_countReportsOn.slots (A0 s0)) (F0 m 65 ls []) := by
          intro y65_4 H locs ls  w hl
          refine lv_iinc (v := nI (k6 + 1)) (lv' := [(5, .int (nI (k6 + 1))), (6, .ref (gG S 9 k6)), (4, .int y65_4), (0, .ref (gG S 4 0)), (1, .int a), (2, .int d), (3, .int e_)]) hx hb dX4_countReportsOn_65 hl (k := 1) rfl (nI_1 _) (by decide) rfl (fun ls hl => ?_)
          refine lv_goto (tgt := 6) hx hb dX4_countReportsOn_68 (by decide) ?_
          exact ih6 (k6 + 1) y65_4 _ _ _ (by omega) (hlt_k6) w (lv_sub hl [0, 2, 3, 4, 5, 6] rfl)
        rcases h.t_rp k6 hlt_k6 with her3 | ⟨her3, hvr3⟩
        · refine g_9_8 (S := S) (x := none) X w (h.e_ta k6 hlt_k6).2 wF_X4_71 (her3) dX4_countReportsOn_34 ?_
          refine lv_ifnullN (tgt := 65) hx hb dX4_countReportsOn_37 (by decide) ?_
          exact J65 v6_4 _ _ _  w (lv_sub hl [0, 1, 2, 3, 4, 5, 6] rfl)
        · refine g_9_8 (S := S) (x := (some (gG S 6 k6))) X w (h.e_ta k6 hlt_k6).2 wF_X4_71 (her3) dX4_countReportsOn_34 ?_
          refine lv_ifnull hx hb dX4_countReportsOn_37 ?_
          refine lv_aload hx hb dX4_countReportsOn_40 (lv_at hl 0 rfl) ?_
          obtain ⟨i4, hli4, hei4⟩ := h.t_st k6 hlt_k6
          refine g_9_1 (S := S) (x := (some (gG S 8 i4))) X w (h.e_ta k6 hlt_k6).2 wF_X4_44 (hei4) dX4_countReportsOn_42 ?_
          refine g_8_4 (S := S) (x := (mI S 132 i4)) X w (h.e_st i4 hli4).2 wF_X4_62 (rfl) dX4_countReportsOn_45 ?_
          refine lv_iload_n hx hb dX4_countReportsOn_48 rfl (lv_at hl 4 rfl) ?_
          refine lv_icmp_ne (tgt := 65) hx hb dX4_countReportsOn_49 (by decide) (fun hc5 => ?_) (fun hc5 => ?_)
          · exact J65 v6_4 _ _ _  w (lv_sub hl [0, 1, 2, 3, 4, 5, 6] rfl)
          · refine lv_aload hx hb dX4_countReportsOn_52 (lv_at hl 0 rfl) ?_
            refine lv_iload_n hx hb dX4_countReportsOn_54 rfl (lv_at hl 5 rfl) ?_
            refine lv_iload_n hx hb dX4_countReportsOn_55 rfl (lv_at hl 6 rfl) ?_
            refine cV (S := S) (nA := 2) (As := [.int d, .int e_]) (rest := []) X w hl (h.e_ta k6 hlt_k6).2 (m_X9_isOnDays G S ea ns nj nm nt nr nc h k6 hlt_k6 d e_) wY_X9_isOnDays wM_X4_154 wIn_X9_isOnDays wSe_X9_X9_isOnDays wI_X9 (by decide) rfl (by decide +kernel) rfl rfl dX4_countReportsOn_56 ⟨by decide, by decide⟩ (Nat.le_of_ble_eq_true rfl) (⟨Nat.le_of_ble_eq_true rfl, Nat.le_of_ble_eq_true rfl⟩) (fun v7 S1 H locs hp w => ?_)
            obtain ⟨⟨x6, rfl⟩, rfl⟩ := hp
            refine lv_if_eq (tgt := 65) hx hb dX4_countReportsOn_59 (by decide) (fun hc8 => ?_) (fun hc8 => ?_)
            · exact J65 v6_4 _ _ _  w (lv_sub hl [0, 1, 2, 3, 4, 5, 6] rfl)
            · refine lv_iinc (v := (v6_4 + 1)) (lv' := [(4, .int (v6_4 + 1)), (6, .ref (gG S 9 k6)), (5, .int (nI k6)), (0, .ref (gG S 4 0)), (1, .int a), (2, .int d), (3, .int e_)]) hx hb dX4_countReportsOn_62 hl (k := 2) rfl (rfl) (by decide) rfl (fun ls hl => ?_)
              exact J65 (v6_4 + 1) _ _ _  w (lv_sub hl [1, 2, 0, 3, 4, 5, 6] rfl)
  exact L6 _ 0 0 _ _ _ (Nat.lt_succ_self _) (Nat.zero_le _) w (lv_sub hl [0, 1, 2, 3, 4, 5] rfl)

theorem dX4_goneFrom_0 : decode cX4_goneFrom 0 = .ok (.aload_n 0, 1) := by decide +kernel
theorem dX4_goneFrom_1 : decode cX4_goneFrom 1 = .ok (.iload_n 1, 1) := by decide +kernel
theorem dX4_goneFrom_2 : decode cX4_goneFrom 2 = .ok (.iload_n 2, 1) := by decide +kernel
theorem dX4_goneFrom_3 : decode cX4_goneFrom 3 = .ok (.iconst 2, 1) := by decide +kernel
theorem dX4_goneFrom_4 : decode cX4_goneFrom 4 = .ok (.isub, 1) := by decide +kernel
theorem dX4_goneFrom_5 : decode cX4_goneFrom 5 = .ok (.iload_n 2, 1) := by decide +kernel
theorem dX4_goneFrom_6 : decode cX4_goneFrom 6 = .ok (.invokevirtual 160, 3) := by decide +kernel
theorem dX4_goneFrom_9 : decode cX4_goneFrom 9 = .ok (.iconst 2, 1) := by decide +kernel
theorem dX4_goneFrom_10 : decode cX4_goneFrom 10 = .ok (.if_icmp .ge 5, 3) := by decide +kernel
theorem dX4_goneFrom_13 : decode cX4_goneFrom 13 = .ok (.iconst 0, 1) := by decide +kernel
theorem dX4_goneFrom_14 : decode cX4_goneFrom 14 = .ok (.ireturn, 1) := by decide +kernel
theorem dX4_goneFrom_15 : decode cX4_goneFrom 15 = .ok (.iconst 0, 1) := by decide +kernel
theorem dX4_goneFrom_16 : decode cX4_goneFrom 16 = .ok (.istore_n 3, 1) := by decide +kernel
theorem dX4_goneFrom_17 : decode cX4_goneFrom 17 = .ok (.iconst 0, 1) := by decide +kernel
theorem dX4_goneFrom_18 : decode cX4_goneFrom 18 = .ok (.istore 4, 2) := by decide +kernel
theorem dX4_goneFrom_20 : decode cX4_goneFrom 20 = .ok (.iload 4, 2) := by decide +kernel
theorem dX4_goneFrom_22 : decode cX4_goneFrom 22 = .ok (.bipush 16, 2) := by decide +kernel
theorem dX4_goneFrom_24 : decode cX4_goneFrom 24 = .ok (.if_icmp .ge 60, 3) := by decide +kernel
theorem dX4_goneFrom_27 : decode cX4_goneFrom 27 = .ok (.aload_n 0, 1) := by decide +kernel
theorem dX4_goneFrom_28 : decode cX4_goneFrom 28 = .ok (.iload_n 1, 1) := by decide +kernel
theorem dX4_goneFrom_29 : decode cX4_goneFrom 29 = .ok (.iload 4, 2) := by decide +kernel
theorem dX4_goneFrom_31 : decode cX4_goneFrom 31 = .ok (.iload_n 2, 1) := by decide +kernel
theorem dX4_goneFrom_32 : decode cX4_goneFrom 32 = .ok (.bipush 9, 2) := by decide +kernel
theorem dX4_goneFrom_34 : decode cX4_goneFrom 34 = .ok (.isub, 1) := by decide +kernel
theorem dX4_goneFrom_35 : decode cX4_goneFrom 35 = .ok (.iload_n 2, 1) := by decide +kernel
theorem dX4_goneFrom_36 : decode cX4_goneFrom 36 = .ok (.iconst 3, 1) := by decide +kernel
theorem dX4_goneFrom_37 : decode cX4_goneFrom 37 = .ok (.isub, 1) := by decide +kernel
theorem dX4_goneFrom_38 : decode cX4_goneFrom 38 = .ok (.invokevirtual 164, 3) := by decide +kernel
theorem dX4_goneFrom_41 : decode cX4_goneFrom 41 = .ok (.iconst 3, 1) := by decide +kernel
theorem dX4_goneFrom_42 : decode cX4_goneFrom 42 = .ok (.if_icmp .lt 7, 3) := by decide +kernel
theorem dX4_goneFrom_45 : decode cX4_goneFrom 45 = .ok (.iconst 1, 1) := by decide +kernel
theorem dX4_goneFrom_46 : decode cX4_goneFrom 46 = .ok (.goto 4, 3) := by decide +kernel
theorem dX4_goneFrom_49 : decode cX4_goneFrom 49 = .ok (.iconst 0, 1) := by decide +kernel
theorem dX4_goneFrom_50 : decode cX4_goneFrom 50 = .ok (.istore 5, 2) := by decide +kernel
theorem dX4_goneFrom_52 : decode cX4_goneFrom 52 = .ok (.iload 5, 2) := by decide +kernel
theorem dX4_goneFrom_54 : decode cX4_goneFrom 54 = .ok (.ifCond .eq 24, 3) := by decide +kernel
theorem dX4_goneFrom_57 : decode cX4_goneFrom 57 = .ok (.aload_n 0, 1) := by decide +kernel
theorem dX4_goneFrom_58 : decode cX4_goneFrom 58 = .ok (.iload_n 1, 1) := by decide +kernel
theorem dX4_goneFrom_59 : decode cX4_goneFrom 59 = .ok (.iload 4, 2) := by decide +kernel
theorem dX4_goneFrom_61 : decode cX4_goneFrom 61 = .ok (.iload_n 2, 1) := by decide +kernel
theorem dX4_goneFrom_62 : decode cX4_goneFrom 62 = .ok (.iconst 2, 1) := by decide +kernel
theorem dX4_goneFrom_63 : decode cX4_goneFrom 63 = .ok (.isub, 1) := by decide +kernel
theorem dX4_goneFrom_64 : decode cX4_goneFrom 64 = .ok (.iload_n 2, 1) := by decide +kernel
theorem dX4_goneFrom_65 : decode cX4_goneFrom 65 = .ok (.invokevirtual 164, 3) := by decide +kernel
theorem dX4_goneFrom_68 : decode cX4_goneFrom 68 = .ok (.ifCond .ne 10, 3) := by decide +kernel
theorem dX4_goneFrom_71 : decode cX4_goneFrom 71 = .ok (.iload_n 3, 1) := by decide +kernel
theorem dX4_goneFrom_72 : decode cX4_goneFrom 72 = .ok (.iconst 1, 1) := by decide +kernel
theorem dX4_goneFrom_73 : decode cX4_goneFrom 73 = .ok (.iload 4, 2) := by decide +kernel
theorem dX4_goneFrom_75 : decode cX4_goneFrom 75 = .ok (.ishl, 1) := by decide +kernel
theorem dX4_goneFrom_76 : decode cX4_goneFrom 76 = .ok (.ior, 1) := by decide +kernel
theorem dX4_goneFrom_77 : decode cX4_goneFrom 77 = .ok (.istore_n 3, 1) := by decide +kernel
theorem dX4_goneFrom_78 : decode cX4_goneFrom 78 = .ok (.iinc 4 1, 3) := by decide +kernel
theorem dX4_goneFrom_81 : decode cX4_goneFrom 81 = .ok (.goto (-61), 3) := by decide +kernel
theorem dX4_goneFrom_84 : decode cX4_goneFrom 84 = .ok (.iload_n 3, 1) := by decide +kernel
theorem dX4_goneFrom_85 : decode cX4_goneFrom 85 = .ok (.ireturn, 1) := by decide +kernel
abbrev rm_m_X4_goneFrom : Room := { frames := 4, cells := 0, slots := 0, locals := 92 }
set_option maxHeartbeats 4000000 in
set_option maxRecDepth 100000 in
theorem m_X4_goneFrom {s0 : State} {l : Launch} {D : va_G} {cy : Nat → ClassId} (G : Gl s0 l D cy) (S : HS) (ea ns nj nm nt nr nc : Nat) (h : CI ea S ns nj nm nt nr nc) (a d : Int32) : Ctr s0 l D cy yX4_goneFrom cX4_goneFrom 6 (some .int) rm_m_X4_goneFrom S [.ref (gG S 4 0), .int a, .int d] (PXi S) := by
  refine pro "CavershamShift$Newsroom" G rfl rfl (Nat.le_of_ble_eq_true rfl) (fun p e s m below meth c ls X w hnm hl => ?_)
  have hx := X.1
  have hb := X.2.1
  have hown := X.2.2.2.1
  have hts := X.2.2.2.2.1
  have hl : lv_has ls 6 [(0, .ref (gG S 4 0)), (1, .int a), (2, .int d)] := hl
  refine lv_aload_n hx hb dX4_goneFrom_0 rfl (lv_at hl 0 rfl) ?_
  refine lv_iload_n hx hb dX4_goneFrom_1 rfl (lv_at hl 1 rfl) ?_
  refine lv_iload_n hx hb dX4_goneFrom_2 rfl (lv_at hl 2 rfl) ?_
  refine lv_iconst (v := 2) hx hb dX4_goneFrom_3 (by decide) ?_
  refine lv_isub hx hb dX4_goneFrom_4 ?_
  refine lv_iload_n hx hb dX4_goneFrom_5 rfl (lv_at hl 2 rfl) ?_
  refine cV (S := S) (nA := 3) (As := [.int a, .int (d - 2), .int d]) (rest := []) X w hl h.v4 (m_X4_countReportsOn G S ea ns nj nm nt nr nc h a (d - 2) d) wY_X4_countReportsOn wM_X4_160 wIn_X4_countReportsOn wSe_X4_X4_countReportsOn wI_X4 (by decide) rfl (by decide +kernel) rfl rfl dX4_goneFrom_6 ⟨by decide, by decide⟩ (Nat.le_of_ble_eq_true rfl) (⟨Nat.le_of_ble_eq_true rfl, Nat.le_of_ble_eq_true rfl⟩) (fun v2 S1 H locs hp w => ?_)
  obtain ⟨⟨x1, rfl⟩, rfl⟩ := hp
  refine lv_iconst (v := 2) hx hb dX4_goneFrom_9 (by decide) ?_
  refine lv_icmp_ge (tgt := 15) hx hb dX4_goneFrom_10 (by decide) (fun hc3 => ?_) (fun hc3 => ?_)
  · refine lv_iconst (v := 0) hx hb dX4_goneFrom_15 (by decide) ?_
    refine lv_istore_n (lv' := [(3, .int 0), (0, .ref (gG S 4 0)), (1, .int a), (2, .int d)]) hx hb dX4_goneFrom_16 rfl hl (by decide) rfl (fun ls hl => ?_)
    refine lv_iconst (v := 0) hx hb dX4_goneFrom_17 (by decide) ?_
    refine lv_istore (lv' := [(4, .int 0), (3, .int 0), (0, .ref (gG S 4 0)), (1, .int a), (2, .int d)]) hx hb dX4_goneFrom_18 hl (by decide) rfl (fun ls hl => ?_)
    have L20 : ∀ (N : Nat) (k20 : Nat) (v20_3 : Int32) (H : Heap) (locs : List Loc) (ls : Array Slot), 16 - k20 < N → (k20 ≤ 16) → Wd s0 D cy S s.heap H locs → lv_has ls 6 [(4, .int (nI k20)), (3, .int v20_3), (0, .ref (gG S 4 0)), (1, .int a), (2, .int d)] → W p l e rm_m_X4_goneFrom s m ([.ref (gG S 4 0), .int a, .int d] : List Value).toArray below meth c H locs 0 0 (MQ below (GQ s0 D cy (PXi S)) ([.ref (gG S 4 0), .int a, .int d] : List Value).toArray s rm_m_X4_goneFrom.cells rm_m_X4_goneFrom.slots (A0 s0)) (F0 m 20 ls []) := by
      intro N
      induction N with
      | zero => intros; omega
      | succ N ih20 =>
        intro k20 v20_3 H locs ls hmu hk_k20 w hl
        refine lv_iload hx hb dX4_goneFrom_20 (lv_at hl 0 rfl) ?_
        refine lv_bipush (v := 16) hx hb dX4_goneFrom_22 (by decide) ?_
        refine lv_icmp_ge (tgt := 84) hx hb dX4_goneFrom_24 (by decide) (fun hc_k20 => ?_) (fun hc_k20 => ?_)
        · have hge_k20 : 16 ≤ k20 := by
            skip
            exact (nI_leI (a := 16) (b := k20) (by omega) (by omega)).mp hc_k20
          refine lv_iload_n hx hb dX4_goneFrom_84 rfl (lv_at hl 1 rfl) ?_
          exact rI X w rfl dX4_goneFrom_85 (by decide) (by decide) (px_i)
        · have hlt_k20 : k20 < 16 := by
            skip
            exact Nat.lt_of_not_le (fun z => hc_k20 ((nI_leI (a := 16) (b := k20) (by omega) (by omega)).mpr z))
          refine lv_aload_n hx hb dX4_goneFrom_27 rfl (lv_at hl 2 rfl) ?_
          refine lv_iload_n hx hb dX4_goneFrom_28 rfl (lv_at hl 3 rfl) ?_
          refine lv_iload hx hb dX4_goneFrom_29 (lv_at hl 0 rfl) ?_
          refine lv_iload_n hx hb dX4_goneFrom_31 rfl (lv_at hl 4 rfl) ?_
          refine lv_bipush (v := 9) hx hb dX4_goneFrom_32 (by decide) ?_
          refine lv_isub hx hb dX4_goneFrom_34 ?_
          refine lv_iload_n hx hb dX4_goneFrom_35 rfl (lv_at hl 4 rfl) ?_
          refine lv_iconst (v := 3) hx hb dX4_goneFrom_36 (by decide) ?_
          refine lv_isub hx hb dX4_goneFrom_37 ?_
          refine cV (S := S) (nA := 4) (As := [.int a, .int (nI k20), .int (d - 9), .int (d - 3)]) (rest := []) X w hl h.v4 (m_X4_countUsed G S ea ns nj nm nt nr nc h a (nI k20) (d - 9) (d - 3)) wY_X4_countUsed wM_X4_164 wIn_X4_countUsed wSe_X4_X4_countUsed wI_X4 (by decide) rfl (by decide +kernel) rfl rfl dX4_goneFrom_38 ⟨by decide, by decide⟩ (Nat.le_of_ble_eq_true rfl) (⟨Nat.le_of_ble_eq_true rfl, Nat.le_of_ble_eq_true rfl⟩) (fun v5 S1 H locs hp w => ?_)
          obtain ⟨⟨x4, rfl⟩, rfl⟩ := hp
          refine lv_iconst (v := 3) hx hb dX4_goneFrom_41 (by decide) ?_
          have J50 : ∀ (z50_0 : Bool) (H : Heap) (locs : List Loc) (ls : Array Slot), Wd s0 D cy S s.heap H locs → lv_has ls 6 [(4, .int (nI k20)), (3, .int v20_3), (0, .ref (gG S 4 0)), (1, .int a), (2, .int d)] → W p l e rm_m_X4_goneFrom s m ([.ref (gG S 4 0), .int a, .int d] : List Value).toArray below meth c H locs 0 0 (MQ below (GQ s0 D cy (PXi S)) ([.ref (gG S 4 0), .int a, .int d] : List Value).toArray s rm_m_X4_goneFrom.cells rm_m_X4_goneFrom.slots (A0 s0)) (F0 m 50 ls [.int (b2i z50_0)]) := by
            intro z50_0 H locs ls  w hl
            refine lv_istore (lv' := [(5, .int (b2i z50_0)), (4, .int (nI k20)), (3, .int v20_3), (0, .ref (gG S 4 0)), (1, .int a), (2, .int d)]) hx hb dX4_goneFrom_50 hl (by decide) rfl (fun ls hl => ?_)
            refine lv_iload hx hb dX4_goneFrom_52 (lv_at hl 0 rfl) ?_
            have J78 : ∀ (y78_3 : Int32) (H : Heap) (locs : List Loc) (ls : Array Slot), Wd s0 D cy S s.heap H locs → lv_has ls 6 [(5, .int (b2i z50_0)), (4, .int (nI k20)), (3, .int y78_3), (0, .ref (gG S 4 0)), (1, .int a), (2, .int d)] → W p l e rm_m_X4_goneFrom s m ([.ref (gG S 4 0), .int a, .int d] : List Value).toArray below meth c H locs 0 0 (MQ below (GQ s0 D cy (PXi S)) ([.ref (gG S 4 0), .int a, .int d] : List Value).toArray s rm_m_X4_goneFrom.cells rm_m_X4_goneFrom.slots (A0 s0)) (F0 m 78 ls []) := by
              intro y78_3 H locs ls  w hl
              refine lv_iinc (v := nI (k20 + 1)) (lv' := [(4, .int (nI (k20 + 1))), (5, .int (b2i z50_0)), (3, .int y78_3), (0, .ref (gG S 4 0)), (1, .int a), (2, .int d)]) hx hb dX4_goneFrom_78 hl (k := 1) rfl (nI_1 _) (by decide) rfl (fun ls hl => ?_)
              refine lv_goto (tgt := 20) hx hb dX4_goneFrom_81 (by decide) ?_
              exact ih20 (k20 + 1) y78_3 _ _ _ (by omega) (hlt_k20) w (lv_sub hl [0, 2, 3, 4, 5] rfl)
            refine lv_if_eq (tgt := 78) hx hb dX4_goneFrom_54 (by decide) (fun hc6 => ?_) (fun hc6 => ?_)
            · exact J78 v20_3 _ _ _  w (lv_sub hl [0, 1, 2, 3, 4, 5] rfl)
            · refine lv_aload_n hx hb dX4_goneFrom_57 rfl (lv_at hl 3 rfl) ?_
              refine lv_iload_n hx hb dX4_goneFrom_58 rfl (lv_at hl 4 rfl) ?_
              refine lv_iload hx hb dX4_goneFrom_59 (lv_at hl 1 rfl) ?_
              refine lv_iload_n hx hb dX4_goneFrom_61 rfl (lv_at hl 5 rfl) ?_
              refine lv_iconst (v := 2) hx hb dX4_goneFrom_62 (by decide) ?_
              refine lv_isub hx hb dX4_goneFrom_63 ?_
              refine lv_iload_n hx hb dX4_goneFrom_64 rfl (lv_at hl 5 rfl) ?_
              refine cV (S := S) (nA := 4) (As := [.int a, .int (nI k20), .int (d - 2), .int d]) (rest := []) X w hl h.v4 (m_X4_countUsed G S ea ns nj nm nt nr nc h a (nI k20) (d - 2) d) wY_X4_countUsed wM_X4_164 wIn_X4_countUsed wSe_X4_X4_countUsed wI_X4 (by decide) rfl (by decide +kernel) rfl rfl dX4_goneFrom_65 ⟨by decide, by decide⟩ (Nat.le_of_ble_eq_true rfl) (⟨Nat.le_of_ble_eq_true rfl, Nat.le_of_ble_eq_true rfl⟩) (fun v8 S1 H locs hp w => ?_)
              obtain ⟨⟨x7, rfl⟩, rfl⟩ := hp
              refine lv_if_ne (tgt := 78) hx hb dX4_goneFrom_68 (by decide) (fun hc9 => ?_) (fun hc9 => ?_)
              · exact J78 v20_3 _ _ _  w (lv_sub hl [0, 1, 2, 3, 4, 5] rfl)
              · refine lv_iload_n hx hb dX4_goneFrom_71 rfl (lv_at hl 2 rfl) ?_
                refine lv_iconst (v := 1) hx hb dX4_goneFrom_72 (by decide) ?_
                refine lv_iload hx hb dX4_goneFrom_73 (lv_at hl 1 rfl) ?_
                refine lv_ishl hx hb dX4_goneFrom_75 ?_
                refine lv_ior hx hb dX4_goneFrom_76 ?_
                refine lv_istore_n (lv' := [(3, .int (v20_3 ||| (1 <<< ((nI k20) &&& 31)))), (5, .int (b2i z50_0)), (4, .int (nI k20)), (0, .ref (gG S 4 0)), (1, .int a), (2, .int d)]) hx hb dX4_goneFrom_77 rfl hl (by decide) rfl (fun ls hl => ?_)
                exact J78 (v20_3 ||| (1 <<< ((nI k20) &&& 31))) _ _ _  w (lv_sub hl [1, 2, 0, 3, 4, 5] rfl)
          refine lv_icmp_lt (tgt := 49) hx hb dX4_goneFrom_42 (by decide) (fun hc10 => ?_) (fun hc10 => ?_)
          · refine lv_iconst (v := 0) hx hb dX4_goneFrom_49 (by decide) ?_
            exact J50 false _ _ _  w (lv_sub hl [0, 1, 2, 3, 4] rfl)
          · refine lv_iconst (v := 1) hx hb dX4_goneFrom_45 (by decide) ?_
            refine lv_goto (tgt := 50) hx hb dX4_goneFrom_46 (by decide) ?_
            exact J50 true _ _ _  w (lv_sub hl [0, 1, 2, 3, 4] rfl)
    exact L20 _ 0 0 _ _ _ (Nat.lt_succ_self _) (Nat.zero_le _) w (lv_sub hl [0, 1, 2, 3, 4] rfl)
  · refine lv_iconst (v := 0) hx hb dX4_goneFrom_13 (by decide) ?_
    exact rI X w rfl dX4_goneFrom_14 (by decide) (by decide) (px_i)

theorem dX4_firstSentOn_0 : decode cX4_firstSentOn 0 = .ok (.iconst (-1), 1) := by decide +kernel
theorem dX4_firstSentOn_1 : decode cX4_firstSentOn 1 = .ok (.istore_n 2, 1) := by decide +kernel
theorem dX4_firstSentOn_2 : decode cX4_firstSentOn 2 = .ok (.aload_n 0, 1) := by decide +kernel
theorem dX4_firstSentOn_3 : decode cX4_firstSentOn 3 = .ok (.getfield 106, 3) := by decide +kernel
theorem dX4_firstSentOn_6 : decode cX4_firstSentOn 6 = .ok (.istore_n 3, 1) := by decide +kernel
theorem dX4_firstSentOn_7 : decode cX4_firstSentOn 7 = .ok (.iconst 0, 1) := by decide +kernel
theorem dX4_firstSentOn_8 : decode cX4_firstSentOn 8 = .ok (.istore 4, 2) := by decide +kernel
theorem dX4_firstSentOn_10 : decode cX4_firstSentOn 10 = .ok (.iload 4, 2) := by decide +kernel
theorem dX4_firstSentOn_12 : decode cX4_firstSentOn 12 = .ok (.aload_n 0, 1) := by decide +kernel
theorem dX4_firstSentOn_13 : decode cX4_firstSentOn 13 = .ok (.getfield 12, 3) := by decide +kernel
theorem dX4_firstSentOn_16 : decode cX4_firstSentOn 16 = .ok (.invokevirtual 28, 3) := by decide +kernel
theorem dX4_firstSentOn_19 : decode cX4_firstSentOn 19 = .ok (.if_icmp .ge 74, 3) := by decide +kernel
theorem dX4_firstSentOn_22 : decode cX4_firstSentOn 22 = .ok (.aload_n 0, 1) := by decide +kernel
theorem dX4_firstSentOn_23 : decode cX4_firstSentOn 23 = .ok (.getfield 12, 3) := by decide +kernel
theorem dX4_firstSentOn_26 : decode cX4_firstSentOn 26 = .ok (.iload 4, 2) := by decide +kernel
theorem dX4_firstSentOn_28 : decode cX4_firstSentOn 28 = .ok (.invokevirtual 36, 3) := by decide +kernel
theorem dX4_firstSentOn_31 : decode cX4_firstSentOn 31 = .ok (.checkcast 40, 3) := by decide +kernel
theorem dX4_firstSentOn_34 : decode cX4_firstSentOn 34 = .ok (.astore 5, 2) := by decide +kernel
theorem dX4_firstSentOn_36 : decode cX4_firstSentOn 36 = .ok (.aload 5, 2) := by decide +kernel
theorem dX4_firstSentOn_38 : decode cX4_firstSentOn 38 = .ok (.getfield 71, 3) := by decide +kernel
theorem dX4_firstSentOn_41 : decode cX4_firstSentOn 41 = .ok (.astore 6, 2) := by decide +kernel
theorem dX4_firstSentOn_43 : decode cX4_firstSentOn 43 = .ok (.aload 6, 2) := by decide +kernel
theorem dX4_firstSentOn_45 : decode cX4_firstSentOn 45 = .ok (.ifnull 42, 3) := by decide +kernel
theorem dX4_firstSentOn_48 : decode cX4_firstSentOn 48 = .ok (.aload 5, 2) := by decide +kernel
theorem dX4_firstSentOn_50 : decode cX4_firstSentOn 50 = .ok (.getfield 168, 3) := by decide +kernel
theorem dX4_firstSentOn_53 : decode cX4_firstSentOn 53 = .ok (.iload_n 1, 1) := by decide +kernel
theorem dX4_firstSentOn_54 : decode cX4_firstSentOn 54 = .ok (.if_icmp .ne 33, 3) := by decide +kernel
theorem dX4_firstSentOn_57 : decode cX4_firstSentOn 57 = .ok (.aload 6, 2) := by decide +kernel
theorem dX4_firstSentOn_59 : decode cX4_firstSentOn 59 = .ok (.getfield 56, 3) := by decide +kernel
theorem dX4_firstSentOn_62 : decode cX4_firstSentOn 62 = .ok (.iconst 1, 1) := by decide +kernel
theorem dX4_firstSentOn_63 : decode cX4_firstSentOn 63 = .ok (.if_icmp .ne 24, 3) := by decide +kernel
theorem dX4_firstSentOn_66 : decode cX4_firstSentOn 66 = .ok (.aload 6, 2) := by decide +kernel
theorem dX4_firstSentOn_68 : decode cX4_firstSentOn 68 = .ok (.getfield 109, 3) := by decide +kernel
theorem dX4_firstSentOn_71 : decode cX4_firstSentOn 71 = .ok (.iload_n 3, 1) := by decide +kernel
theorem dX4_firstSentOn_72 : decode cX4_firstSentOn 72 = .ok (.if_icmp .ge 15, 3) := by decide +kernel
theorem dX4_firstSentOn_75 : decode cX4_firstSentOn 75 = .ok (.aload 5, 2) := by decide +kernel
theorem dX4_firstSentOn_77 : decode cX4_firstSentOn 77 = .ok (.getfield 171, 3) := by decide +kernel
theorem dX4_firstSentOn_80 : decode cX4_firstSentOn 80 = .ok (.istore_n 2, 1) := by decide +kernel
theorem dX4_firstSentOn_81 : decode cX4_firstSentOn 81 = .ok (.aload 6, 2) := by decide +kernel
theorem dX4_firstSentOn_83 : decode cX4_firstSentOn 83 = .ok (.getfield 109, 3) := by decide +kernel
theorem dX4_firstSentOn_86 : decode cX4_firstSentOn 86 = .ok (.istore_n 3, 1) := by decide +kernel
theorem dX4_firstSentOn_87 : decode cX4_firstSentOn 87 = .ok (.iinc 4 1, 3) := by decide +kernel
theorem dX4_firstSentOn_90 : decode cX4_firstSentOn 90 = .ok (.goto (-80), 3) := by decide +kernel
theorem dX4_firstSentOn_93 : decode cX4_firstSentOn 93 = .ok (.iload_n 2, 1) := by decide +kernel
theorem dX4_firstSentOn_94 : decode cX4_firstSentOn 94 = .ok (.ireturn, 1) := by decide +kernel
abbrev rm_m_X4_firstSentOn : Room := { frames := 3, cells := 0, slots := 0, locals := 64 }
set_option maxHeartbeats 4000000 in
set_option maxRecDepth 100000 in
theorem m_X4_firstSentOn {s0 : State} {l : Launch} {D : va_G} {cy : Nat → ClassId} (G : Gl s0 l D cy) (S : HS) (ea ns nj nm nt nr nc : Nat) (h : CI ea S ns nj nm nt nr nc) (a : Int32) : Ctr s0 l D cy yX4_firstSentOn cX4_firstSentOn 7 (some .int) rm_m_X4_firstSentOn S [.ref (gG S 4 0), .int a] (PXi S) := by
  refine pro "CavershamShift$Newsroom" G rfl rfl (Nat.le_of_ble_eq_true rfl) (fun p e s m below meth c ls X w hnm hl => ?_)
  have hx := X.1
  have hb := X.2.1
  have hown := X.2.2.2.1
  have hts := X.2.2.2.2.1
  have hl : lv_has ls 7 [(0, .ref (gG S 4 0)), (1, .int a)] := hl
  refine lv_iconst (v := (-1)) hx hb dX4_firstSentOn_0 (by decide) ?_
  refine lv_istore_n (lv' := [(2, .int (-1)), (0, .ref (gG S 4 0)), (1, .int a)]) hx hb dX4_firstSentOn_1 rfl hl (by decide) rfl (fun ls hl => ?_)
  refine lv_aload_n hx hb dX4_firstSentOn_2 rfl (lv_at hl 1 rfl) ?_
  refine g_4_4 (S := S) (x := (mI S 68 0)) X w h.v4 wF_X4_106 (rfl) dX4_firstSentOn_3 ?_
  refine lv_istore_n (lv' := [(3, .int (mI S 68 0)), (2, .int (-1)), (0, .ref (gG S 4 0)), (1, .int a)]) hx hb dX4_firstSentOn_6 rfl hl (by decide) rfl (fun ls hl => ?_)
  refine lv_iconst (v := 0) hx hb dX4_firstSentOn_7 (by decide) ?_
  refine lv_istore (lv' := [(4, .int 0), (3, .int (mI S 68 0)), (2, .int (-1)), (0, .ref (gG S 4 0)), (1, .int a)]) hx hb dX4_firstSentOn_8 hl (by decide) rfl (fun ls hl => ?_)
  have L10 : ∀ (N : Nat) (k10 : Nat) (v10_3 : Int32) (v10_2 : Int32) (H : Heap) (locs : List Loc) (ls : Array Slot), nt - k10 < N → (k10 ≤ nt) → Wd s0 D cy S s.heap H locs → lv_has ls 7 [(4, .int (nI k10)), (3, .int v10_3), (2, .int v10_2), (0, .ref (gG S 4 0)), (1, .int a)] → W p l e rm_m_X4_firstSentOn s m ([.ref (gG S 4 0), .int a] : List Value).toArray below meth c H locs 0 0 (MQ below (GQ s0 D cy (PXi S)) ([.ref (gG S 4 0), .int a] : List Value).toArray s rm_m_X4_firstSentOn.cells rm_m_X4_firstSentOn.slots (A0 s0)) (F0 m 10 ls []) := by
    intro N
    induction N with
    | zero => intros; omega
    | succ N ih10 =>
      intro k10 v10_3 v10_2 H locs ls hmu hk_k10 w hl
      refine lv_iload hx hb dX4_firstSentOn_10 (lv_at hl 0 rfl) ?_
      refine lv_aload_n hx hb dX4_firstSentOn_12 rfl (lv_at hl 3 rfl) ?_
      refine g_4_0 (S := S) (x := (some (gG S 17 3))) X w h.v4 wF_X4_12 (h.f64) dX4_firstSentOn_13 ?_
      refine cV (S := S) (nA := 0) (As := []) (rest := [.int (nI k10)]) X w hl h.l_ta.1 (m_size G S ea 3 nt h.l_ta) wY_Jx4a65c_size_8abf5 wM_X4_28 wIn_Jx4a65c_size_8abf5 wSe_Jx4a65c_Jx4a65c_size_8abf5 wI_Jx4a65c (by decide) rfl (by decide +kernel) rfl rfl dX4_firstSentOn_16 ⟨by decide, by decide⟩ (Nat.le_of_ble_eq_true rfl) (⟨Nat.le_of_ble_eq_true rfl, Nat.le_of_ble_eq_true rfl⟩) (fun v1 S1 H locs hp w => ?_)
      obtain ⟨rfl, rfl⟩ := hp
      refine lv_icmp_ge (tgt := 93) hx hb dX4_firstSentOn_19 (by decide) (fun hc_k10 => ?_) (fun hc_k10 => ?_)
      · have hge_k10 : nt ≤ k10 := by
          have hb1 := h.b_ta
          exact (nI_leI (a := nt) (b := k10) (by omega) (by omega)).mp hc_k10
        refine lv_iload_n hx hb dX4_firstSentOn_93 rfl (lv_at hl 2 rfl) ?_
        exact rI X w rfl dX4_firstSentOn_94 (by decide) (by decide) (px_i)
      · have hlt_k10 : k10 < nt := by
          have hb1 := h.b_ta
          exact Nat.lt_of_not_le (fun z => hc_k10 ((nI_leI (a := nt) (b := k10) (by omega) (by omega)).mpr z))
        refine lv_aload_n hx hb dX4_firstSentOn_22 rfl (lv_at hl 3 rfl) ?_
        refine g_4_0 (S := S) (x := (some (gG S 17 3))) X w h.v4 wF_X4_12 (h.f64) dX4_firstSentOn_23 ?_
        refine lv_iload hx hb dX4_firstSentOn_26 (lv_at hl 0 rfl) ?_
        refine cV (S := S) (nA := 1) (As := [.int (nI k10)]) (rest := []) X w hl h.l_ta.1 (m_get G S ea 3 k10 nt (some (gG S 9 k10)) h.l_ta hlt_k10 (h.e_ta k10 hlt_k10).1) wY_Jx4a65c_get_915e3 wM_X4_36 wIn_Jx4a65c_get_915e3 wSe_Jx4a65c_Jx4a65c_get_915e3 wI_Jx4a65c (by decide) rfl (by decide +kernel) rfl rfl dX4_firstSentOn_28 ⟨by decide, by decide⟩ (Nat.le_of_ble_eq_true rfl) (⟨Nat.le_of_ble_eq_true rfl, Nat.le_of_ble_eq_true rfl⟩) (fun v2 S1 H locs hp w => ?_)
        obtain ⟨rfl, rfl⟩ := hp
        refine ckC (S := S) (t := 9) X w (h.e_ta k10 hlt_k10).2 (by decide) rfl wC_X4_40 dX4_firstSentOn_31 ?_
        refine lv_astore (lv' := [(5, .ref (gG S 9 k10)), (4, .int (nI k10)), (3, .int v10_3), (2, .int v10_2), (0, .ref (gG S 4 0)), (1, .int a)]) hx hb dX4_firstSentOn_34 hl (by decide) rfl (fun ls hl => ?_)
        refine lv_aload hx hb dX4_firstSentOn_36 (lv_at hl 0 rfl) ?_
        have J87 : ∀ (y87_3 : Int32) (y87_2 : Int32) (H : Heap) (locs : List Loc) (ls : Array Slot), Wd s0 D cy S s.heap H locs → lv_has ls 7 [(5, .ref (gG S 9 k10)), (4, .int (nI k10)), (3, .int y87_3), (2, .int y87_2), (0, .ref (gG S 4 0)), (1, .int a)] → W p l e rm_m_X4_firstSentOn s m ([.ref (gG S 4 0), .int a] : List Value).toArray below meth c H locs 0 0 (MQ below (GQ s0 D cy (PXi S)) ([.ref (gG S 4 0), .int a] : List Value).toArray s rm_m_X4_firstSentOn.cells rm_m_X4_firstSentOn.slots (A0 s0)) (F0 m 87 ls []) := by
          intro y87_3 y87_2 H locs ls  w hl
          refine lv_iinc (v := nI (k10 + 1)) (lv' := [(4, .int (nI (k10 + 1))), (5, .ref (gG S 9 k10)), (3, .int y87_3), (2, .int y87_2), (0, .ref (gG S 4 0)), (1, .int a)]) hx hb dX4_firstSentOn_87 hl (k := 1) rfl (nI_1 _) (by decide) rfl (fun ls hl => ?_)
          refine lv_goto (tgt := 10) hx hb dX4_firstSentOn_90 (by decide) ?_
          exact ih10 (k10 + 1) y87_3 y87_2 _ _ _ (by omega) (hlt_k10) w (lv_sub hl [0, 2, 3, 4, 5] rfl)
        rcases h.t_rp k10 hlt_k10 with her3 | ⟨her3, hvr3⟩
        · refine g_9_8 (S := S) (x := none) X w (h.e_ta k10 hlt_k10).2 wF_X4_71 (her3) dX4_firstSentOn_38 ?_
          refine lv_astoreN (lv' := [(6, .null), (5, .ref (gG S 9 k10)), (4, .int (nI k10)), (3, .int v10_3), (2, .int v10_2), (0, .ref (gG S 4 0)), (1, .int a)]) hx hb dX4_firstSentOn_41 hl (by decide) rfl (fun ls hl => ?_)
          refine lv_aloadN hx hb dX4_firstSentOn_43 (lv_at hl 0 rfl) ?_
          refine lv_ifnullN (tgt := 87) hx hb dX4_firstSentOn_45 (by decide) ?_
          exact J87 v10_3 v10_2 _ _ _  w (lv_sub hl [1, 2, 3, 4, 5, 6] rfl)
        · refine g_9_8 (S := S) (x := (some (gG S 6 k10))) X w (h.e_ta k10 hlt_k10).2 wF_X4_71 (her3) dX4_firstSentOn_38 ?_
          refine lv_astore (lv' := [(6, .ref (gG S 6 k10)), (5, .ref (gG S 9 k10)), (4, .int (nI k10)), (3, .int v10_3), (2, .int v10_2), (0, .ref (gG S 4 0)), (1, .int a)]) hx hb dX4_firstSentOn_41 hl (by decide) rfl (fun ls hl => ?_)
          refine lv_aload hx hb dX4_firstSentOn_43 (lv_at hl 0 rfl) ?_
          refine lv_ifnull hx hb dX4_firstSentOn_45 ?_
          refine lv_aload hx hb dX4_firstSentOn_48 (lv_at hl 1 rfl) ?_
          refine g_9_3 (S := S) (x := (mI S 147 k10)) X w (h.e_ta k10 hlt_k10).2 wF_X4_168 (rfl) dX4_firstSentOn_50 ?_
          refine lv_iload_n hx hb dX4_firstSentOn_53 rfl (lv_at hl 6 rfl) ?_
          refine lv_icmp_ne (tgt := 87) hx hb dX4_firstSentOn_54 (by decide) (fun hc4 => ?_) (fun hc4 => ?_)
          · exact J87 v10_3 v10_2 _ _ _  w (lv_sub hl [1, 2, 3, 4, 5, 6] rfl)
          · refine lv_aload hx hb dX4_firstSentOn_57 (lv_at hl 0 rfl) ?_
            refine g_6_8 (S := S) (x := (mI S 104 k10)) X w hvr3 wF_X4_56 (rfl) dX4_firstSentOn_59 ?_
            refine lv_iconst (v := 1) hx hb dX4_firstSentOn_62 (by decide) ?_
            refine lv_icmp_ne (tgt := 87) hx hb dX4_firstSentOn_63 (by decide) (fun hc5 => ?_) (fun hc5 => ?_)
            · exact J87 v10_3 v10_2 _ _ _  w (lv_sub hl [1, 2, 3, 4, 5, 6] rfl)
            · refine lv_aload hx hb dX4_firstSentOn_66 (lv_at hl 0 rfl) ?_
              refine g_6_10 (S := S) (x := (mI S 106 k10)) X w hvr3 wF_X4_109 (rfl) dX4_firstSentOn_68 ?_
              refine lv_iload_n hx hb dX4_firstSentOn_71 rfl (lv_at hl 3 rfl) ?_
              refine lv_icmp_ge (tgt := 87) hx hb dX4_firstSentOn_72 (by decide) (fun hc6 => ?_) (fun hc6 => ?_)
              · exact J87 v10_3 v10_2 _ _ _  w (lv_sub hl [1, 2, 3, 4, 5, 6] rfl)
              · refine lv_aload hx hb dX4_firstSentOn_75 (lv_at hl 1 rfl) ?_
                refine g_9_0 (S := S) (x := (mI S 144 k10)) X w (h.e_ta k10 hlt_k10).2 wF_X4_171 (rfl) dX4_firstSentOn_77 ?_
                refine lv_istore_n (lv' := [(2, .int (mI S 144 k10)), (6, .ref (gG S 6 k10)), (5, .ref (gG S 9 k10)), (4, .int (nI k10)), (3, .int v10_3), (0, .ref (gG S 4 0)), (1, .int a)]) hx hb dX4_firstSentOn_80 rfl hl (by decide) rfl (fun ls hl => ?_)
                refine lv_aload hx hb dX4_firstSentOn_81 (lv_at hl 1 rfl) ?_
                refine g_6_10 (S := S) (x := (mI S 106 k10)) X w hvr3 wF_X4_109 (rfl) dX4_firstSentOn_83 ?_
                refine lv_istore_n (lv' := [(3, .int (mI S 106 k10)), (2, .int (mI S 144 k10)), (6, .ref (gG S 6 k10)), (5, .ref (gG S 9 k10)), (4, .int (nI k10)), (0, .ref (gG S 4 0)), (1, .int a)]) hx hb dX4_firstSentOn_86 rfl hl (by decide) rfl (fun ls hl => ?_)
                exact J87 (mI S 106 k10) (mI S 144 k10) _ _ _  w (lv_sub hl [3, 4, 0, 1, 5, 6] rfl)
  exact L10 _ 0 (mI S 68 0) (-1) _ _ _ (Nat.lt_succ_self _) (Nat.zero_le _) w (lv_sub hl [0, 1, 2, 3, 4] rfl)

theorem dX4_areReportsSound_0 : decode cX4_areReportsSound 0 = .ok (.iconst 0, 1) := by decide +kernel
theorem dX4_areReportsSound_1 : decode cX4_areReportsSound 1 = .ok (.istore_n 1, 1) := by decide +kernel
theorem dX4_areReportsSound_2 : decode cX4_areReportsSound 2 = .ok (.iload_n 1, 1) := by decide +kernel
theorem dX4_areReportsSound_3 : decode cX4_areReportsSound 3 = .ok (.aload_n 0, 1) := by decide +kernel
theorem dX4_areReportsSound_4 : decode cX4_areReportsSound 4 = .ok (.getfield 12, 3) := by decide +kernel
theorem dX4_areReportsSound_7 : decode cX4_areReportsSound 7 = .ok (.invokevirtual 28, 3) := by decide +kernel
theorem dX4_areReportsSound_10 : decode cX4_areReportsSound 10 = .ok (.if_icmp .ge 85, 3) := by decide +kernel
theorem dX4_areReportsSound_13 : decode cX4_areReportsSound 13 = .ok (.aload_n 0, 1) := by decide +kernel
theorem dX4_areReportsSound_14 : decode cX4_areReportsSound 14 = .ok (.getfield 12, 3) := by decide +kernel
theorem dX4_areReportsSound_17 : decode cX4_areReportsSound 17 = .ok (.iload_n 1, 1) := by decide +kernel
theorem dX4_areReportsSound_18 : decode cX4_areReportsSound 18 = .ok (.invokevirtual 36, 3) := by decide +kernel
theorem dX4_areReportsSound_21 : decode cX4_areReportsSound 21 = .ok (.checkcast 40, 3) := by decide +kernel
theorem dX4_areReportsSound_24 : decode cX4_areReportsSound 24 = .ok (.astore_n 2, 1) := by decide +kernel
theorem dX4_areReportsSound_25 : decode cX4_areReportsSound 25 = .ok (.aload_n 2, 1) := by decide +kernel
theorem dX4_areReportsSound_26 : decode cX4_areReportsSound 26 = .ok (.getfield 71, 3) := by decide +kernel
theorem dX4_areReportsSound_29 : decode cX4_areReportsSound 29 = .ok (.astore_n 3, 1) := by decide +kernel
theorem dX4_areReportsSound_30 : decode cX4_areReportsSound 30 = .ok (.aload_n 3, 1) := by decide +kernel
theorem dX4_areReportsSound_31 : decode cX4_areReportsSound 31 = .ok (.ifnull 58, 3) := by decide +kernel
theorem dX4_areReportsSound_34 : decode cX4_areReportsSound 34 = .ok (.aload_n 3, 1) := by decide +kernel
theorem dX4_areReportsSound_35 : decode cX4_areReportsSound 35 = .ok (.getfield 116, 3) := by decide +kernel
theorem dX4_areReportsSound_38 : decode cX4_areReportsSound 38 = .ok (.ifCond .eq 15, 3) := by decide +kernel
theorem dX4_areReportsSound_41 : decode cX4_areReportsSound 41 = .ok (.aload_n 3, 1) := by decide +kernel
theorem dX4_areReportsSound_42 : decode cX4_areReportsSound 42 = .ok (.getfield 56, 3) := by decide +kernel
theorem dX4_areReportsSound_45 : decode cX4_areReportsSound 45 = .ok (.iconst 1, 1) := by decide +kernel
theorem dX4_areReportsSound_46 : decode cX4_areReportsSound 46 = .ok (.if_icmp .eq 7, 3) := by decide +kernel
theorem dX4_areReportsSound_49 : decode cX4_areReportsSound 49 = .ok (.iconst 1, 1) := by decide +kernel
theorem dX4_areReportsSound_50 : decode cX4_areReportsSound 50 = .ok (.goto 4, 3) := by decide +kernel
theorem dX4_areReportsSound_53 : decode cX4_areReportsSound 53 = .ok (.iconst 0, 1) := by decide +kernel
theorem dX4_areReportsSound_54 : decode cX4_areReportsSound 54 = .ok (.istore 4, 2) := by decide +kernel
theorem dX4_areReportsSound_56 : decode cX4_areReportsSound 56 = .ok (.aload_n 3, 1) := by decide +kernel
theorem dX4_areReportsSound_57 : decode cX4_areReportsSound 57 = .ok (.getfield 131, 3) := by decide +kernel
theorem dX4_areReportsSound_60 : decode cX4_areReportsSound 60 = .ok (.ifCond .eq 14, 3) := by decide +kernel
theorem dX4_areReportsSound_63 : decode cX4_areReportsSound 63 = .ok (.aload_n 2, 1) := by decide +kernel
theorem dX4_areReportsSound_64 : decode cX4_areReportsSound 64 = .ok (.invokevirtual 134, 3) := by decide +kernel
theorem dX4_areReportsSound_67 : decode cX4_areReportsSound 67 = .ok (.ifCond .ne 7, 3) := by decide +kernel
theorem dX4_areReportsSound_70 : decode cX4_areReportsSound 70 = .ok (.iconst 1, 1) := by decide +kernel
theorem dX4_areReportsSound_71 : decode cX4_areReportsSound 71 = .ok (.goto 4, 3) := by decide +kernel
theorem dX4_areReportsSound_74 : decode cX4_areReportsSound 74 = .ok (.iconst 0, 1) := by decide +kernel
theorem dX4_areReportsSound_75 : decode cX4_areReportsSound 75 = .ok (.istore 5, 2) := by decide +kernel
theorem dX4_areReportsSound_77 : decode cX4_areReportsSound 77 = .ok (.iload 4, 2) := by decide +kernel
theorem dX4_areReportsSound_79 : decode cX4_areReportsSound 79 = .ok (.ifCond .ne 8, 3) := by decide +kernel
theorem dX4_areReportsSound_82 : decode cX4_areReportsSound 82 = .ok (.iload 5, 2) := by decide +kernel
theorem dX4_areReportsSound_84 : decode cX4_areReportsSound 84 = .ok (.ifCond .eq 5, 3) := by decide +kernel
theorem dX4_areReportsSound_87 : decode cX4_areReportsSound 87 = .ok (.iconst 0, 1) := by decide +kernel
theorem dX4_areReportsSound_88 : decode cX4_areReportsSound 88 = .ok (.ireturn, 1) := by decide +kernel
theorem dX4_areReportsSound_89 : decode cX4_areReportsSound 89 = .ok (.iinc 1 1, 3) := by decide +kernel
theorem dX4_areReportsSound_92 : decode cX4_areReportsSound 92 = .ok (.goto (-90), 3) := by decide +kernel
theorem dX4_areReportsSound_95 : decode cX4_areReportsSound 95 = .ok (.iconst 1, 1) := by decide +kernel
theorem dX4_areReportsSound_96 : decode cX4_areReportsSound 96 = .ok (.ireturn, 1) := by decide +kernel
abbrev rm_m_X4_areReportsSound : Room := { frames := 3, cells := 0, slots := 0, locals := 64 }
set_option maxHeartbeats 4000000 in
set_option maxRecDepth 100000 in
theorem m_X4_areReportsSound {s0 : State} {l : Launch} {D : va_G} {cy : Nat → ClassId} (G : Gl s0 l D cy) (S : HS) (ea ns nj nm nt nr nc : Nat) (h : CI ea S ns nj nm nt nr nc)  : Ctr s0 l D cy yX4_areReportsSound cX4_areReportsSound 6 (some .boolean) rm_m_X4_areReportsSound S [.ref (gG S 4 0)] (PXz S) := by
  refine pro "CavershamShift$Newsroom" G rfl rfl (Nat.le_of_ble_eq_true rfl) (fun p e s m below meth c ls X w hnm hl => ?_)
  have hx := X.1
  have hb := X.2.1
  have hown := X.2.2.2.1
  have hts := X.2.2.2.2.1
  have hl : lv_has ls 6 [(0, .ref (gG S 4 0))] := hl
  refine lv_iconst (v := 0) hx hb dX4_areReportsSound_0 (by decide) ?_
  refine lv_istore_n (lv' := [(1, .int 0), (0, .ref (gG S 4 0))]) hx hb dX4_areReportsSound_1 rfl hl (by decide) rfl (fun ls hl => ?_)
  have L2 : ∀ (N : Nat) (k2 : Nat) (H : Heap) (locs : List Loc) (ls : Array Slot), nt - k2 < N → (k2 ≤ nt) → Wd s0 D cy S s.heap H locs → lv_has ls 6 [(1, .int (nI k2)), (0, .ref (gG S 4 0))] → W p l e rm_m_X4_areReportsSound s m ([.ref (gG S 4 0)] : List Value).toArray below meth c H locs 0 0 (MQ below (GQ s0 D cy (PXz S)) ([.ref (gG S 4 0)] : List Value).toArray s rm_m_X4_areReportsSound.cells rm_m_X4_areReportsSound.slots (A0 s0)) (F0 m 2 ls []) := by
    intro N
    induction N with
    | zero => intros; omega
    | succ N ih2 =>
      intro k2 H locs ls hmu hk_k2 w hl
      refine lv_iload_n hx hb dX4_areReportsSound_2 rfl (lv_at hl 0 rfl) ?_
      refine lv_aload_n hx hb dX4_areReportsSound_3 rfl (lv_at hl 1 rfl) ?_
      refine g_4_0 (S := S) (x := (some (gG S 17 3))) X w h.v4 wF_X4_12 (h.f64) dX4_areReportsSound_4 ?_
      refine cV (S := S) (nA := 0) (As := []) (rest := [.int (nI k2)]) X w hl h.l_ta.1 (m_size G S ea 3 nt h.l_ta) wY_Jx4a65c_size_8abf5 wM_X4_28 wIn_Jx4a65c_size_8abf5 wSe_Jx4a65c_Jx4a65c_size_8abf5 wI_Jx4a65c (by decide) rfl (by decide +kernel) rfl rfl dX4_areReportsSound_7 ⟨by decide, by decide⟩ (Nat.le_of_ble_eq_true rfl) (⟨Nat.le_of_ble_eq_true rfl, Nat.le_of_ble_eq_true rfl⟩) (fun v1 S1 H locs hp w => ?_)
      obtain ⟨rfl, rfl⟩ := hp
      refine lv_icmp_ge (tgt := 95) hx hb dX4_areReportsSound_10 (by decide) (fun hc_k2 => ?_) (fun hc_k2 => ?_)
      · have hge_k2 : nt ≤ k2 := by
          have hb1 := h.b_ta
          exact (nI_leI (a := nt) (b := k2) (by omega) (by omega)).mp hc_k2
        refine lv_iconst (v := 1) hx hb dX4_areReportsSound_95 (by decide) ?_
        exact rZ X w rfl dX4_areReportsSound_96 (by decide) (by decide) (by decide) (px_z01 (by first | exact Or.inl rfl | exact Or.inr rfl | exact b2i_01 _))
      · have hlt_k2 : k2 < nt := by
          have hb1 := h.b_ta
          exact Nat.lt_of_not_le (fun z => hc_k2 ((nI_leI (a := nt) (b := k2) (by omega) (by omega)).mpr z))
        refine lv_aload_n hx hb dX4_areReportsSound_13 rfl (lv_at hl 1 rfl) ?_
        refine g_4_0 (S := S) (x := (some (gG S 17 3))) X w h.v4 wF_X4_12 (h.f64) dX4_areReportsSound_14 ?_
        refine lv_iload_n hx hb dX4_areReportsSound_17 rfl (lv_at hl 0 rfl) ?_
        refine cV (S := S) (nA := 1) (As := [.int (nI k2)]) (rest := []) X w hl h.l_ta.1 (m_get G S ea 3 k2 nt (some (gG S 9 k2)) h.l_ta hlt_k2 (h.e_ta k2 hlt_k2).1) wY_Jx4a65c_get_915e3 wM_X4_36 wIn_Jx4a65c_get_915e3 wSe_Jx4a65c_Jx4a65c_get_915e3 wI_Jx4a65c (by decide) rfl (by decide +kernel) rfl rfl dX4_areReportsSound_18 ⟨by decide, by decide⟩ (Nat.le_of_ble_eq_true rfl) (⟨Nat.le_of_ble_eq_true rfl, Nat.le_of_ble_eq_true rfl⟩) (fun v2 S1 H locs hp w => ?_)
        obtain ⟨rfl, rfl⟩ := hp
        refine ckC (S := S) (t := 9) X w (h.e_ta k2 hlt_k2).2 (by decide) rfl wC_X4_40 dX4_areReportsSound_21 ?_
        refine lv_astore_n (lv' := [(2, .ref (gG S 9 k2)), (1, .int (nI k2)), (0, .ref (gG S 4 0))]) hx hb dX4_areReportsSound_24 rfl hl (by decide) rfl (fun ls hl => ?_)
        refine lv_aload_n hx hb dX4_areReportsSound_25 rfl (lv_at hl 0 rfl) ?_
        rcases h.t_rp k2 hlt_k2 with her3 | ⟨her3, hvr3⟩
        · refine g_9_8 (S := S) (x := none) X w (h.e_ta k2 hlt_k2).2 wF_X4_71 (her3) dX4_areReportsSound_26 ?_
          refine lv_astore_nN (lv' := [(3, .null), (2, .ref (gG S 9 k2)), (1, .int (nI k2)), (0, .ref (gG S 4 0))]) hx hb dX4_areReportsSound_29 rfl hl (by decide) rfl (fun ls hl => ?_)
          refine lv_aload_nN hx hb dX4_areReportsSound_30 rfl (lv_at hl 0 rfl) ?_
          refine lv_ifnullN (tgt := 89) hx hb dX4_areReportsSound_31 (by decide) ?_
          refine lv_iinc (v := nI (k2 + 1)) (lv' := [(1, .int (nI (k2 + 1))), (3, .null), (2, .ref (gG S 9 k2)), (0, .ref (gG S 4 0))]) hx hb dX4_areReportsSound_89 hl (k := 2) rfl (nI_1 _) (by decide) rfl (fun ls hl => ?_)
          refine lv_goto (tgt := 2) hx hb dX4_areReportsSound_92 (by decide) ?_
          exact ih2 (k2 + 1) _ _ _ (by omega) (hlt_k2) w (lv_sub hl [0, 3] rfl)
        · refine g_9_8 (S := S) (x := (some (gG S 6 k2))) X w (h.e_ta k2 hlt_k2).2 wF_X4_71 (her3) dX4_areReportsSound_26 ?_
          refine lv_astore_n (lv' := [(3, .ref (gG S 6 k2)), (2, .ref (gG S 9 k2)), (1, .int (nI k2)), (0, .ref (gG S 4 0))]) hx hb dX4_areReportsSound_29 rfl hl (by decide) rfl (fun ls hl => ?_)
          refine lv_aload_n hx hb dX4_areReportsSound_30 rfl (lv_at hl 0 rfl) ?_
          refine lv_ifnull hx hb dX4_areReportsSound_31 ?_
          refine lv_aload_n hx hb dX4_areReportsSound_34 rfl (lv_at hl 0 rfl) ?_
          refine g_6_12 (S := S) (x := (mI S 108 k2)) X w hvr3 wF_X4_116 (rfl) dX4_areReportsSound_35 ?_
          have J54 : ∀ (z54_0 : Bool) (H : Heap) (locs : List Loc) (ls : Array Slot), Wd s0 D cy S s.heap H locs → lv_has ls 6 [(3, .ref (gG S 6 k2)), (2, .ref (gG S 9 k2)), (1, .int (nI k2)), (0, .ref (gG S 4 0))] → W p l e rm_m_X4_areReportsSound s m ([.ref (gG S 4 0)] : List Value).toArray below meth c H locs 0 0 (MQ below (GQ s0 D cy (PXz S)) ([.ref (gG S 4 0)] : List Value).toArray s rm_m_X4_areReportsSound.cells rm_m_X4_areReportsSound.slots (A0 s0)) (F0 m 54 ls [.int (b2i z54_0)]) := by
            intro z54_0 H locs ls  w hl
            refine lv_istore (lv' := [(4, .int (b2i z54_0)), (3, .ref (gG S 6 k2)), (2, .ref (gG S 9 k2)), (1, .int (nI k2)), (0, .ref (gG S 4 0))]) hx hb dX4_areReportsSound_54 hl (by decide) rfl (fun ls hl => ?_)
            refine lv_aload_n hx hb dX4_areReportsSound_56 rfl (lv_at hl 1 rfl) ?_
            refine g_6_11 (S := S) (x := (mI S 107 k2)) X w hvr3 wF_X4_131 (rfl) dX4_areReportsSound_57 ?_
            have J75 : ∀ (z75_0 : Bool) (H : Heap) (locs : List Loc) (ls : Array Slot), Wd s0 D cy S s.heap H locs → lv_has ls 6 [(4, .int (b2i z54_0)), (3, .ref (gG S 6 k2)), (2, .ref (gG S 9 k2)), (1, .int (nI k2)), (0, .ref (gG S 4 0))] → W p l e rm_m_X4_areReportsSound s m ([.ref (gG S 4 0)] : List Value).toArray below meth c H locs 0 0 (MQ below (GQ s0 D cy (PXz S)) ([.ref (gG S 4 0)] : List Value).toArray s rm_m_X4_areReportsSound.cells rm_m_X4_areReportsSound.slots (A0 s0)) (F0 m 75 ls [.int (b2i z75_0)]) := by
              intro z75_0 H locs ls  w hl
              refine lv_istore (lv' := [(5, .int (b2i z75_0)), (4, .int (b2i z54_0)), (3, .ref (gG S 6 k2)), (2, .ref (gG S 9 k2)), (1, .int (nI k2)), (0, .ref (gG S 4 0))]) hx hb dX4_areReportsSound_75 hl (by decide) rfl (fun ls hl => ?_)
              refine lv_iload hx hb dX4_areReportsSound_77 (lv_at hl 1 rfl) ?_
              refine lv_if_ne (tgt := 87) hx hb dX4_areReportsSound_79 (by decide) (fun hc4 => ?_) (fun hc4 => ?_)
              · refine lv_iconst (v := 0) hx hb dX4_areReportsSound_87 (by decide) ?_
                exact rZ X w rfl dX4_areReportsSound_88 (by decide) (by decide) (by decide) (px_z01 (by first | exact Or.inl rfl | exact Or.inr rfl | exact b2i_01 _))
              · refine lv_iload hx hb dX4_areReportsSound_82 (lv_at hl 0 rfl) ?_
                refine lv_if_eq (tgt := 89) hx hb dX4_areReportsSound_84 (by decide) (fun hc5 => ?_) (fun hc5 => ?_)
                · refine lv_iinc (v := nI (k2 + 1)) (lv' := [(1, .int (nI (k2 + 1))), (5, .int (b2i z75_0)), (4, .int (b2i z54_0)), (3, .ref (gG S 6 k2)), (2, .ref (gG S 9 k2)), (0, .ref (gG S 4 0))]) hx hb dX4_areReportsSound_89 hl (k := 4) rfl (nI_1 _) (by decide) rfl (fun ls hl => ?_)
                  refine lv_goto (tgt := 2) hx hb dX4_areReportsSound_92 (by decide) ?_
                  exact ih2 (k2 + 1) _ _ _ (by omega) (hlt_k2) w (lv_sub hl [0, 5] rfl)
                · refine lv_iconst (v := 0) hx hb dX4_areReportsSound_87 (by decide) ?_
                  exact rZ X w rfl dX4_areReportsSound_88 (by decide) (by decide) (by decide) (px_z01 (by first | exact Or.inl rfl | exact Or.inr rfl | exact b2i_01 _))
            refine lv_if_eq (tgt := 74) hx hb dX4_areReportsSound_60 (by decide) (fun hc6 => ?_) (fun hc6 => ?_)
            · refine lv_iconst (v := 0) hx hb dX4_areReportsSound_74 (by decide) ?_
              exact J75 false _ _ _  w (lv_sub hl [0, 1, 2, 3, 4] rfl)
            · refine lv_aload_n hx hb dX4_areReportsSound_63 rfl (lv_at hl 2 rfl) ?_
              refine cV (S := S) (nA := 0) (As := []) (rest := []) X w hl (h.e_ta k2 hlt_k2).2 (m_X9_isInError G S ea ns nj nm nt nr nc h k2 hlt_k2) wY_X9_isInError wM_X4_134 wIn_X9_isInError wSe_X9_X9_isInError wI_X9 (by decide) rfl (by decide +kernel) rfl rfl dX4_areReportsSound_64 ⟨by decide, by decide⟩ (Nat.le_of_ble_eq_true rfl) (⟨Nat.le_of_ble_eq_true rfl, Nat.le_of_ble_eq_true rfl⟩) (fun v8 S1 H locs hp w => ?_)
              obtain ⟨⟨x7, rfl, hpx7⟩, rfl⟩ := hp
              refine lv_if_ne (tgt := 74) hx hb dX4_areReportsSound_67 (by decide) (fun hc9 => ?_) (fun hc9 => ?_)
              · refine lv_iconst (v := 0) hx hb dX4_areReportsSound_74 (by decide) ?_
                exact J75 false _ _ _  w (lv_sub hl [0, 1, 2, 3, 4] rfl)
              · refine lv_iconst (v := 1) hx hb dX4_areReportsSound_70 (by decide) ?_
                refine lv_goto (tgt := 75) hx hb dX4_areReportsSound_71 (by decide) ?_
                exact J75 true _ _ _  w (lv_sub hl [0, 1, 2, 3, 4] rfl)
          refine lv_if_eq (tgt := 53) hx hb dX4_areReportsSound_38 (by decide) (fun hc10 => ?_) (fun hc10 => ?_)
          · refine lv_iconst (v := 0) hx hb dX4_areReportsSound_53 (by decide) ?_
            exact J54 false _ _ _  w (lv_sub hl [0, 1, 2, 3] rfl)
          · refine lv_aload_n hx hb dX4_areReportsSound_41 rfl (lv_at hl 0 rfl) ?_
            refine g_6_8 (S := S) (x := (mI S 104 k2)) X w hvr3 wF_X4_56 (rfl) dX4_areReportsSound_42 ?_
            refine lv_iconst (v := 1) hx hb dX4_areReportsSound_45 (by decide) ?_
            refine lv_icmp_eq (tgt := 53) hx hb dX4_areReportsSound_46 (by decide) (fun hc11 => ?_) (fun hc11 => ?_)
            · refine lv_iconst (v := 0) hx hb dX4_areReportsSound_53 (by decide) ?_
              exact J54 false _ _ _  w (lv_sub hl [0, 1, 2, 3] rfl)
            · refine lv_iconst (v := 1) hx hb dX4_areReportsSound_49 (by decide) ?_
              refine lv_goto (tgt := 54) hx hb dX4_areReportsSound_50 (by decide) ?_
              exact J54 true _ _ _  w (lv_sub hl [0, 1, 2, 3] rfl)
  exact L2 _ 0 _ _ _ (Nat.lt_succ_self _) (Nat.zero_le _) w (lv_sub hl [0, 1] rfl)

theorem dX4_isStateSound_0 : decode cX4_isStateSound 0 = .ok (.iconst 0, 1) := by decide +kernel
theorem dX4_isStateSound_1 : decode cX4_isStateSound 1 = .ok (.istore_n 1, 1) := by decide +kernel
theorem dX4_isStateSound_2 : decode cX4_isStateSound 2 = .ok (.iconst 0, 1) := by decide +kernel
theorem dX4_isStateSound_3 : decode cX4_isStateSound 3 = .ok (.istore_n 2, 1) := by decide +kernel
theorem dX4_isStateSound_4 : decode cX4_isStateSound 4 = .ok (.iload_n 2, 1) := by decide +kernel
theorem dX4_isStateSound_5 : decode cX4_isStateSound 5 = .ok (.iconst 4, 1) := by decide +kernel
theorem dX4_isStateSound_6 : decode cX4_isStateSound 6 = .ok (.if_icmp .gt 17, 3) := by decide +kernel
theorem dX4_isStateSound_9 : decode cX4_isStateSound 9 = .ok (.iload_n 1, 1) := by decide +kernel
theorem dX4_isStateSound_10 : decode cX4_isStateSound 10 = .ok (.aload_n 0, 1) := by decide +kernel
theorem dX4_isStateSound_11 : decode cX4_isStateSound 11 = .ok (.iload_n 2, 1) := by decide +kernel
theorem dX4_isStateSound_12 : decode cX4_isStateSound 12 = .ok (.invokevirtual 175, 3) := by decide +kernel
theorem dX4_isStateSound_15 : decode cX4_isStateSound 15 = .ok (.iadd, 1) := by decide +kernel
theorem dX4_isStateSound_16 : decode cX4_isStateSound 16 = .ok (.istore_n 1, 1) := by decide +kernel
theorem dX4_isStateSound_17 : decode cX4_isStateSound 17 = .ok (.iinc 2 1, 3) := by decide +kernel
theorem dX4_isStateSound_20 : decode cX4_isStateSound 20 = .ok (.goto (-16), 3) := by decide +kernel
theorem dX4_isStateSound_23 : decode cX4_isStateSound 23 = .ok (.iload_n 1, 1) := by decide +kernel
theorem dX4_isStateSound_24 : decode cX4_isStateSound 24 = .ok (.aload_n 0, 1) := by decide +kernel
theorem dX4_isStateSound_25 : decode cX4_isStateSound 25 = .ok (.invokevirtual 179, 3) := by decide +kernel
theorem dX4_isStateSound_28 : decode cX4_isStateSound 28 = .ok (.if_icmp .ne 28, 3) := by decide +kernel
theorem dX4_isStateSound_31 : decode cX4_isStateSound 31 = .ok (.aload_n 0, 1) := by decide +kernel
theorem dX4_isStateSound_32 : decode cX4_isStateSound 32 = .ok (.invokevirtual 182, 3) := by decide +kernel
theorem dX4_isStateSound_35 : decode cX4_isStateSound 35 = .ok (.ifCond .eq 21, 3) := by decide +kernel
theorem dX4_isStateSound_38 : decode cX4_isStateSound 38 = .ok (.aload_n 0, 1) := by decide +kernel
theorem dX4_isStateSound_39 : decode cX4_isStateSound 39 = .ok (.getfield 24, 3) := by decide +kernel
theorem dX4_isStateSound_42 : decode cX4_isStateSound 42 = .ok (.iconst 0, 1) := by decide +kernel
theorem dX4_isStateSound_43 : decode cX4_isStateSound 43 = .ok (.sipush 600, 3) := by decide +kernel
theorem dX4_isStateSound_46 : decode cX4_isStateSound 46 = .ok (.invokestatic 32, 3) := by decide +kernel
theorem dX4_isStateSound_49 : decode cX4_isStateSound 49 = .ok (.ifCond .ne 7, 3) := by decide +kernel
theorem dX4_isStateSound_52 : decode cX4_isStateSound 52 = .ok (.iconst 1, 1) := by decide +kernel
theorem dX4_isStateSound_53 : decode cX4_isStateSound 53 = .ok (.goto 4, 3) := by decide +kernel
theorem dX4_isStateSound_56 : decode cX4_isStateSound 56 = .ok (.iconst 0, 1) := by decide +kernel
theorem dX4_isStateSound_57 : decode cX4_isStateSound 57 = .ok (.ireturn, 1) := by decide +kernel
abbrev rm_m_X4_isStateSound : Room := { frames := 4, cells := 0, slots := 0, locals := 89 }
set_option maxHeartbeats 4000000 in
set_option maxRecDepth 100000 in
theorem m_X4_isStateSound {s0 : State} {l : Launch} {D : va_G} {cy : Nat → ClassId} (G : Gl s0 l D cy) (S : HS) (ea ns nj nm nt nr nc : Nat) (h : CI ea S ns nj nm nt nr nc)  : Ctr s0 l D cy yX4_isStateSound cX4_isStateSound 3 (some .boolean) rm_m_X4_isStateSound S [.ref (gG S 4 0)] (PXz S) := by
  refine pro "CavershamShift$Newsroom" G rfl rfl (Nat.le_of_ble_eq_true rfl) (fun p e s m below meth c ls X w hnm hl => ?_)
  have hx := X.1
  have hb := X.2.1
  have hown := X.2.2.2.1
  have hts := X.2.2.2.2.1
  have hl : lv_has ls 3 [(0, .ref (gG S 4 0))] := hl
  refine lv_iconst (v := 0) hx hb dX4_isStateSound_0 (by decide) ?_
  refine lv_istore_n (lv' := [(1, .int 0), (0, .ref (gG S 4 0))]) hx hb dX4_isStateSound_1 rfl hl (by decide) rfl (fun ls hl => ?_)
  refine lv_iconst (v := 0) hx hb dX4_isStateSound_2 (by decide) ?_
  refine lv_istore_n (lv' := [(2, .int 0), (1, .int 0), (0, .ref (gG S 4 0))]) hx hb dX4_isStateSound_3 rfl hl (by decide) rfl (fun ls hl => ?_)
  have L4 : ∀ (N : Nat) (k4 : Nat) (v4_1 : Int32) (H : Heap) (locs : List Loc) (ls : Array Slot), 5 - k4 < N → (k4 ≤ 5) → Wd s0 D cy S s.heap H locs → lv_has ls 3 [(2, .int (nI k4)), (1, .int v4_1), (0, .ref (gG S 4 0))] → W p l e rm_m_X4_isStateSound s m ([.ref (gG S 4 0)] : List Value).toArray below meth c H locs 0 0 (MQ below (GQ s0 D cy (PXz S)) ([.ref (gG S 4 0)] : List Value).toArray s rm_m_X4_isStateSound.cells rm_m_X4_isStateSound.slots (A0 s0)) (F0 m 4 ls []) := by
    intro N
    induction N with
    | zero => intros; omega
    | succ N ih4 =>
      intro k4 v4_1 H locs ls hmu hk_k4 w hl
      refine lv_iload_n hx hb dX4_isStateSound_4 rfl (lv_at hl 0 rfl) ?_
      refine lv_iconst (v := 4) hx hb dX4_isStateSound_5 (by decide) ?_
      refine lv_icmp_gt (tgt := 23) hx hb dX4_isStateSound_6 (by decide) (fun hc_k4 => ?_) (fun hc_k4 => ?_)
      · have hge_k4 : 5 ≤ k4 := (nI_ltI (a := 4) (b := k4) (by decide) (by omega)).mp hc_k4
        refine lv_iload_n hx hb dX4_isStateSound_23 rfl (lv_at hl 1 rfl) ?_
        refine lv_aload_n hx hb dX4_isStateSound_24 rfl (lv_at hl 2 rfl) ?_
        refine cV (S := S) (nA := 0) (As := []) (rest := [.int v4_1]) X w hl h.v4 (m_X4_countReports G S ea ns nj nm nt nr nc h ) wY_X4_countReports wM_X4_179 wIn_X4_countReports wSe_X4_X4_countReports wI_X4 (by decide) rfl (by decide +kernel) rfl rfl dX4_isStateSound_25 ⟨by decide, by decide⟩ (Nat.le_of_ble_eq_true rfl) (⟨Nat.le_of_ble_eq_true rfl, Nat.le_of_ble_eq_true rfl⟩) (fun v2 S1 H locs hp w => ?_)
        obtain ⟨⟨x1, rfl⟩, rfl⟩ := hp
        refine lv_icmp_ne (tgt := 56) hx hb dX4_isStateSound_28 (by decide) (fun hc3 => ?_) (fun hc3 => ?_)
        · refine lv_iconst (v := 0) hx hb dX4_isStateSound_56 (by decide) ?_
          exact rZ X w rfl dX4_isStateSound_57 (by decide) (by decide) (by decide) (px_z01 (by first | exact Or.inl rfl | exact Or.inr rfl | exact b2i_01 _))
        · refine lv_aload_n hx hb dX4_isStateSound_31 rfl (lv_at hl 2 rfl) ?_
          refine cV (S := S) (nA := 0) (As := []) (rest := []) X w hl h.v4 (m_X4_areReportsSound G S ea ns nj nm nt nr nc h ) wY_X4_areReportsSound wM_X4_182 wIn_X4_areReportsSound wSe_X4_X4_areReportsSound wI_X4 (by decide) rfl (by decide +kernel) rfl rfl dX4_isStateSound_32 ⟨by decide, by decide⟩ (Nat.le_of_ble_eq_true rfl) (⟨Nat.le_of_ble_eq_true rfl, Nat.le_of_ble_eq_true rfl⟩) (fun v5 S1 H locs hp w => ?_)
          obtain ⟨⟨x4, rfl⟩, rfl⟩ := hp
          refine lv_if_eq (tgt := 56) hx hb dX4_isStateSound_35 (by decide) (fun hc6 => ?_) (fun hc6 => ?_)
          · refine lv_iconst (v := 0) hx hb dX4_isStateSound_56 (by decide) ?_
            exact rZ X w rfl dX4_isStateSound_57 (by decide) (by decide) (by decide) (px_z01 (by first | exact Or.inl rfl | exact Or.inr rfl | exact b2i_01 _))
          · refine lv_aload_n hx hb dX4_isStateSound_38 rfl (lv_at hl 2 rfl) ?_
            refine g_4_5 (S := S) (x := (mI S 69 0)) X w h.v4 wF_X4_24 (rfl) dX4_isStateSound_39 ?_
            refine lv_iconst (v := 0) hx hb dX4_isStateSound_42 (by decide) ?_
            refine lv_sipush (v := 600) hx hb dX4_isStateSound_43 (by decide) ?_
            refine cSN (S := S) (nA := 3) (As := [.int (mI S 69 0), .int 0, .int 600]) (rest := []) X w hl (m_X10_isOutside G S (mI S 69 0) 0 600) wY_X10_isOutside wMN_X4_32 wSt_X10_isOutside wI_X10 (by decide +kernel) rfl rfl dX4_isStateSound_46 ⟨by decide, by decide⟩ (Nat.le_of_ble_eq_true rfl) (⟨Nat.le_of_ble_eq_true rfl, Nat.le_of_ble_eq_true rfl⟩) (fun v7 S1 H locs hp w => ?_)
            obtain ⟨rfl, rfl⟩ := hp
            refine lv_if_ne (tgt := 56) hx hb dX4_isStateSound_49 (by decide) (fun hc8 => ?_) (fun hc8 => ?_)
            · refine lv_iconst (v := 0) hx hb dX4_isStateSound_56 (by decide) ?_
              exact rZ X w rfl dX4_isStateSound_57 (by decide) (by decide) (by decide) (px_z01 (by first | exact Or.inl rfl | exact Or.inr rfl | exact b2i_01 _))
            · refine lv_iconst (v := 1) hx hb dX4_isStateSound_52 (by decide) ?_
              refine lv_goto (tgt := 57) hx hb dX4_isStateSound_53 (by decide) ?_
              exact rZ X w rfl dX4_isStateSound_57 (by decide) (by decide) (by decide) (px_z01 (by first | exact Or.inl rfl | exact Or.inr rfl | exact b2i_01 _))
      · have hlt_k4 : k4 < 5 := Nat.lt_of_not_le (fun z => hc_k4 ((nI_ltI (a := 4) (b := k4) (by decide) (by omega)).mpr z))
        refine lv_iload_n hx hb dX4_isStateSound_9 rfl (lv_at hl 1 rfl) ?_
        refine lv_aload_n hx hb dX4_isStateSound_10 rfl (lv_at hl 2 rfl) ?_
        refine lv_iload_n hx hb dX4_isStateSound_11 rfl (lv_at hl 0 rfl) ?_
        refine cV (S := S) (nA := 1) (As := [.int (nI k4)]) (rest := [.int v4_1]) X w hl h.v4 (m_X4_countThatStand G S ea ns nj nm nt nr nc h (nI k4)) wY_X4_countThatStand wM_X4_175 wIn_X4_countThatStand wSe_X4_X4_countThatStand wI_X4 (by decide) rfl (by decide +kernel) rfl rfl dX4_isStateSound_12 ⟨by decide, by decide⟩ (Nat.le_of_ble_eq_true rfl) (⟨Nat.le_of_ble_eq_true rfl, Nat.le_of_ble_eq_true rfl⟩) (fun v10 S1 H locs hp w => ?_)
        obtain ⟨⟨x9, rfl⟩, rfl⟩ := hp
        refine lv_iadd hx hb dX4_isStateSound_15 ?_
        refine lv_istore_n (lv' := [(1, .int (v4_1 + x9)), (2, .int (nI k4)), (0, .ref (gG S 4 0))]) hx hb dX4_isStateSound_16 rfl hl (by decide) rfl (fun ls hl => ?_)
        refine lv_iinc (v := nI (k4 + 1)) (lv' := [(2, .int (nI (k4 + 1))), (1, .int (v4_1 + x9)), (0, .ref (gG S 4 0))]) hx hb dX4_isStateSound_17 hl (k := 1) rfl (nI_1 _) (by decide) rfl (fun ls hl => ?_)
        refine lv_goto (tgt := 4) hx hb dX4_isStateSound_20 (by decide) ?_
        exact ih4 (k4 + 1) (v4_1 + x9) _ _ _ (by omega) (hlt_k4) w (lv_sub hl [0, 1, 2] rfl)
  exact L4 _ 0 0 _ _ _ (Nat.lt_succ_self _) (Nat.zero_le _) w (lv_sub hl [0, 1, 2] rfl)

