theorem pO_f {S : HS} {j : Nat} (h : mI S 151 j = -1) : pOut S j = false := by
  cases e : pOut S j with
  | false => rfl
  | true => exact absurd h (pO1 e).2.2
theorem RH.m1 {S T : HS} {nt : Nat} (k : Kq (hidV false) hiH (hidR false) S T) (h : RH S nt) : RH T nt := fun j hj => by
  rw [show mR T 152 j = mR S 152 j from k.R rfl, show vV T 6 j = vV S 6 j from k.V rfl, show mI T 146 j = mI S 146 j from k.I rfl, show mI T 164 0 = mI S 164 0 from k.I rfl]
  exact h j hj
theorem so_148 {n : Nat} (h1 : 1 ≤ n) (h2 : n ≤ 48) : sOut (nI n) 1 48 = false := by
  unfold sOut
  rw [Bool.or_eq_false_iff]
  exact ⟨decide_eq_false (fun z => absurd ((nI_ltI (a := n) (b := 1) (by omega) (by decide)).mp z) (by omega)), decide_eq_false (fun z => absurd ((nI_ltI (a := 48) (b := n) (by decide) (by omega)).mp z) (by omega))⟩
def psK (h a : Int32) : Nat := if sOut a 1 48 = true then 1 else if 720 < h + a then 2 else 0
theorem psK_1 {h a : Int32} (z : sOut a 1 48 = true) : psK h a = 1 := if_pos z
theorem psK_2 {h a : Int32} (z : sOut a 1 48 = false) (y : 720 < h + a) : psK h a = 2 := (if_neg (by rw [z]; decide)).trans (if_pos y)
theorem psK_0 {h a : Int32} (z : sOut a 1 48 = false) (y : ¬ 720 < h + a) : psK h a = 0 := (if_neg (by rw [z]; decide)).trans (if_neg y)
theorem psK_b {h a : Int32} (z : ¬ psK h a = 0) : sOut a 1 48 = true ∨ 720 < h + a := by
  by_cases y : sOut a 1 48 = true
  · exact Or.inl y
  · by_cases x : 720 < h + a
    · exact Or.inr x
    · exact absurd (psK_0 (Bool.eq_false_iff.mpr y) x) z

theorem dX10_pass_0 : decode cX10_pass 0 = .ok (.iload_n 1, 1) := by decide +kernel
theorem dX10_pass_1 : decode cX10_pass 1 = .ok (.iconst 1, 1) := by decide +kernel
theorem dX10_pass_2 : decode cX10_pass 2 = .ok (.bipush 48, 2) := by decide +kernel
theorem dX10_pass_4 : decode cX10_pass 4 = .ok (.invokestatic 48, 3) := by decide +kernel
theorem dX10_pass_7 : decode cX10_pass 7 = .ok (.ifCond .eq 13, 3) := by decide +kernel
theorem dX10_pass_10 : decode cX10_pass 10 = .ok (.new 52, 3) := by decide +kernel
theorem dX10_pass_13 : decode cX10_pass 13 = .ok (.dup, 1) := by decide +kernel
theorem dX10_pass_14 : decode cX10_pass 14 = .ok (.ldc 237, 2) := by decide +kernel
theorem dX10_pass_16 : decode cX10_pass 16 = .ok (.invokespecial 56, 3) := by decide +kernel
theorem dX10_pass_19 : decode cX10_pass 19 = .ok (.athrow, 1) := by decide +kernel
theorem dX10_pass_20 : decode cX10_pass 20 = .ok (.aload_n 0, 1) := by decide +kernel
theorem dX10_pass_21 : decode cX10_pass 21 = .ok (.getfield 41, 3) := by decide +kernel
theorem dX10_pass_24 : decode cX10_pass 24 = .ok (.iload_n 1, 1) := by decide +kernel
theorem dX10_pass_25 : decode cX10_pass 25 = .ok (.iadd, 1) := by decide +kernel
theorem dX10_pass_26 : decode cX10_pass 26 = .ok (.sipush 720, 3) := by decide +kernel
theorem dX10_pass_29 : decode cX10_pass 29 = .ok (.if_icmp .le 13, 3) := by decide +kernel
theorem dX10_pass_32 : decode cX10_pass 32 = .ok (.new 72, 3) := by decide +kernel
theorem dX10_pass_35 : decode cX10_pass 35 = .ok (.dup, 1) := by decide +kernel
theorem dX10_pass_36 : decode cX10_pass 36 = .ok (.ldc 239, 2) := by decide +kernel
theorem dX10_pass_38 : decode cX10_pass 38 = .ok (.invokespecial 76, 3) := by decide +kernel
theorem dX10_pass_41 : decode cX10_pass 41 = .ok (.athrow, 1) := by decide +kernel
abbrev rm_m_X10_pass_x : Room := { frames := 6, cells := 1, slots := 6, locals := 90 }
set_option maxHeartbeats 4000000 in
set_option maxRecDepth 100000 in
theorem m_X10_pass_x {s0 : State} {l : Launch} {D : va_G} {cy : Nat → ClassId} (G : Gl s0 l D cy) (S : HS) (ea ns nj nm nt nr nc : Nat) (h : CI ea S ns nj nm nt nr nc) (a : Int32) (hbad : sOut a 1 48 = true ∨ 720 < mI S 164 0 + a) : CtX s0 l D cy yX10_pass cX10_pass 3 (some .int) rm_m_X10_pass_x S [.ref (gG S 10 0), .int a] (fun _ _ => False) (fun E S' => S = S' ∧ ((E = "java/lang/IllegalArgumentException" ∧ psK (mI S 164 0) a = 1) ∨ (E = "java/lang/IllegalStateException" ∧ psK (mI S 164 0) a = 2))) := by
  refine proX "CavershamShift" G rfl rfl (Nat.le_of_ble_eq_true rfl) (fun p e s m below meth c ls X w hno hl => ?_)
  have hx := X.1
  have hb := X.2.1
  have hown := X.2.2.2.1
  have hts := X.2.2.2.2.1
  have hl : lv_has ls 3 [(0, .ref (gG S 10 0)), (1, .int a)] := hl
  have h0 := h
  have hK : Kq clsV clsI clsS S S := Kq.rf
  refine lv_iload_n hx hb dX10_pass_0 rfl (lv_at hl 1 rfl) ?_
  refine lv_iconst (v := 1) hx hb dX10_pass_1 (by decide) ?_
  refine lv_bipush (v := 48) hx hb dX10_pass_2 (by decide) ?_
  refine cS (S := S) (nA := 3) (As := [.int a, .int 1, .int 48]) (rest := []) X w hl (m_X10_isOutside G S a 1 48) wY_X10_isOutside wM_X10_48 wSt_X10_isOutside wI_X10 (by decide +kernel) rfl rfl dX10_pass_4 ⟨by decide, by decide⟩ (Nat.le_of_ble_eq_true rfl) (⟨Nat.le_of_ble_eq_true rfl, Nat.le_of_ble_eq_true rfl⟩) (fun v1 S1 H locs hp w => ?_)
  obtain ⟨rfl, rfl⟩ := hp
  refine lv_if_eq (tgt := 20) hx hb dX10_pass_7 (by decide) (fun hy7 => ?_) (fun hy7 => ?_)
  · refine lv_aload_n hx hb dX10_pass_20 rfl (lv_at hl 0 rfl) ?_
    refine g_10_4 (S := S) (x := (mI S 164 0)) X w h.v10 wF_X10_41 (rfl) dX10_pass_21 ?_
    refine lv_iload_n hx hb dX10_pass_24 rfl (lv_at hl 1 rfl) ?_
    refine lv_iadd hx hb dX10_pass_25 ?_
    refine lv_sipush (v := 720) hx hb dX10_pass_26 (by decide) ?_
    refine lv_icmp_le (tgt := 42) hx hb dX10_pass_29 (by decide) (fun hy29 => ?_) (fun hy29 => ?_)
    · exact hbad.elim (fun z => absurd (z.symm.trans (b2i_f hy7)) (by decide)) (fun z => absurd z (Int32.not_lt.mpr hy29))
    · exact rT (S := S) (names := ["java/lang/RuntimeException", "java/lang/Exception"]) X w hl hno (by decide) (by decide) wC_X10_72 wI_java_lang_IllegalStateException wS9_X10_239 at_ISE go_ISE ⟨by decide, by decide⟩ dX10_pass_32 dX10_pass_35 dX10_pass_36 dX10_pass_38 dX10_pass_41 (by decide) (by decide) (Nat.le_of_ble_eq_true rfl) (Nat.le_of_ble_eq_true rfl) (Nat.le_of_ble_eq_true rfl) (Nat.le_of_ble_eq_true rfl) (⟨rfl, Or.inr ⟨rfl, psK_2 (b2i_f hy7) (Int32.not_le.mp hy29)⟩⟩)
  · exact rT (S := S) (names := ["java/lang/RuntimeException", "java/lang/Exception"]) X w hl hno (by decide) (by decide) wC_X10_52 wI_java_lang_IllegalArgumentException wS9_X10_237 at_IAE go_IAE ⟨by decide, by decide⟩ dX10_pass_10 dX10_pass_13 dX10_pass_14 dX10_pass_16 dX10_pass_19 (by decide) (by decide) (Nat.le_of_ble_eq_true rfl) (Nat.le_of_ble_eq_true rfl) (Nat.le_of_ble_eq_true rfl) (Nat.le_of_ble_eq_true rfl) (⟨rfl, Or.inl ⟨rfl, psK_1 (b2i_t hy7)⟩⟩)

theorem dX10_pass_42 : decode cX10_pass 42 = .ok (.iconst 0, 1) := by decide +kernel
theorem dX10_pass_43 : decode cX10_pass 43 = .ok (.istore_n 2, 1) := by decide +kernel
theorem dX10_pass_44 : decode cX10_pass 44 = .ok (.iload_n 2, 1) := by decide +kernel
theorem dX10_pass_45 : decode cX10_pass 45 = .ok (.iload_n 1, 1) := by decide +kernel
theorem dX10_pass_46 : decode cX10_pass 46 = .ok (.if_icmp .ge 13, 3) := by decide +kernel
theorem dX10_pass_49 : decode cX10_pass 49 = .ok (.aload_n 0, 1) := by decide +kernel
theorem dX10_pass_50 : decode cX10_pass 50 = .ok (.invokevirtual 241, 3) := by decide +kernel
theorem dX10_pass_53 : decode cX10_pass 53 = .ok (.iinc 2 1, 3) := by decide +kernel
theorem dX10_pass_56 : decode cX10_pass 56 = .ok (.goto (-12), 3) := by decide +kernel
theorem dX10_pass_59 : decode cX10_pass 59 = .ok (.aload_n 0, 1) := by decide +kernel
theorem dX10_pass_60 : decode cX10_pass 60 = .ok (.getfield 41, 3) := by decide +kernel
theorem dX10_pass_63 : decode cX10_pass 63 = .ok (.ireturn, 1) := by decide +kernel
theorem dX10_print_0 : decode cX10_print 0 = .ok (.aload_n 0, 1) := by decide +kernel
theorem dX10_print_1 : decode cX10_print 1 = .ok (.getfield 28, 3) := by decide +kernel
theorem dX10_print_4 : decode cX10_print 4 = .ok (.iload_n 1, 1) := by decide +kernel
theorem dX10_print_5 : decode cX10_print 5 = .ok (.invokevirtual 182, 3) := by decide +kernel
theorem dX10_print_8 : decode cX10_print 8 = .ok (.astore_n 3, 1) := by decide +kernel
theorem dX10_print_9 : decode cX10_print 9 = .ok (.aload_n 3, 1) := by decide +kernel
theorem dX10_print_10 : decode cX10_print 10 = .ok (.ifnonnull 13, 3) := by decide +kernel
theorem dX10_print_13 : decode cX10_print 13 = .ok (.new 90, 3) := by decide +kernel
theorem dX10_print_16 : decode cX10_print 16 = .ok (.dup, 1) := by decide +kernel
theorem dX10_print_17 : decode cX10_print 17 = .ok (.ldc 186, 2) := by decide +kernel
theorem dX10_print_19 : decode cX10_print 19 = .ok (.invokespecial 94, 3) := by decide +kernel
theorem dX10_print_22 : decode cX10_print 22 = .ok (.athrow, 1) := by decide +kernel
theorem dX10_print_23 : decode cX10_print 23 = .ok (.iload_n 2, 1) := by decide +kernel
theorem dX10_print_24 : decode cX10_print 24 = .ok (.iconst 0, 1) := by decide +kernel
theorem dX10_print_25 : decode cX10_print 25 = .ok (.ldc 159, 2) := by decide +kernel
theorem dX10_print_27 : decode cX10_print 27 = .ok (.invokestatic 48, 3) := by decide +kernel
theorem dX10_print_30 : decode cX10_print 30 = .ok (.ifCond .eq 13, 3) := by decide +kernel
theorem dX10_print_33 : decode cX10_print 33 = .ok (.new 52, 3) := by decide +kernel
theorem dX10_print_36 : decode cX10_print 36 = .ok (.dup, 1) := by decide +kernel
theorem dX10_print_37 : decode cX10_print 37 = .ok (.ldc 160, 2) := by decide +kernel
theorem dX10_print_39 : decode cX10_print 39 = .ok (.invokespecial 56, 3) := by decide +kernel
theorem dX10_print_42 : decode cX10_print 42 = .ok (.athrow, 1) := by decide +kernel
theorem dX10_print_43 : decode cX10_print 43 = .ok (.aload_n 3, 1) := by decide +kernel
theorem dX10_print_44 : decode cX10_print 44 = .ok (.getfield 188, 3) := by decide +kernel
theorem dX10_print_47 : decode cX10_print 47 = .ok (.iconst (-1), 1) := by decide +kernel
theorem dX10_print_48 : decode cX10_print 48 = .ok (.if_icmp .eq 13, 3) := by decide +kernel
theorem dX10_print_51 : decode cX10_print 51 = .ok (.new 72, 3) := by decide +kernel
theorem dX10_print_54 : decode cX10_print 54 = .ok (.dup, 1) := by decide +kernel
theorem dX10_print_55 : decode cX10_print 55 = .ok (.ldc 191, 2) := by decide +kernel
theorem dX10_print_57 : decode cX10_print 57 = .ok (.invokespecial 76, 3) := by decide +kernel
theorem dX10_print_60 : decode cX10_print 60 = .ok (.athrow, 1) := by decide +kernel
theorem dX10_print_61 : decode cX10_print 61 = .ok (.aload_n 3, 1) := by decide +kernel
theorem dX10_print_62 : decode cX10_print 62 = .ok (.iload_n 2, 1) := by decide +kernel
theorem dX10_print_63 : decode cX10_print 63 = .ok (.putfield 188, 3) := by decide +kernel
theorem dX10_print_66 : decode cX10_print 66 = .ok (.aload_n 0, 1) := by decide +kernel
theorem dX10_print_67 : decode cX10_print 67 = .ok (.getfield 28, 3) := by decide +kernel
theorem dX10_print_70 : decode cX10_print 70 = .ok (.aload_n 3, 1) := by decide +kernel
theorem dX10_print_71 : decode cX10_print 71 = .ok (.invokevirtual 193, 3) := by decide +kernel
theorem dX10_print_74 : decode cX10_print 74 = .ok (.aload_n 3, 1) := by decide +kernel
theorem dX10_print_75 : decode cX10_print 75 = .ok (.getfield 197, 3) := by decide +kernel
theorem dX10_print_78 : decode cX10_print 78 = .ok (.astore 4, 2) := by decide +kernel
theorem dX10_print_80 : decode cX10_print 80 = .ok (.aload 4, 2) := by decide +kernel
theorem dX10_print_82 : decode cX10_print 82 = .ok (.ifnonnull 7, 3) := by decide +kernel
theorem dX10_print_85 : decode cX10_print 85 = .ok (.iconst (-1), 1) := by decide +kernel
theorem dX10_print_86 : decode cX10_print 86 = .ok (.goto 12, 3) := by decide +kernel
theorem dX10_print_89 : decode cX10_print 89 = .ok (.iload_n 2, 1) := by decide +kernel
theorem dX10_print_90 : decode cX10_print 90 = .ok (.aload 4, 2) := by decide +kernel
theorem dX10_print_92 : decode cX10_print 92 = .ok (.invokevirtual 201, 3) := by decide +kernel
theorem dX10_print_95 : decode cX10_print 95 = .ok (.iconst (-1), 1) := by decide +kernel
theorem dX10_print_96 : decode cX10_print 96 = .ok (.ixor, 1) := by decide +kernel
theorem dX10_print_97 : decode cX10_print 97 = .ok (.iand, 1) := by decide +kernel
theorem dX10_print_98 : decode cX10_print 98 = .ok (.ireturn, 1) := by decide +kernel
theorem dX10_ask_0 : decode cX10_ask 0 = .ok (.aload_n 0, 1) := by decide +kernel
theorem dX10_ask_1 : decode cX10_ask 1 = .ok (.getfield 28, 3) := by decide +kernel
theorem dX10_ask_4 : decode cX10_ask 4 = .ok (.iload_n 1, 1) := by decide +kernel
theorem dX10_ask_5 : decode cX10_ask 5 = .ok (.invokevirtual 217, 3) := by decide +kernel
theorem dX10_ask_8 : decode cX10_ask 8 = .ok (.astore 4, 2) := by decide +kernel
theorem dX10_ask_10 : decode cX10_ask 10 = .ok (.aload 4, 2) := by decide +kernel
theorem dX10_ask_12 : decode cX10_ask 12 = .ok (.ifnonnull 13, 3) := by decide +kernel
theorem dX10_ask_15 : decode cX10_ask 15 = .ok (.new 90, 3) := by decide +kernel
theorem dX10_ask_18 : decode cX10_ask 18 = .ok (.dup, 1) := by decide +kernel
theorem dX10_ask_19 : decode cX10_ask 19 = .ok (.ldc 221, 2) := by decide +kernel
theorem dX10_ask_21 : decode cX10_ask 21 = .ok (.invokespecial 94, 3) := by decide +kernel
theorem dX10_ask_24 : decode cX10_ask 24 = .ok (.athrow, 1) := by decide +kernel
theorem dX10_ask_25 : decode cX10_ask 25 = .ok (.iload_n 2, 1) := by decide +kernel
theorem dX10_ask_26 : decode cX10_ask 26 = .ok (.iconst 0, 1) := by decide +kernel
theorem dX10_ask_27 : decode cX10_ask 27 = .ok (.bipush 63, 2) := by decide +kernel
theorem dX10_ask_29 : decode cX10_ask 29 = .ok (.invokestatic 48, 3) := by decide +kernel
theorem dX10_ask_32 : decode cX10_ask 32 = .ok (.ifCond .ne 13, 3) := by decide +kernel
theorem dX10_ask_35 : decode cX10_ask 35 = .ok (.iload_n 3, 1) := by decide +kernel
theorem dX10_ask_36 : decode cX10_ask 36 = .ok (.iconst 0, 1) := by decide +kernel
theorem dX10_ask_37 : decode cX10_ask 37 = .ok (.ldc 159, 2) := by decide +kernel
theorem dX10_ask_39 : decode cX10_ask 39 = .ok (.invokestatic 48, 3) := by decide +kernel
theorem dX10_ask_42 : decode cX10_ask 42 = .ok (.ifCond .eq 13, 3) := by decide +kernel
theorem dX10_ask_45 : decode cX10_ask 45 = .ok (.new 52, 3) := by decide +kernel
theorem dX10_ask_48 : decode cX10_ask 48 = .ok (.dup, 1) := by decide +kernel
theorem dX10_ask_49 : decode cX10_ask 49 = .ok (.ldc 205, 2) := by decide +kernel
theorem dX10_ask_51 : decode cX10_ask 51 = .ok (.invokespecial 56, 3) := by decide +kernel
theorem dX10_ask_54 : decode cX10_ask 54 = .ok (.athrow, 1) := by decide +kernel
theorem dX10_ask_55 : decode cX10_ask 55 = .ok (.aload 4, 2) := by decide +kernel
theorem dX10_ask_57 : decode cX10_ask 57 = .ok (.iload_n 2, 1) := by decide +kernel
theorem dX10_ask_58 : decode cX10_ask 58 = .ok (.putfield 223, 3) := by decide +kernel
theorem dX10_ask_61 : decode cX10_ask 61 = .ok (.aload 4, 2) := by decide +kernel
theorem dX10_ask_63 : decode cX10_ask 63 = .ok (.iload_n 3, 1) := by decide +kernel
theorem dX10_ask_64 : decode cX10_ask 64 = .ok (.putfield 226, 3) := by decide +kernel
theorem dX10_ask_67 : decode cX10_ask 67 = .ok (.aload_n 0, 1) := by decide +kernel
theorem dX10_ask_68 : decode cX10_ask 68 = .ok (.getfield 28, 3) := by decide +kernel
theorem dX10_ask_71 : decode cX10_ask 71 = .ok (.aload 4, 2) := by decide +kernel
theorem dX10_ask_73 : decode cX10_ask 73 = .ok (.invokevirtual 229, 3) := by decide +kernel
theorem dX10_ask_76 : decode cX10_ask 76 = .ok (.ireturn, 1) := by decide +kernel
def wrS (S : HS) (a b x y : Int32) : HS := sA (sA S 32 0 (upd (mA S 32 0) (a * 3 + b).toNatClampNeg x)) 32 1 (upd (mA S 32 1) (a * 3 + b).toNatClampNeg y)
/-- nothing, or one of n -/
abbrev NIx (n : Nat) (x : Int32) : Prop := x = -1 ∨ ∃ j, j < n ∧ x = nI j
def shX (n : Nat) (x : Int32) : Bool := decide (¬ x = -1) && sOut x 0 (nI n - 1)
theorem shX_f {n : Nat} {x : Int32} (h : NIx n x) (hn : n ≤ 40) : shX n x = false := by
  unfold shX
  rcases h with h | ⟨j, hj, h⟩
  · rw [decide_eq_false (fun z => z h)]; rfl
  · rw [h, so_j hj hn, Bool.and_false]
theorem shX_t {n : Nat} {x : Int32} (h : ¬ x = -1) (h2 : sOut x 0 (nI n - 1) = true) : shX n x = true := by
  unfold shX
  rw [h2, decide_eq_true h]; rfl
/-- what a shift is refused with: els says whether that monitor sits elsewhere -/
def shK (ns nm : Nat) (a b d e : Int32) (els : Bool) : Nat := if (sOut a 0 23 || (sOut b 0 2 || (shX ns d || shX nm e))) = true then 1 else if decide (d = -1) ≠ decide (e = -1) then 2 else if (decide (¬ e = -1) && els) = true then 3 else 0
section SHK
variable {ns nm : Nat} {a b d e : Int32} {els : Bool}
theorem shK_1a (h : sOut a 0 23 = true) : shK ns nm a b d e els = 1 := if_pos (by rw [h]; rfl)
theorem shK_1b (h : sOut b 0 2 = true) : shK ns nm a b d e els = 1 := if_pos (by rw [h, Bool.true_or, Bool.or_true])
theorem shK_1c (h : ¬ d = -1) (h2 : sOut d 0 (nI ns - 1) = true) : shK ns nm a b d e els = 1 := if_pos (by rw [shX_t h h2, Bool.true_or, Bool.or_true, Bool.or_true])
theorem shK_1d (h : ¬ e = -1) (h2 : sOut e 0 (nI nm - 1) = true) : shK ns nm a b d e els = 1 := if_pos (by rw [shX_t h h2, Bool.or_true, Bool.or_true, Bool.or_true])
theorem shK_n (h1 : sOut a 0 23 = false) (h2 : sOut b 0 2 = false) (h3 : NIx ns d) (h4 : NIx nm e) (hn : ns ≤ 40) (hm : nm ≤ 40) : shK ns nm a b d e els = if decide (d = -1) ≠ decide (e = -1) then 2 else if (decide (¬ e = -1) && els) = true then 3 else 0 := if_neg (by rw [h1, h2, shX_f h3 hn, shX_f h4 hm]; decide)
theorem shK_2 (h1 : sOut a 0 23 = false) (h2 : sOut b 0 2 = false) (h3 : NIx ns d) (h4 : NIx nm e) (hn : ns ≤ 40) (hm : nm ≤ 40) (h5 : ¬ (d = -1 ↔ e = -1)) : shK ns nm a b d e els = 2 := by
  rw [shK_n h1 h2 h3 h4 hn hm]
  exact if_pos (fun z => h5 (decide_eq_decide.mp z))
theorem shK_3 (h1 : sOut a 0 23 = false) (h2 : sOut b 0 2 = false) (h3 : NIx ns d) (h4 : NIx nm e) (hn : ns ≤ 40) (hm : nm ≤ 40) (h5 : d = -1 ↔ e = -1) (h6 : ¬ e = -1) (h7 : els = true) : shK ns nm a b d e els = 3 := by
  rw [shK_n h1 h2 h3 h4 hn hm, if_neg (fun z => z (decide_eq_decide.mpr h5))]
  exact if_pos (by rw [h7, decide_eq_true h6]; rfl)
theorem shK_0 (h1 : sOut a 0 23 = false) (h2 : sOut b 0 2 = false) (h3 : NIx ns d) (h4 : NIx nm e) (hn : ns ≤ 40) (hm : nm ≤ 40) (h5 : d = -1 ↔ e = -1) (h6 : e = -1 ∨ els = false) : shK ns nm a b d e els = 0 := by
  rw [shK_n h1 h2 h3 h4 hn hm, if_neg (fun z => z (decide_eq_decide.mpr h5))]
  refine if_neg ?_
  rcases h6 with h6 | h6
  · rw [decide_eq_false (fun z => z h6)]; simp
  · rw [h6, Bool.and_false]; decide
theorem so_in {x : Int32} {n : Nat} (hn : n ≤ 40) (h : sOut x 0 (nI n - 1) = false) : ∃ j, j < n ∧ x = nI j := out_in (by omega) h
theorem shK_z (hn : ns ≤ 40) (hm : nm ≤ 40) (h : shK ns nm a b d e els = 0) : sOut a 0 23 = false ∧ sOut b 0 2 = false ∧ NIx ns d ∧ NIx nm e ∧ (d = -1 ↔ e = -1) ∧ (e = -1 ∨ els = false) := by
  cases c1 : sOut a 0 23 with
  | true => rw [shK_1a c1] at h; exact absurd h (by decide)
  | false =>
  cases c2 : sOut b 0 2 with
  | true => rw [shK_1b c2] at h; exact absurd h (by decide)
  | false =>
  have n3 : NIx ns d := by
    by_cases q : d = -1
    · exact Or.inl q
    · cases c3 : sOut d 0 (nI ns - 1) with
      | true => rw [shK_1c q c3] at h; exact absurd h (by decide)
      | false => exact Or.inr (so_in hn c3)
  have n4 : NIx nm e := by
    by_cases q : e = -1
    · exact Or.inl q
    · cases c3 : sOut e 0 (nI nm - 1) with
      | true => rw [shK_1d q c3] at h; exact absurd h (by decide)
      | false => exact Or.inr (so_in hm c3)
  by_cases c5 : d = -1 ↔ e = -1
  · refine ⟨rfl, rfl, n3, n4, c5, ?_⟩
    by_cases q : e = -1
    · exact Or.inl q
    · cases c6 : els with
      | true => rw [shK_3 c1 c2 n3 n4 hn hm c5 q c6] at h; exact absurd h (by decide)
      | false => exact Or.inr rfl
  · rw [shK_2 c1 c2 n3 n4 hn hm c5] at h; exact absurd h (by decide)
end SHK

theorem dX7_write_0 : decode cX7_write 0 = .ok (.iload_n 1, 1) := by decide +kernel
theorem dX7_write_1 : decode cX7_write 1 = .ok (.iload_n 2, 1) := by decide +kernel
theorem dX7_write_2 : decode cX7_write 2 = .ok (.invokestatic 49, 3) := by decide +kernel
theorem dX7_write_5 : decode cX7_write 5 = .ok (.ifCond .eq 26, 3) := by decide +kernel
theorem dX7_write_8 : decode cX7_write 8 = .ok (.aload_n 0, 1) := by decide +kernel
theorem dX7_write_9 : decode cX7_write 9 = .ok (.getfield 18, 3) := by decide +kernel
theorem dX7_write_12 : decode cX7_write 12 = .ok (.iload_n 1, 1) := by decide +kernel
theorem dX7_write_13 : decode cX7_write 13 = .ok (.iconst 3, 1) := by decide +kernel
theorem dX7_write_14 : decode cX7_write 14 = .ok (.imul, 1) := by decide +kernel
theorem dX7_write_15 : decode cX7_write 15 = .ok (.iload_n 2, 1) := by decide +kernel
theorem dX7_write_16 : decode cX7_write 16 = .ok (.iadd, 1) := by decide +kernel
theorem dX7_write_17 : decode cX7_write 17 = .ok (.iload_n 3, 1) := by decide +kernel
theorem dX7_write_18 : decode cX7_write 18 = .ok (.iastore, 1) := by decide +kernel
theorem dX7_write_19 : decode cX7_write 19 = .ok (.aload_n 0, 1) := by decide +kernel
theorem dX7_write_20 : decode cX7_write 20 = .ok (.getfield 22, 3) := by decide +kernel
theorem dX7_write_23 : decode cX7_write 23 = .ok (.iload_n 1, 1) := by decide +kernel
theorem dX7_write_24 : decode cX7_write 24 = .ok (.iconst 3, 1) := by decide +kernel
theorem dX7_write_25 : decode cX7_write 25 = .ok (.imul, 1) := by decide +kernel
theorem dX7_write_26 : decode cX7_write 26 = .ok (.iload_n 2, 1) := by decide +kernel
theorem dX7_write_27 : decode cX7_write 27 = .ok (.iadd, 1) := by decide +kernel
theorem dX7_write_28 : decode cX7_write 28 = .ok (.iload 4, 2) := by decide +kernel
theorem dX7_write_30 : decode cX7_write 30 = .ok (.iastore, 1) := by decide +kernel
theorem dX7_write_31 : decode cX7_write 31 = .ok (.return_, 1) := by decide +kernel
abbrev rm_m_X7_write : Room := { frames := 2, cells := 0, slots := 0, locals := 43 }
set_option maxHeartbeats 4000000 in
set_option maxRecDepth 100000 in
theorem m_X7_write {s0 : State} {l : Launch} {D : va_G} {cy : Nat → ClassId} (G : Gl s0 l D cy) (S : HS) (ea ns nj nm nt nr nc : Nat) (h : CI ea S ns nj nm nt nr nc) (a b d e_ : Int32) (hs : cIsSlot a b = true) : Ctr s0 l D cy yX7_write cX7_write 5 none rm_m_X7_write S [.ref (gG S 7 0), .int a, .int b, .int d, .int e_] (fun v S' => none = v ∧ S' = wrS S a b d e_) := by
  refine pro "CavershamShift$Room" G rfl rfl (Nat.le_of_ble_eq_true rfl) (fun p e s m below meth c ls X w hnm hl => ?_)
  have hx := X.1
  have hb := X.2.1
  have hown := X.2.2.2.1
  have hts := X.2.2.2.2.1
  have hl : lv_has ls 5 [(0, .ref (gG S 7 0)), (1, .int a), (2, .int b), (3, .int d), (4, .int e_)] := hl
  refine lv_iload_n hx hb dX7_write_0 rfl (lv_at hl 1 rfl) ?_
  refine lv_iload_n hx hb dX7_write_1 rfl (lv_at hl 2 rfl) ?_
  refine cS (S := S) (nA := 2) (As := [.int a, .int b]) (rest := []) X w hl (m_X7_isSlot G S ea ns nj nm nt nr nc h a b) wY_X7_isSlot wM_X7_49 wSt_X7_isSlot wI_X7 (by decide +kernel) rfl rfl dX7_write_2 ⟨by decide, by decide⟩ (Nat.le_of_ble_eq_true rfl) (⟨Nat.le_of_ble_eq_true rfl, Nat.le_of_ble_eq_true rfl⟩) (fun v1 S1 H locs hp w => ?_)
  obtain ⟨rfl, rfl⟩ := hp
  refine lv_if_eq (tgt := 31) hx hb dX7_write_5 (by decide) (fun hc => ?_) (fun hc => ?_)
  · exact absurd (b2i_f hc) (by rw [hs]; decide)
  · refine lv_aload_n hx hb dX7_write_8 rfl (lv_at hl 0 rfl) ?_
    refine g_7_2 (S := S) (x := (some (gG S 32 0))) X w h.v7 wF_X7_18 (h.f114) dX7_write_9 ?_
    refine lv_iload_n hx hb dX7_write_12 rfl (lv_at hl 1 rfl) ?_
    refine lv_iconst (v := 3) hx hb dX7_write_13 (by decide) ?_
    refine lv_imul hx hb dX7_write_14 ?_
    refine lv_iload_n hx hb dX7_write_15 rfl (lv_at hl 2 rfl) ?_
    refine lv_iadd hx hb dX7_write_16 ?_
    refine lv_iload_n hx hb dX7_write_17 rfl (lv_at hl 3 rfl) ?_
    refine aStI (S := S) (t := 32) X w h.a0.1 (by decide) rfl rfl (by show vp_in _ (mN S 32 0); rw [h.a0.2]; exact slot_vp hs) dX7_write_18 (fun H locs w => ?_)
    refine lv_aload_n hx hb dX7_write_19 rfl (lv_at hl 0 rfl) ?_
    refine g_7_3 (S := (sA S 32 0 (upd (mA S 32 0) ((a * 3) + b).toNatClampNeg d))) (x := (some (gG (sA S 32 0 (upd (mA S 32 0) ((a * 3) + b).toNatClampNeg d)) 32 1))) X w h.v7 wF_X7_22 (h.f115) dX7_write_20 ?_
    refine lv_iload_n hx hb dX7_write_23 rfl (lv_at hl 1 rfl) ?_
    refine lv_iconst (v := 3) hx hb dX7_write_24 (by decide) ?_
    refine lv_imul hx hb dX7_write_25 ?_
    refine lv_iload_n hx hb dX7_write_26 rfl (lv_at hl 2 rfl) ?_
    refine lv_iadd hx hb dX7_write_27 ?_
    refine lv_iload hx hb dX7_write_28 (lv_at hl 4 rfl) ?_
    refine aStI (S := (sA S 32 0 (upd (mA S 32 0) ((a * 3) + b).toNatClampNeg d))) (t := 32) X w h.a1.1 (by decide) rfl rfl (by show vp_in _ (mN S 32 1); rw [h.a1.2]; exact slot_vp hs) dX7_write_30 (fun H locs w => ?_)
    exact rV X w rfl dX7_write_31 (by decide) (by decide) (⟨rfl, rfl⟩)

theorem dX10_shift_0 : decode cX10_shift 0 = .ok (.iload_n 1, 1) := by decide +kernel
theorem dX10_shift_1 : decode cX10_shift 1 = .ok (.iconst 0, 1) := by decide +kernel
theorem dX10_shift_2 : decode cX10_shift 2 = .ok (.bipush 23, 2) := by decide +kernel
theorem dX10_shift_4 : decode cX10_shift 4 = .ok (.invokestatic 48, 3) := by decide +kernel
theorem dX10_shift_7 : decode cX10_shift 7 = .ok (.ifCond .ne 12, 3) := by decide +kernel
theorem dX10_shift_10 : decode cX10_shift 10 = .ok (.iload_n 2, 1) := by decide +kernel
theorem dX10_shift_11 : decode cX10_shift 11 = .ok (.iconst 0, 1) := by decide +kernel
theorem dX10_shift_12 : decode cX10_shift 12 = .ok (.iconst 2, 1) := by decide +kernel
theorem dX10_shift_13 : decode cX10_shift 13 = .ok (.invokestatic 48, 3) := by decide +kernel
theorem dX10_shift_16 : decode cX10_shift 16 = .ok (.ifCond .eq 13, 3) := by decide +kernel
theorem dX10_shift_19 : decode cX10_shift 19 = .ok (.new 90, 3) := by decide +kernel
theorem dX10_shift_22 : decode cX10_shift 22 = .ok (.dup, 1) := by decide +kernel
theorem dX10_shift_23 : decode cX10_shift 23 = .ok (.ldc 132, 2) := by decide +kernel
theorem dX10_shift_25 : decode cX10_shift 25 = .ok (.invokespecial 94, 3) := by decide +kernel
theorem dX10_shift_28 : decode cX10_shift 28 = .ok (.athrow, 1) := by decide +kernel
theorem dX10_shift_29 : decode cX10_shift 29 = .ok (.iload_n 3, 1) := by decide +kernel
theorem dX10_shift_30 : decode cX10_shift 30 = .ok (.iconst (-1), 1) := by decide +kernel
theorem dX10_shift_31 : decode cX10_shift 31 = .ok (.if_icmp .eq 24, 3) := by decide +kernel
theorem dX10_shift_34 : decode cX10_shift 34 = .ok (.aload_n 0, 1) := by decide +kernel
theorem dX10_shift_35 : decode cX10_shift 35 = .ok (.getfield 12, 3) := by decide +kernel
theorem dX10_shift_38 : decode cX10_shift 38 = .ok (.iload_n 3, 1) := by decide +kernel
theorem dX10_shift_39 : decode cX10_shift 39 = .ok (.invokevirtual 86, 3) := by decide +kernel
theorem dX10_shift_42 : decode cX10_shift 42 = .ok (.ifnonnull 13, 3) := by decide +kernel
theorem dX10_shift_45 : decode cX10_shift 45 = .ok (.new 90, 3) := by decide +kernel
theorem dX10_shift_48 : decode cX10_shift 48 = .ok (.dup, 1) := by decide +kernel
theorem dX10_shift_49 : decode cX10_shift 49 = .ok (.ldc 92, 2) := by decide +kernel
theorem dX10_shift_51 : decode cX10_shift 51 = .ok (.invokespecial 94, 3) := by decide +kernel
theorem dX10_shift_54 : decode cX10_shift 54 = .ok (.athrow, 1) := by decide +kernel
theorem dX10_shift_55 : decode cX10_shift 55 = .ok (.iload 4, 2) := by decide +kernel
theorem dX10_shift_57 : decode cX10_shift 57 = .ok (.iconst (-1), 1) := by decide +kernel
theorem dX10_shift_58 : decode cX10_shift 58 = .ok (.if_icmp .eq 25, 3) := by decide +kernel
theorem dX10_shift_61 : decode cX10_shift 61 = .ok (.aload_n 0, 1) := by decide +kernel
theorem dX10_shift_62 : decode cX10_shift 62 = .ok (.getfield 21, 3) := by decide +kernel
theorem dX10_shift_65 : decode cX10_shift 65 = .ok (.iload 4, 2) := by decide +kernel
theorem dX10_shift_67 : decode cX10_shift 67 = .ok (.invokevirtual 134, 3) := by decide +kernel
theorem dX10_shift_70 : decode cX10_shift 70 = .ok (.ifnonnull 13, 3) := by decide +kernel
theorem dX10_shift_73 : decode cX10_shift 73 = .ok (.new 90, 3) := by decide +kernel
theorem dX10_shift_76 : decode cX10_shift 76 = .ok (.dup, 1) := by decide +kernel
theorem dX10_shift_77 : decode cX10_shift 77 = .ok (.ldc 138, 2) := by decide +kernel
theorem dX10_shift_79 : decode cX10_shift 79 = .ok (.invokespecial 94, 3) := by decide +kernel
theorem dX10_shift_82 : decode cX10_shift 82 = .ok (.athrow, 1) := by decide +kernel
theorem dX10_shift_83 : decode cX10_shift 83 = .ok (.iload_n 3, 1) := by decide +kernel
theorem dX10_shift_84 : decode cX10_shift 84 = .ok (.iconst (-1), 1) := by decide +kernel
theorem dX10_shift_85 : decode cX10_shift 85 = .ok (.if_icmp .ne 7, 3) := by decide +kernel
theorem dX10_shift_88 : decode cX10_shift 88 = .ok (.iconst 1, 1) := by decide +kernel
theorem dX10_shift_89 : decode cX10_shift 89 = .ok (.goto 4, 3) := by decide +kernel
theorem dX10_shift_92 : decode cX10_shift 92 = .ok (.iconst 0, 1) := by decide +kernel
theorem dX10_shift_93 : decode cX10_shift 93 = .ok (.iload 4, 2) := by decide +kernel
theorem dX10_shift_95 : decode cX10_shift 95 = .ok (.iconst (-1), 1) := by decide +kernel
theorem dX10_shift_96 : decode cX10_shift 96 = .ok (.if_icmp .ne 7, 3) := by decide +kernel
theorem dX10_shift_99 : decode cX10_shift 99 = .ok (.iconst 1, 1) := by decide +kernel
theorem dX10_shift_100 : decode cX10_shift 100 = .ok (.goto 4, 3) := by decide +kernel
theorem dX10_shift_103 : decode cX10_shift 103 = .ok (.iconst 0, 1) := by decide +kernel
theorem dX10_shift_104 : decode cX10_shift 104 = .ok (.if_icmp .eq 13, 3) := by decide +kernel
theorem dX10_shift_107 : decode cX10_shift 107 = .ok (.new 52, 3) := by decide +kernel
theorem dX10_shift_110 : decode cX10_shift 110 = .ok (.dup, 1) := by decide +kernel
theorem dX10_shift_111 : decode cX10_shift 111 = .ok (.ldc 140, 2) := by decide +kernel
theorem dX10_shift_113 : decode cX10_shift 113 = .ok (.invokespecial 56, 3) := by decide +kernel
theorem dX10_shift_116 : decode cX10_shift 116 = .ok (.athrow, 1) := by decide +kernel
theorem dX10_shift_117 : decode cX10_shift 117 = .ok (.iload 4, 2) := by decide +kernel
theorem dX10_shift_119 : decode cX10_shift 119 = .ok (.iconst (-1), 1) := by decide +kernel
theorem dX10_shift_120 : decode cX10_shift 120 = .ok (.if_icmp .eq 27, 3) := by decide +kernel
theorem dX10_shift_123 : decode cX10_shift 123 = .ok (.aload_n 0, 1) := by decide +kernel
theorem dX10_shift_124 : decode cX10_shift 124 = .ok (.getfield 21, 3) := by decide +kernel
theorem dX10_shift_127 : decode cX10_shift 127 = .ok (.iload_n 1, 1) := by decide +kernel
theorem dX10_shift_128 : decode cX10_shift 128 = .ok (.iload_n 2, 1) := by decide +kernel
theorem dX10_shift_129 : decode cX10_shift 129 = .ok (.iload 4, 2) := by decide +kernel
theorem dX10_shift_131 : decode cX10_shift 131 = .ok (.invokevirtual 142, 3) := by decide +kernel
theorem dX10_shift_134 : decode cX10_shift 134 = .ok (.ifCond .eq 13, 3) := by decide +kernel
theorem dX10_shift_137 : decode cX10_shift 137 = .ok (.new 72, 3) := by decide +kernel
theorem dX10_shift_140 : decode cX10_shift 140 = .ok (.dup, 1) := by decide +kernel
theorem dX10_shift_141 : decode cX10_shift 141 = .ok (.ldc 145, 2) := by decide +kernel
theorem dX10_shift_143 : decode cX10_shift 143 = .ok (.invokespecial 76, 3) := by decide +kernel
theorem dX10_shift_146 : decode cX10_shift 146 = .ok (.athrow, 1) := by decide +kernel
theorem dX10_shift_147 : decode cX10_shift 147 = .ok (.aload_n 0, 1) := by decide +kernel
theorem dX10_shift_148 : decode cX10_shift 148 = .ok (.getfield 21, 3) := by decide +kernel
theorem dX10_shift_151 : decode cX10_shift 151 = .ok (.iload_n 1, 1) := by decide +kernel
theorem dX10_shift_152 : decode cX10_shift 152 = .ok (.iload_n 2, 1) := by decide +kernel
theorem dX10_shift_153 : decode cX10_shift 153 = .ok (.invokevirtual 147, 3) := by decide +kernel
theorem dX10_shift_156 : decode cX10_shift 156 = .ok (.istore 5, 2) := by decide +kernel
theorem dX10_shift_158 : decode cX10_shift 158 = .ok (.aload_n 0, 1) := by decide +kernel
theorem dX10_shift_159 : decode cX10_shift 159 = .ok (.getfield 21, 3) := by decide +kernel
theorem dX10_shift_162 : decode cX10_shift 162 = .ok (.iload_n 1, 1) := by decide +kernel
theorem dX10_shift_163 : decode cX10_shift 163 = .ok (.iload_n 2, 1) := by decide +kernel
theorem dX10_shift_164 : decode cX10_shift 164 = .ok (.iload_n 3, 1) := by decide +kernel
theorem dX10_shift_165 : decode cX10_shift 165 = .ok (.iload 4, 2) := by decide +kernel
theorem dX10_shift_167 : decode cX10_shift 167 = .ok (.invokevirtual 151, 3) := by decide +kernel
theorem dX10_shift_170 : decode cX10_shift 170 = .ok (.iload 5, 2) := by decide +kernel
theorem dX10_shift_172 : decode cX10_shift 172 = .ok (.ireturn, 1) := by decide +kernel
abbrev rm_m_X10_shift : Room := { frames := 6, cells := 1, slots := 6, locals := 90 }
set_option maxHeartbeats 4000000 in
set_option maxRecDepth 100000 in
theorem m_X10_shift {s0 : State} {l : Launch} {D : va_G} {cy : Nat → ClassId} (G : Gl s0 l D cy) (S : HS) (ea ns nj nm nt nr nc : Nat) (h : CI ea S ns nj nm nt nr nc) (a b d e_ : Int32) : CtX s0 l D cy yX10_shift cX10_shift 6 (some .int) rm_m_X10_shift S [.ref (gG S 10 0), .int a, .int b, .int d, .int e_] (fun v S' => shK ns nm a b d e_ (cElse S a b e_ 3) = 0 ∧ some (.int (cSlot S 0 a b)) = v ∧ S' = wrS S a b d e_) (fun E S' => S = S' ∧ ((E = "java/lang/IndexOutOfBoundsException" ∧ shK ns nm a b d e_ (cElse S a b e_ 3) = 1) ∨ (E = "java/lang/IllegalArgumentException" ∧ shK ns nm a b d e_ (cElse S a b e_ 3) = 2) ∨ (E = "java/lang/IllegalStateException" ∧ shK ns nm a b d e_ (cElse S a b e_ 3) = 3))) := by
  refine proX "CavershamShift" G rfl rfl (Nat.le_of_ble_eq_true rfl) (fun p e s m below meth c ls X w hno hl => ?_)
  have hx := X.1
  have hb := X.2.1
  have hown := X.2.2.2.1
  have hts := X.2.2.2.2.1
  have hl : lv_has ls 6 [(0, .ref (gG S 10 0)), (1, .int a), (2, .int b), (3, .int d), (4, .int e_)] := hl
  have h0 := h
  have hK : Kq clsT clsB clsR S S := Kq.rf
  refine lv_iload_n hx hb dX10_shift_0 rfl (lv_at hl 1 rfl) ?_
  refine lv_iconst (v := 0) hx hb dX10_shift_1 (by decide) ?_
  refine lv_bipush (v := 23) hx hb dX10_shift_2 (by decide) ?_
  refine cS (S := S) (nA := 3) (As := [.int a, .int 0, .int 23]) (rest := []) X w hl (m_X10_isOutside G S a 0 23) wY_X10_isOutside wM_X10_48 wSt_X10_isOutside wI_X10 (by decide +kernel) rfl rfl dX10_shift_4 ⟨by decide, by decide⟩ (Nat.le_of_ble_eq_true rfl) (⟨Nat.le_of_ble_eq_true rfl, Nat.le_of_ble_eq_true rfl⟩) (fun v1 S1 H locs hp w => ?_)
  obtain ⟨rfl, rfl⟩ := hp
  refine lv_if_ne (tgt := 19) hx hb dX10_shift_7 (by decide) (fun hy7 => ?_) (fun hy7 => ?_)
  · exact rT (S := S) (names := ["java/lang/RuntimeException", "java/lang/Exception"]) X w hl hno (by decide) (by decide) wC_X10_90 wI_java_lang_IndexOutOfBoundsException wS9_X10_132 at_IOB go_IOB ⟨by decide, by decide⟩ dX10_shift_19 dX10_shift_22 dX10_shift_23 dX10_shift_25 dX10_shift_28 (by decide) (by decide) (Nat.le_of_ble_eq_true rfl) (Nat.le_of_ble_eq_true rfl) (Nat.le_of_ble_eq_true rfl) (Nat.le_of_ble_eq_true rfl) (⟨rfl, Or.inl ⟨rfl, by first | exact shK_1a (b2i_t hy7) | exact shK_1b (b2i_t hy16)⟩⟩)
  · refine lv_iload_n hx hb dX10_shift_10 rfl (lv_at hl 2 rfl) ?_
    refine lv_iconst (v := 0) hx hb dX10_shift_11 (by decide) ?_
    refine lv_iconst (v := 2) hx hb dX10_shift_12 (by decide) ?_
    refine cS (S := S) (nA := 3) (As := [.int b, .int 0, .int 2]) (rest := []) X w hl (m_X10_isOutside G S b 0 2) wY_X10_isOutside wM_X10_48 wSt_X10_isOutside wI_X10 (by decide +kernel) rfl rfl dX10_shift_13 ⟨by decide, by decide⟩ (Nat.le_of_ble_eq_true rfl) (⟨Nat.le_of_ble_eq_true rfl, Nat.le_of_ble_eq_true rfl⟩) (fun v2 S1 H locs hp w => ?_)
    obtain ⟨rfl, rfl⟩ := hp
    refine lv_if_eq (tgt := 29) hx hb dX10_shift_16 (by decide) (fun hy16 => ?_) (fun hy16 => ?_)
    · refine lv_iload_n hx hb dX10_shift_29 rfl (lv_at hl 3 rfl) ?_
      refine lv_iconst (v := (-1)) hx hb dX10_shift_30 (by decide) ?_
      refine lv_icmp_eq (tgt := 55) hx hb dX10_shift_31 (by decide) (fun hst => ?_) (fun hst => ?_)
      · obtain rfl : d = -1 := hst
        refine lv_iload hx hb dX10_shift_55 (lv_at hl 4 rfl) ?_
        refine lv_iconst (v := (-1)) hx hb dX10_shift_57 (by decide) ?_
        refine lv_icmp_eq (tgt := 83) hx hb dX10_shift_58 (by decide) (fun hmo => ?_) (fun hmo => ?_)
        · obtain rfl : e_ = -1 := hmo
          refine lv_iload_n hx hb dX10_shift_83 rfl (lv_at hl 3 rfl) ?_
          refine lv_iconst (v := (-1)) hx hb dX10_shift_84 (by decide) ?_
          refine lv_icmp_ne (tgt := 92) hx hb dX10_shift_85 (by decide) (fun hc3 => ?_) (fun hc3 => ?_)
          · exact absurd hc3 (by decide)
          · refine lv_iconst (v := 1) hx hb dX10_shift_88 (by decide) ?_
            refine lv_goto (tgt := 93) hx hb dX10_shift_89 (by decide) ?_
            refine lv_iload hx hb dX10_shift_93 (lv_at hl 4 rfl) ?_
            refine lv_iconst (v := (-1)) hx hb dX10_shift_95 (by decide) ?_
            refine lv_icmp_ne (tgt := 103) hx hb dX10_shift_96 (by decide) (fun hc4 => ?_) (fun hc4 => ?_)
            · exact absurd hc4 (by decide)
            · refine lv_iconst (v := 1) hx hb dX10_shift_99 (by decide) ?_
              refine lv_goto (tgt := 104) hx hb dX10_shift_100 (by decide) ?_
              refine lv_icmp_eq (tgt := 117) hx hb dX10_shift_104 (by decide) (fun hc5 => ?_) (fun hc5 => ?_)
              · refine lv_iload hx hb dX10_shift_117 (lv_at hl 4 rfl) ?_
                refine lv_iconst (v := (-1)) hx hb dX10_shift_119 (by decide) ?_
                refine lv_icmp_eq (tgt := 147) hx hb dX10_shift_120 (by decide) (fun hc6 => ?_) (fun hc6 => ?_)
                · refine lv_aload_n hx hb dX10_shift_147 rfl (lv_at hl 0 rfl) ?_
                  refine g_10_1 (S := S) (x := (some (gG S 7 0))) X w h.v10 wF_X10_21 (h.f161) dX10_shift_148 ?_
                  refine lv_iload_n hx hb dX10_shift_151 rfl (lv_at hl 1 rfl) ?_
                  refine lv_iload_n hx hb dX10_shift_152 rfl (lv_at hl 2 rfl) ?_
                  refine cV (S := S) (nA := 2) (As := [.int a, .int b]) (rest := []) X w hl h.v7 (m_X7_stationIn G S ea ns nj nm nt nr nc h a b) wY_X7_stationIn wM_X10_147 wIn_X7_stationIn wSe_X7_X7_stationIn wI_X7 (by decide) rfl (by decide +kernel) rfl rfl dX10_shift_153 ⟨by decide, by decide⟩ (Nat.le_of_ble_eq_true rfl) (⟨Nat.le_of_ble_eq_true rfl, Nat.le_of_ble_eq_true rfl⟩) (fun v7 S1 H locs hp w => ?_)
                  obtain ⟨rfl, rfl⟩ := hp
                  refine lv_istore (lv' := [(5, .int (cSlot S 0 a b)), (0, .ref (gG S 10 0)), (1, .int a), (2, .int b), (3, .int (-1)), (4, .int (-1))]) hx hb dX10_shift_156 hl (by decide) rfl (fun ls hl => ?_)
                  refine lv_aload_n hx hb dX10_shift_158 rfl (lv_at hl 1 rfl) ?_
                  refine g_10_1 (S := S) (x := (some (gG S 7 0))) X w h.v10 wF_X10_21 (h.f161) dX10_shift_159 ?_
                  refine lv_iload_n hx hb dX10_shift_162 rfl (lv_at hl 2 rfl) ?_
                  refine lv_iload_n hx hb dX10_shift_163 rfl (lv_at hl 3 rfl) ?_
                  refine lv_iload_n hx hb dX10_shift_164 rfl (lv_at hl 4 rfl) ?_
                  refine lv_iload hx hb dX10_shift_165 (lv_at hl 5 rfl) ?_
                  have hcs : cIsSlot a b = true := by unfold cIsSlot; rw [b2i_f hy7, b2i_f hy16]; rfl
                  refine cV (S := S) (nA := 4) (As := [.int a, .int b, .int (-1), .int (-1)]) (rest := []) X w hl h.v7 (m_X7_write G S ea ns nj nm nt nr nc h a b (-1) (-1) hcs) wY_X7_write wM_X10_151 wIn_X7_write wSe_X7_X7_write wI_X7 (by decide) rfl (by decide +kernel) rfl rfl dX10_shift_167 ⟨by decide, by decide⟩ (Nat.le_of_ble_eq_true rfl) (⟨Nat.le_of_ble_eq_true rfl, Nat.le_of_ble_eq_true rfl⟩) (fun v8 S1 H locs hp w => ?_)
                  obtain ⟨rfl, rfl⟩ := hp
                  have h : CI ea (wrS S a b (-1) (-1)) ns nj nm nt nr nc := h.wr _ _
                  have hK : Kq clsT clsB clsR S (wrS S a b (-1) (-1)) := (hK.sA rfl).sA rfl
                  refine lv_iload hx hb dX10_shift_170 (lv_at hl 0 rfl) ?_
                  exact rXr (rI X w rfl dX10_shift_172 (by decide) (by decide) (⟨shK_0 (b2i_f hy7) (b2i_f hy16) (by first | exact Or.inl rfl | exact Or.inr ⟨_, by assumption, by assumption⟩) (by first | exact Or.inl rfl | exact Or.inr ⟨_, by assumption, by assumption⟩) (Nat.le_trans h.b_st (by decide)) (Nat.le_trans h.b_mo (by decide)) (by first | exact ⟨fun _ => rfl, fun _ => rfl⟩ | exact ⟨fun z => absurd z hst, fun z => absurd z hmo⟩) (by first | exact Or.inl rfl | exact Or.inr (b2i_f hel)), rfl, rfl⟩))
                · exact absurd hc6 (by decide)
              · exact absurd hc5 (by decide)
        · refine lv_aload_n hx hb dX10_shift_61 rfl (lv_at hl 0 rfl) ?_
          refine g_10_1 (S := S) (x := (some (gG S 7 0))) X w h.v10 wF_X10_21 (h.f161) dX10_shift_62 ?_
          refine lv_iload hx hb dX10_shift_65 (lv_at hl 4 rfl) ?_
          refine cV (S := S) (nA := 1) (As := [.int e_]) (rest := []) X w hl h.v7 (m_X7_monitorAt G S ea ns nj nm nt nr nc h e_) wY_X7_monitorAt wM_X10_134 wIn_X7_monitorAt wSe_X7_X7_monitorAt wI_X7 (by decide) rfl (by decide +kernel) rfl rfl dX10_shift_67 ⟨by decide, by decide⟩ (Nat.le_of_ble_eq_true rfl) (⟨Nat.le_of_ble_eq_true rfl, Nat.le_of_ble_eq_true rfl⟩) (fun v10 S1 H locs hp w => ?_)
          obtain ⟨hp, rfl⟩ := hp
          rcases hp with ⟨rfl, hoj9⟩ | ⟨j9, hlj9, hkj9, rfl⟩
          · skip
            refine lv_ifnonnullN hx hb dX10_shift_70 ?_
            exact rT (S := S) (names := ["java/lang/RuntimeException", "java/lang/Exception"]) X w hl hno (by decide) (by decide) wC_X10_90 wI_java_lang_IndexOutOfBoundsException wS9_X10_138 at_IOB go_IOB ⟨by decide, by decide⟩ dX10_shift_73 dX10_shift_76 dX10_shift_77 dX10_shift_79 dX10_shift_82 (by decide) (by decide) (Nat.le_of_ble_eq_true rfl) (Nat.le_of_ble_eq_true rfl) (Nat.le_of_ble_eq_true rfl) (Nat.le_of_ble_eq_true rfl) (⟨rfl, Or.inl ⟨rfl, shK_1d hmo (by assumption)⟩⟩)
          · skip
            refine lv_ifnonnull (tgt := 83) hx hb dX10_shift_70 (by decide) ?_
            refine lv_iload_n hx hb dX10_shift_83 rfl (lv_at hl 3 rfl) ?_
            refine lv_iconst (v := (-1)) hx hb dX10_shift_84 (by decide) ?_
            refine lv_icmp_ne (tgt := 92) hx hb dX10_shift_85 (by decide) (fun hc11 => ?_) (fun hc11 => ?_)
            · exact absurd hc11 (by decide)
            · refine lv_iconst (v := 1) hx hb dX10_shift_88 (by decide) ?_
              refine lv_goto (tgt := 93) hx hb dX10_shift_89 (by decide) ?_
              refine lv_iload hx hb dX10_shift_93 (lv_at hl 4 rfl) ?_
              refine lv_iconst (v := (-1)) hx hb dX10_shift_95 (by decide) ?_
              refine lv_icmp_ne (tgt := 103) hx hb dX10_shift_96 (by decide) (fun hd96 => ?_) (fun hd96 => ?_)
              · refine lv_iconst (v := 0) hx hb dX10_shift_103 (by decide) ?_
                refine lv_icmp_eq (tgt := 117) hx hb dX10_shift_104 (by decide) (fun hc12 => ?_) (fun hc12 => ?_)
                · exact absurd hc12 (by decide)
                · exact rT (S := S) (names := ["java/lang/RuntimeException", "java/lang/Exception"]) X w hl hno (by decide) (by decide) wC_X10_52 wI_java_lang_IllegalArgumentException wS9_X10_140 at_IAE go_IAE ⟨by decide, by decide⟩ dX10_shift_107 dX10_shift_110 dX10_shift_111 dX10_shift_113 dX10_shift_116 (by decide) (by decide) (Nat.le_of_ble_eq_true rfl) (Nat.le_of_ble_eq_true rfl) (Nat.le_of_ble_eq_true rfl) (Nat.le_of_ble_eq_true rfl) (⟨rfl, Or.inr (Or.inl ⟨rfl, shK_2 (b2i_f hy7) (b2i_f hy16) (by first | exact Or.inl rfl | exact Or.inr ⟨_, by assumption, by assumption⟩) (by first | exact Or.inl rfl | exact Or.inr ⟨_, by assumption, by assumption⟩) (Nat.le_trans h.b_st (by decide)) (Nat.le_trans h.b_mo (by decide)) (by first | exact fun z => hmo (z.mp rfl) | exact fun z => hst (z.mpr rfl))⟩)⟩)
              · exact absurd hd96 hmo
      · refine lv_aload_n hx hb dX10_shift_34 rfl (lv_at hl 0 rfl) ?_
        refine g_10_0 (S := S) (x := (some (gG S 0 0))) X w h.v10 wF_X10_12 (h.f160) dX10_shift_35 ?_
        refine lv_iload_n hx hb dX10_shift_38 rfl (lv_at hl 3 rfl) ?_
        refine cV (S := S) (nA := 1) (As := [.int d]) (rest := []) X w hl h.v0 (m_X0_stationAt G S ea ns nj nm nt nr nc h d) wY_X0_stationAt wM_X10_86 wIn_X0_stationAt wSe_X0_X0_stationAt wI_X0 (by decide) rfl (by decide +kernel) rfl rfl dX10_shift_39 ⟨by decide, by decide⟩ (Nat.le_of_ble_eq_true rfl) (⟨Nat.le_of_ble_eq_true rfl, Nat.le_of_ble_eq_true rfl⟩) (fun v14 S1 H locs hp w => ?_)
        obtain ⟨hp, rfl⟩ := hp
        rcases hp with ⟨rfl, hoj13⟩ | ⟨j13, hlj13, hkj13, rfl⟩
        · skip
          refine lv_ifnonnullN hx hb dX10_shift_42 ?_
          exact rT (S := S) (names := ["java/lang/RuntimeException", "java/lang/Exception"]) X w hl hno (by decide) (by decide) wC_X10_90 wI_java_lang_IndexOutOfBoundsException wS9_X10_92 at_IOB go_IOB ⟨by decide, by decide⟩ dX10_shift_45 dX10_shift_48 dX10_shift_49 dX10_shift_51 dX10_shift_54 (by decide) (by decide) (Nat.le_of_ble_eq_true rfl) (Nat.le_of_ble_eq_true rfl) (Nat.le_of_ble_eq_true rfl) (Nat.le_of_ble_eq_true rfl) (⟨rfl, Or.inl ⟨rfl, shK_1c hst (by assumption)⟩⟩)
        · skip
          refine lv_ifnonnull (tgt := 55) hx hb dX10_shift_42 (by decide) ?_
          refine lv_iload hx hb dX10_shift_55 (lv_at hl 4 rfl) ?_
          refine lv_iconst (v := (-1)) hx hb dX10_shift_57 (by decide) ?_
          refine lv_icmp_eq (tgt := 83) hx hb dX10_shift_58 (by decide) (fun hmo => ?_) (fun hmo => ?_)
          · obtain rfl : e_ = -1 := hmo
            refine lv_iload_n hx hb dX10_shift_83 rfl (lv_at hl 3 rfl) ?_
            refine lv_iconst (v := (-1)) hx hb dX10_shift_84 (by decide) ?_
            refine lv_icmp_ne (tgt := 92) hx hb dX10_shift_85 (by decide) (fun hd85 => ?_) (fun hd85 => ?_)
            · refine lv_iconst (v := 0) hx hb dX10_shift_92 (by decide) ?_
              refine lv_iload hx hb dX10_shift_93 (lv_at hl 4 rfl) ?_
              refine lv_iconst (v := (-1)) hx hb dX10_shift_95 (by decide) ?_
              refine lv_icmp_ne (tgt := 103) hx hb dX10_shift_96 (by decide) (fun hc15 => ?_) (fun hc15 => ?_)
              · exact absurd hc15 (by decide)
              · refine lv_iconst (v := 1) hx hb dX10_shift_99 (by decide) ?_
                refine lv_goto (tgt := 104) hx hb dX10_shift_100 (by decide) ?_
                refine lv_icmp_eq (tgt := 117) hx hb dX10_shift_104 (by decide) (fun hc16 => ?_) (fun hc16 => ?_)
                · exact absurd hc16 (by decide)
                · exact rT (S := S) (names := ["java/lang/RuntimeException", "java/lang/Exception"]) X w hl hno (by decide) (by decide) wC_X10_52 wI_java_lang_IllegalArgumentException wS9_X10_140 at_IAE go_IAE ⟨by decide, by decide⟩ dX10_shift_107 dX10_shift_110 dX10_shift_111 dX10_shift_113 dX10_shift_116 (by decide) (by decide) (Nat.le_of_ble_eq_true rfl) (Nat.le_of_ble_eq_true rfl) (Nat.le_of_ble_eq_true rfl) (Nat.le_of_ble_eq_true rfl) (⟨rfl, Or.inr (Or.inl ⟨rfl, shK_2 (b2i_f hy7) (b2i_f hy16) (by first | exact Or.inl rfl | exact Or.inr ⟨_, by assumption, by assumption⟩) (by first | exact Or.inl rfl | exact Or.inr ⟨_, by assumption, by assumption⟩) (Nat.le_trans h.b_st (by decide)) (Nat.le_trans h.b_mo (by decide)) (by first | exact fun z => hmo (z.mp rfl) | exact fun z => hst (z.mpr rfl))⟩)⟩)
            · exact absurd hd85 hst
          · refine lv_aload_n hx hb dX10_shift_61 rfl (lv_at hl 0 rfl) ?_
            refine g_10_1 (S := S) (x := (some (gG S 7 0))) X w h.v10 wF_X10_21 (h.f161) dX10_shift_62 ?_
            refine lv_iload hx hb dX10_shift_65 (lv_at hl 4 rfl) ?_
            refine cV (S := S) (nA := 1) (As := [.int e_]) (rest := []) X w hl h.v7 (m_X7_monitorAt G S ea ns nj nm nt nr nc h e_) wY_X7_monitorAt wM_X10_134 wIn_X7_monitorAt wSe_X7_X7_monitorAt wI_X7 (by decide) rfl (by decide +kernel) rfl rfl dX10_shift_67 ⟨by decide, by decide⟩ (Nat.le_of_ble_eq_true rfl) (⟨Nat.le_of_ble_eq_true rfl, Nat.le_of_ble_eq_true rfl⟩) (fun v18 S1 H locs hp w => ?_)
            obtain ⟨hp, rfl⟩ := hp
            rcases hp with ⟨rfl, hoj17⟩ | ⟨j17, hlj17, hkj17, rfl⟩
            · skip
              refine lv_ifnonnullN hx hb dX10_shift_70 ?_
              exact rT (S := S) (names := ["java/lang/RuntimeException", "java/lang/Exception"]) X w hl hno (by decide) (by decide) wC_X10_90 wI_java_lang_IndexOutOfBoundsException wS9_X10_138 at_IOB go_IOB ⟨by decide, by decide⟩ dX10_shift_73 dX10_shift_76 dX10_shift_77 dX10_shift_79 dX10_shift_82 (by decide) (by decide) (Nat.le_of_ble_eq_true rfl) (Nat.le_of_ble_eq_true rfl) (Nat.le_of_ble_eq_true rfl) (Nat.le_of_ble_eq_true rfl) (⟨rfl, Or.inl ⟨rfl, shK_1d hmo (by assumption)⟩⟩)
            · skip
              refine lv_ifnonnull (tgt := 83) hx hb dX10_shift_70 (by decide) ?_
              refine lv_iload_n hx hb dX10_shift_83 rfl (lv_at hl 3 rfl) ?_
              refine lv_iconst (v := (-1)) hx hb dX10_shift_84 (by decide) ?_
              refine lv_icmp_ne (tgt := 92) hx hb dX10_shift_85 (by decide) (fun hd85 => ?_) (fun hd85 => ?_)
              · refine lv_iconst (v := 0) hx hb dX10_shift_92 (by decide) ?_
                refine lv_iload hx hb dX10_shift_93 (lv_at hl 4 rfl) ?_
                refine lv_iconst (v := (-1)) hx hb dX10_shift_95 (by decide) ?_
                refine lv_icmp_ne (tgt := 103) hx hb dX10_shift_96 (by decide) (fun hd96 => ?_) (fun hd96 => ?_)
                · refine lv_iconst (v := 0) hx hb dX10_shift_103 (by decide) ?_
                  refine lv_icmp_eq (tgt := 117) hx hb dX10_shift_104 (by decide) (fun hc19 => ?_) (fun hc19 => ?_)
                  · refine lv_iload hx hb dX10_shift_117 (lv_at hl 4 rfl) ?_
                    refine lv_iconst (v := (-1)) hx hb dX10_shift_119 (by decide) ?_
                    refine lv_icmp_eq (tgt := 147) hx hb dX10_shift_120 (by decide) (fun hd120 => ?_) (fun hd120 => ?_)
                    · exact absurd hd120 hmo
                    · refine lv_aload_n hx hb dX10_shift_123 rfl (lv_at hl 0 rfl) ?_
                      refine g_10_1 (S := S) (x := (some (gG S 7 0))) X w h.v10 wF_X10_21 (h.f161) dX10_shift_124 ?_
                      refine lv_iload_n hx hb dX10_shift_127 rfl (lv_at hl 1 rfl) ?_
                      refine lv_iload_n hx hb dX10_shift_128 rfl (lv_at hl 2 rfl) ?_
                      refine lv_iload hx hb dX10_shift_129 (lv_at hl 4 rfl) ?_
                      refine cV (S := S) (nA := 3) (As := [.int a, .int b, .int e_]) (rest := []) X w hl h.v7 (m_X7_sitsElsewhere G S ea ns nj nm nt nr nc h a b e_) wY_X7_sitsElsewhere wM_X10_142 wIn_X7_sitsElsewhere wSe_X7_X7_sitsElsewhere wI_X7 (by decide) rfl (by decide +kernel) rfl rfl dX10_shift_131 ⟨by decide, by decide⟩ (Nat.le_of_ble_eq_true rfl) (⟨Nat.le_of_ble_eq_true rfl, Nat.le_of_ble_eq_true rfl⟩) (fun v20 S1 H locs hp w => ?_)
                      obtain ⟨rfl, rfl⟩ := hp
                      refine lv_if_eq (tgt := 147) hx hb dX10_shift_134 (by decide) (fun hel => ?_) (fun hel => ?_)
                      · refine lv_aload_n hx hb dX10_shift_147 rfl (lv_at hl 0 rfl) ?_
                        refine g_10_1 (S := S) (x := (some (gG S 7 0))) X w h.v10 wF_X10_21 (h.f161) dX10_shift_148 ?_
                        refine lv_iload_n hx hb dX10_shift_151 rfl (lv_at hl 1 rfl) ?_
                        refine lv_iload_n hx hb dX10_shift_152 rfl (lv_at hl 2 rfl) ?_
                        refine cV (S := S) (nA := 2) (As := [.int a, .int b]) (rest := []) X w hl h.v7 (m_X7_stationIn G S ea ns nj nm nt nr nc h a b) wY_X7_stationIn wM_X10_147 wIn_X7_stationIn wSe_X7_X7_stationIn wI_X7 (by decide) rfl (by decide +kernel) rfl rfl dX10_shift_153 ⟨by decide, by decide⟩ (Nat.le_of_ble_eq_true rfl) (⟨Nat.le_of_ble_eq_true rfl, Nat.le_of_ble_eq_true rfl⟩) (fun v21 S1 H locs hp w => ?_)
                        obtain ⟨rfl, rfl⟩ := hp
                        refine lv_istore (lv' := [(5, .int (cSlot S 0 a b)), (0, .ref (gG S 10 0)), (1, .int a), (2, .int b), (3, .int d), (4, .int e_)]) hx hb dX10_shift_156 hl (by decide) rfl (fun ls hl => ?_)
                        refine lv_aload_n hx hb dX10_shift_158 rfl (lv_at hl 1 rfl) ?_
                        refine g_10_1 (S := S) (x := (some (gG S 7 0))) X w h.v10 wF_X10_21 (h.f161) dX10_shift_159 ?_
                        refine lv_iload_n hx hb dX10_shift_162 rfl (lv_at hl 2 rfl) ?_
                        refine lv_iload_n hx hb dX10_shift_163 rfl (lv_at hl 3 rfl) ?_
                        refine lv_iload_n hx hb dX10_shift_164 rfl (lv_at hl 4 rfl) ?_
                        refine lv_iload hx hb dX10_shift_165 (lv_at hl 5 rfl) ?_
                        have hcs : cIsSlot a b = true := by unfold cIsSlot; rw [b2i_f hy7, b2i_f hy16]; rfl
                        refine cV (S := S) (nA := 4) (As := [.int a, .int b, .int d, .int e_]) (rest := []) X w hl h.v7 (m_X7_write G S ea ns nj nm nt nr nc h a b d e_ hcs) wY_X7_write wM_X10_151 wIn_X7_write wSe_X7_X7_write wI_X7 (by decide) rfl (by decide +kernel) rfl rfl dX10_shift_167 ⟨by decide, by decide⟩ (Nat.le_of_ble_eq_true rfl) (⟨Nat.le_of_ble_eq_true rfl, Nat.le_of_ble_eq_true rfl⟩) (fun v22 S1 H locs hp w => ?_)
                        obtain ⟨rfl, rfl⟩ := hp
                        have h : CI ea (wrS S a b d e_) ns nj nm nt nr nc := h.wr _ _
                        have hK : Kq clsT clsB clsR S (wrS S a b d e_) := (hK.sA rfl).sA rfl
                        refine lv_iload hx hb dX10_shift_170 (lv_at hl 0 rfl) ?_
                        exact rXr (rI X w rfl dX10_shift_172 (by decide) (by decide) (⟨shK_0 (b2i_f hy7) (b2i_f hy16) (by first | exact Or.inl rfl | exact Or.inr ⟨_, by assumption, by assumption⟩) (by first | exact Or.inl rfl | exact Or.inr ⟨_, by assumption, by assumption⟩) (Nat.le_trans h.b_st (by decide)) (Nat.le_trans h.b_mo (by decide)) (by first | exact ⟨fun _ => rfl, fun _ => rfl⟩ | exact ⟨fun z => absurd z hst, fun z => absurd z hmo⟩) (by first | exact Or.inl rfl | exact Or.inr (b2i_f hel)), rfl, rfl⟩))
                      · exact rT (S := S) (names := ["java/lang/RuntimeException", "java/lang/Exception"]) X w hl hno (by decide) (by decide) wC_X10_72 wI_java_lang_IllegalStateException wS9_X10_145 at_ISE go_ISE ⟨by decide, by decide⟩ dX10_shift_137 dX10_shift_140 dX10_shift_141 dX10_shift_143 dX10_shift_146 (by decide) (by decide) (Nat.le_of_ble_eq_true rfl) (Nat.le_of_ble_eq_true rfl) (Nat.le_of_ble_eq_true rfl) (Nat.le_of_ble_eq_true rfl) (⟨rfl, Or.inr (Or.inr ⟨rfl, shK_3 (b2i_f hy7) (b2i_f hy16) (by first | exact Or.inl rfl | exact Or.inr ⟨_, by assumption, by assumption⟩) (by first | exact Or.inl rfl | exact Or.inr ⟨_, by assumption, by assumption⟩) (Nat.le_trans h.b_st (by decide)) (Nat.le_trans h.b_mo (by decide)) ⟨fun z => absurd z hst, fun z => absurd z hmo⟩ hmo (b2i_t hel)⟩)⟩)
                  · exact absurd hc19 (by decide)
                · exact absurd hd96 hmo
              · exact absurd hd85 hst
    · exact rT (S := S) (names := ["java/lang/RuntimeException", "java/lang/Exception"]) X w hl hno (by decide) (by decide) wC_X10_90 wI_java_lang_IndexOutOfBoundsException wS9_X10_132 at_IOB go_IOB ⟨by decide, by decide⟩ dX10_shift_19 dX10_shift_22 dX10_shift_23 dX10_shift_25 dX10_shift_28 (by decide) (by decide) (Nat.le_of_ble_eq_true rfl) (Nat.le_of_ble_eq_true rfl) (Nat.le_of_ble_eq_true rfl) (Nat.le_of_ble_eq_true rfl) (⟨rfl, Or.inl ⟨rfl, by first | exact shK_1a (b2i_t hy7) | exact shK_1b (b2i_t hy16)⟩⟩)

