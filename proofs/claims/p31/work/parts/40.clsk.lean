theorem so_h {b : Int32} {g0 : Nat} (hg : g0 ≤ 720) (h : sOut b (nI g0) 719 = false) : ∃ t, t < 720 ∧ b = nI t := by
  unfold sOut at h
  rw [Bool.or_eq_false_iff] at h
  have h1 : ¬ b < nI g0 := of_decide_eq_false h.1
  have h2 : ¬ 719 < b := of_decide_eq_false h.2
  have h0 : ¬ b < 0 := fun z => nI_pos (n := g0) (by omega) (Int32.lt_of_le_of_lt (Int32.not_lt.mp h1) z)
  obtain ⟨t, ht, rfl⟩ := nI_of h0
  exact ⟨t, Nat.lt_succ_of_le (Nat.le_of_not_lt (fun z => h2 ((nI_ltI (a := 719) (b := t) (by decide) ht).mpr z))), rfl⟩
theorem so_w {b : Int32} (h : sOut b 1 300 = false) : ∃ t, t ≤ 300 ∧ b = nI t := by
  unfold sOut at h
  rw [Bool.or_eq_false_iff] at h
  have h1 : ¬ b < 1 := of_decide_eq_false h.1
  have h2 : ¬ 300 < b := of_decide_eq_false h.2
  have h0 : ¬ b < 0 := fun z => h1 (Int32.lt_trans z (by decide))
  obtain ⟨t, ht, rfl⟩ := nI_of h0
  exact ⟨t, Nat.le_of_not_lt (fun z => h2 ((nI_ltI (a := 300) (b := t) (by decide) ht).mpr z)), rfl⟩

def taX (h b d g e f : Int32) : Bool := sOut b h 719 || (sOut d 0 15 || (sOut g 1 300 || (sOut e 0 9 || sOut f 0 65535)))
/-- what a talk is refused with: on says whether the station is on the air then, has whether it has one then -/
def taK (n m : Nat) (h a b d g e f : Int32) (on has : Bool) : Nat := if sOut a 0 (nI n - 1) = true then 1 else if taX h b d g e f = true then 2 else if (decide (40 ≤ m) || (!on || has)) = true then 3 else 0
section TAK
variable {n m j : Nat} {h a b d g e f : Int32} {on has : Bool}
theorem taK_1 (z : sOut a 0 (nI n - 1) = true) : taK n m h a b d g e f on has = 1 := if_pos z
theorem taK_n (hj : j < n) (ej : a = nI j) (hn : n ≤ 40) : taK n m h a b d g e f on has = if taX h b d g e f = true then 2 else if (decide (40 ≤ m) || (!on || has)) = true then 3 else 0 := if_neg (by rw [ej, so_j hj hn]; decide)
theorem taK_2 (hj : j < n) (ej : a = nI j) (hn : n ≤ 40) (z : taX h b d g e f = true) : taK n m h a b d g e f on has = 2 := by
  rw [taK_n hj ej hn]; exact if_pos z
theorem taK_3 (hj : j < n) (ej : a = nI j) (hn : n ≤ 40) (z : taX h b d g e f = false) (y : 40 ≤ m ∨ on = false ∨ has = true) : taK n m h a b d g e f on has = 3 := by
  rw [taK_n hj ej hn, if_neg (by rw [z]; decide)]
  refine if_pos ?_
  rcases y with y | y | y
  · rw [decide_eq_true y]; rfl
  · rw [y, Bool.not_false, Bool.true_or, Bool.or_true]
  · rw [y, Bool.or_true, Bool.or_true]
theorem taK_0 (hj : j < n) (ej : a = nI j) (hn : n ≤ 40) (z : taX h b d g e f = false) (y1 : m < 40) (y2 : on = true) (y3 : has = false) : taK n m h a b d g e f on has = 0 := by
  rw [taK_n hj ej hn, if_neg (by rw [z]; decide)]
  exact if_neg (by rw [decide_eq_false (Nat.not_le.mpr y1), y2, y3]; decide)
theorem taX_f (h1 : sOut b h 719 = false) (h2 : sOut d 0 15 = false) (h3 : sOut g 1 300 = false) (h4 : sOut e 0 9 = false) (h5 : sOut f 0 65535 = false) : taX h b d g e f = false := by
  unfold taX
  rw [h1, h2, h3, h4, h5]; rfl
theorem taX_1 (z : sOut b h 719 = true) : taX h b d g e f = true := by
  unfold taX
  rw [z, Bool.true_or]
theorem taX_2 (z : sOut d 0 15 = true) : taX h b d g e f = true := by
  unfold taX
  rw [z, Bool.true_or, Bool.or_true]
theorem taX_3 (z : sOut g 1 300 = true) : taX h b d g e f = true := by
  unfold taX
  rw [z, Bool.true_or, Bool.or_true, Bool.or_true]
theorem taX_4 (z : sOut e 0 9 = true) : taX h b d g e f = true := by
  unfold taX
  rw [z, Bool.true_or, Bool.or_true, Bool.or_true, Bool.or_true]
theorem taX_5 (z : sOut f 0 65535 = true) : taX h b d g e f = true := by
  unfold taX
  rw [z, Bool.or_true, Bool.or_true, Bool.or_true, Bool.or_true]
end TAK

theorem dX10_talk_0 : decode cX10_talk 0 = .ok (.aload_n 0, 1) := by decide +kernel
theorem dX10_talk_1 : decode cX10_talk 1 = .ok (.getfield 12, 3) := by decide +kernel
theorem dX10_talk_4 : decode cX10_talk 4 = .ok (.iload_n 1, 1) := by decide +kernel
theorem dX10_talk_5 : decode cX10_talk 5 = .ok (.invokevirtual 86, 3) := by decide +kernel
theorem dX10_talk_8 : decode cX10_talk 8 = .ok (.astore 7, 2) := by decide +kernel
theorem dX10_talk_10 : decode cX10_talk 10 = .ok (.aload 7, 2) := by decide +kernel
theorem dX10_talk_12 : decode cX10_talk 12 = .ok (.ifnonnull 13, 3) := by decide +kernel
theorem dX10_talk_15 : decode cX10_talk 15 = .ok (.new 90, 3) := by decide +kernel
theorem dX10_talk_18 : decode cX10_talk 18 = .ok (.dup, 1) := by decide +kernel
theorem dX10_talk_19 : decode cX10_talk 19 = .ok (.ldc 92, 2) := by decide +kernel
theorem dX10_talk_21 : decode cX10_talk 21 = .ok (.invokespecial 94, 3) := by decide +kernel
theorem dX10_talk_24 : decode cX10_talk 24 = .ok (.athrow, 1) := by decide +kernel
theorem dX10_talk_25 : decode cX10_talk 25 = .ok (.iload_n 2, 1) := by decide +kernel
theorem dX10_talk_26 : decode cX10_talk 26 = .ok (.aload_n 0, 1) := by decide +kernel
theorem dX10_talk_27 : decode cX10_talk 27 = .ok (.getfield 41, 3) := by decide +kernel
theorem dX10_talk_30 : decode cX10_talk 30 = .ok (.sipush 719, 3) := by decide +kernel
theorem dX10_talk_33 : decode cX10_talk 33 = .ok (.invokestatic 48, 3) := by decide +kernel
theorem dX10_talk_36 : decode cX10_talk 36 = .ok (.ifCond .ne 13, 3) := by decide +kernel
theorem dX10_talk_39 : decode cX10_talk 39 = .ok (.iload_n 3, 1) := by decide +kernel
theorem dX10_talk_40 : decode cX10_talk 40 = .ok (.iconst 0, 1) := by decide +kernel
theorem dX10_talk_41 : decode cX10_talk 41 = .ok (.bipush 15, 2) := by decide +kernel
theorem dX10_talk_43 : decode cX10_talk 43 = .ok (.invokestatic 48, 3) := by decide +kernel
theorem dX10_talk_46 : decode cX10_talk 46 = .ok (.ifCond .eq 13, 3) := by decide +kernel
theorem dX10_talk_49 : decode cX10_talk 49 = .ok (.new 52, 3) := by decide +kernel
theorem dX10_talk_52 : decode cX10_talk 52 = .ok (.dup, 1) := by decide +kernel
theorem dX10_talk_53 : decode cX10_talk 53 = .ok (.ldc 155, 2) := by decide +kernel
theorem dX10_talk_55 : decode cX10_talk 55 = .ok (.invokespecial 56, 3) := by decide +kernel
theorem dX10_talk_58 : decode cX10_talk 58 = .ok (.athrow, 1) := by decide +kernel
theorem dX10_talk_59 : decode cX10_talk 59 = .ok (.iload 4, 2) := by decide +kernel
theorem dX10_talk_61 : decode cX10_talk 61 = .ok (.iconst 1, 1) := by decide +kernel
theorem dX10_talk_62 : decode cX10_talk 62 = .ok (.sipush 300, 3) := by decide +kernel
theorem dX10_talk_65 : decode cX10_talk 65 = .ok (.invokestatic 48, 3) := by decide +kernel
theorem dX10_talk_68 : decode cX10_talk 68 = .ok (.ifCond .ne 14, 3) := by decide +kernel
theorem dX10_talk_71 : decode cX10_talk 71 = .ok (.iload 5, 2) := by decide +kernel
theorem dX10_talk_73 : decode cX10_talk 73 = .ok (.iconst 0, 1) := by decide +kernel
theorem dX10_talk_74 : decode cX10_talk 74 = .ok (.bipush 9, 2) := by decide +kernel
theorem dX10_talk_76 : decode cX10_talk 76 = .ok (.invokestatic 48, 3) := by decide +kernel
theorem dX10_talk_79 : decode cX10_talk 79 = .ok (.ifCond .eq 13, 3) := by decide +kernel
theorem dX10_talk_82 : decode cX10_talk 82 = .ok (.new 52, 3) := by decide +kernel
theorem dX10_talk_85 : decode cX10_talk 85 = .ok (.dup, 1) := by decide +kernel
theorem dX10_talk_86 : decode cX10_talk 86 = .ok (.ldc 157, 2) := by decide +kernel
theorem dX10_talk_88 : decode cX10_talk 88 = .ok (.invokespecial 56, 3) := by decide +kernel
theorem dX10_talk_91 : decode cX10_talk 91 = .ok (.athrow, 1) := by decide +kernel
theorem dX10_talk_92 : decode cX10_talk 92 = .ok (.iload 6, 2) := by decide +kernel
theorem dX10_talk_94 : decode cX10_talk 94 = .ok (.iconst 0, 1) := by decide +kernel
theorem dX10_talk_95 : decode cX10_talk 95 = .ok (.ldc 159, 2) := by decide +kernel
theorem dX10_talk_97 : decode cX10_talk 97 = .ok (.invokestatic 48, 3) := by decide +kernel
theorem dX10_talk_100 : decode cX10_talk 100 = .ok (.ifCond .eq 13, 3) := by decide +kernel
theorem dX10_talk_103 : decode cX10_talk 103 = .ok (.new 52, 3) := by decide +kernel
theorem dX10_talk_106 : decode cX10_talk 106 = .ok (.dup, 1) := by decide +kernel
theorem dX10_talk_107 : decode cX10_talk 107 = .ok (.ldc 160, 2) := by decide +kernel
theorem dX10_talk_109 : decode cX10_talk 109 = .ok (.invokespecial 56, 3) := by decide +kernel
theorem dX10_talk_112 : decode cX10_talk 112 = .ok (.athrow, 1) := by decide +kernel
theorem dX10_talk_113 : decode cX10_talk 113 = .ok (.aload_n 0, 1) := by decide +kernel
theorem dX10_talk_114 : decode cX10_talk 114 = .ok (.getfield 28, 3) := by decide +kernel
theorem dX10_talk_117 : decode cX10_talk 117 = .ok (.getfield 162, 3) := by decide +kernel
theorem dX10_talk_120 : decode cX10_talk 120 = .ok (.invokevirtual 66, 3) := by decide +kernel
theorem dX10_talk_123 : decode cX10_talk 123 = .ok (.bipush 40, 2) := by decide +kernel
theorem dX10_talk_125 : decode cX10_talk 125 = .ok (.if_icmp .lt 13, 3) := by decide +kernel
theorem dX10_talk_128 : decode cX10_talk 128 = .ok (.new 72, 3) := by decide +kernel
theorem dX10_talk_131 : decode cX10_talk 131 = .ok (.dup, 1) := by decide +kernel
theorem dX10_talk_132 : decode cX10_talk 132 = .ok (.ldc 165, 2) := by decide +kernel
theorem dX10_talk_134 : decode cX10_talk 134 = .ok (.invokespecial 76, 3) := by decide +kernel
theorem dX10_talk_137 : decode cX10_talk 137 = .ok (.athrow, 1) := by decide +kernel
theorem dX10_talk_138 : decode cX10_talk 138 = .ok (.aload 7, 2) := by decide +kernel
theorem dX10_talk_140 : decode cX10_talk 140 = .ok (.iload_n 2, 1) := by decide +kernel
theorem dX10_talk_141 : decode cX10_talk 141 = .ok (.bipush 24, 2) := by decide +kernel
theorem dX10_talk_143 : decode cX10_talk 143 = .ok (.irem, 1) := by decide +kernel
theorem dX10_talk_144 : decode cX10_talk 144 = .ok (.invokevirtual 167, 3) := by decide +kernel
theorem dX10_talk_147 : decode cX10_talk 147 = .ok (.ifCond .eq 16, 3) := by decide +kernel
theorem dX10_talk_150 : decode cX10_talk 150 = .ok (.aload_n 0, 1) := by decide +kernel
theorem dX10_talk_151 : decode cX10_talk 151 = .ok (.getfield 28, 3) := by decide +kernel
theorem dX10_talk_154 : decode cX10_talk 154 = .ok (.aload 7, 2) := by decide +kernel
theorem dX10_talk_156 : decode cX10_talk 156 = .ok (.iload_n 2, 1) := by decide +kernel
theorem dX10_talk_157 : decode cX10_talk 157 = .ok (.invokevirtual 171, 3) := by decide +kernel
theorem dX10_talk_160 : decode cX10_talk 160 = .ok (.ifCond .eq 13, 3) := by decide +kernel
theorem dX10_talk_163 : decode cX10_talk 163 = .ok (.new 72, 3) := by decide +kernel
theorem dX10_talk_166 : decode cX10_talk 166 = .ok (.dup, 1) := by decide +kernel
theorem dX10_talk_167 : decode cX10_talk 167 = .ok (.ldc 175, 2) := by decide +kernel
theorem dX10_talk_169 : decode cX10_talk 169 = .ok (.invokespecial 76, 3) := by decide +kernel
theorem dX10_talk_172 : decode cX10_talk 172 = .ok (.athrow, 1) := by decide +kernel
theorem dX10_talk_173 : decode cX10_talk 173 = .ok (.aload_n 0, 1) := by decide +kernel
theorem dX10_talk_174 : decode cX10_talk 174 = .ok (.getfield 28, 3) := by decide +kernel
theorem dX10_talk_177 : decode cX10_talk 177 = .ok (.getfield 162, 3) := by decide +kernel
theorem dX10_talk_180 : decode cX10_talk 180 = .ok (.invokevirtual 66, 3) := by decide +kernel
theorem dX10_talk_183 : decode cX10_talk 183 = .ok (.istore 8, 2) := by decide +kernel
theorem dX10_talk_185 : decode cX10_talk 185 = .ok (.aload_n 0, 1) := by decide +kernel
theorem dX10_talk_186 : decode cX10_talk 186 = .ok (.getfield 28, 3) := by decide +kernel
theorem dX10_talk_189 : decode cX10_talk 189 = .ok (.getfield 162, 3) := by decide +kernel
theorem dX10_talk_192 : decode cX10_talk 192 = .ok (.new 177, 3) := by decide +kernel
theorem dX10_talk_195 : decode cX10_talk 195 = .ok (.dup, 1) := by decide +kernel
theorem dX10_talk_196 : decode cX10_talk 196 = .ok (.iload 8, 2) := by decide +kernel
theorem dX10_talk_198 : decode cX10_talk 198 = .ok (.aload 7, 2) := by decide +kernel
theorem dX10_talk_200 : decode cX10_talk 200 = .ok (.iload_n 2, 1) := by decide +kernel
theorem dX10_talk_201 : decode cX10_talk 201 = .ok (.iload_n 3, 1) := by decide +kernel
theorem dX10_talk_202 : decode cX10_talk 202 = .ok (.iload 4, 2) := by decide +kernel
theorem dX10_talk_204 : decode cX10_talk 204 = .ok (.iload 5, 2) := by decide +kernel
theorem dX10_talk_206 : decode cX10_talk 206 = .ok (.iload 6, 2) := by decide +kernel
theorem dX10_talk_208 : decode cX10_talk 208 = .ok (.invokespecial 179, 3) := by decide +kernel
theorem dX10_talk_211 : decode cX10_talk 211 = .ok (.invokevirtual 82, 3) := by decide +kernel
theorem dX10_talk_214 : decode cX10_talk 214 = .ok (.pop, 1) := by decide +kernel
theorem dX10_talk_215 : decode cX10_talk 215 = .ok (.iload 8, 2) := by decide +kernel
theorem dX10_talk_217 : decode cX10_talk 217 = .ok (.ireturn, 1) := by decide +kernel
abbrev rm_m_X10_talk : Room := { frames := 7, cells := 2, slots := 58, locals := 191 }
set_option maxHeartbeats 4000000 in
set_option maxRecDepth 100000 in
theorem m_X10_talk {s0 : State} {l : Launch} {D : va_G} {cy : Nat → ClassId} (G : Gl s0 l D cy) (S : HS) (ea ns nj nm nt nr nc : Nat) (h : CI ea S ns nj nm nt nr nc) (hea : ea = eaOf s0) (g0 : Nat) (eh : mI S 164 0 = nI g0) (hg0 : g0 ≤ 720) (st : Nat → Nat) (hst : StN S ns nt st) (a b d g e_ f : Int32) : CtX s0 l D cy yX10_talk cX10_talk 9 (some .int) rm_m_X10_talk S [.ref (gG S 10 0), .int a, .int b, .int d, .int g, .int e_, .int f] (fun v S' => ∃ i8, i8 < ns ∧ a = nI i8 ∧ taK ns nt (nI g0) a b d g e_ f (sIn (mI S 134 i8) (b - b / 24 * 24)) (cHas S st i8 b nt) = 0 ∧ (∃ t, t < 720 ∧ b = nI t) ∧ (∃ t, t ≤ 300 ∧ g = nI t) ∧ nt < 40 ∧ some (.int (nI nt)) = v ∧ ∃ q1 q2 m2 b2, S' = addS (sI (sI (sI (sI (sI (sR (sI (sI (sNew S 9 nt q1) 151 nt (-1)) 144 nt (nI nt)) 145 nt (some (gG (sNew S 9 nt q1) 8 i8))) 146 nt b) 147 nt d) 148 nt g) 149 nt e_) 150 nt f) 3 q2 (capOf (nt + 1)) m2 (nI (nt + 1)) b2 ∧ b2 nt = some (gG (sNew S 9 nt q1) 9 nt) ∧ ∀ j, j < nt → b2 j = mB S 30 3 j) (fun E S' => S = S' ∧ ((E = "java/lang/IndexOutOfBoundsException" ∧ sOut a 0 (nI ns - 1) = true) ∨ ∃ j, j < ns ∧ a = nI j ∧ ((E = "java/lang/IllegalArgumentException" ∧ taK ns nt (nI g0) a b d g e_ f (sIn (mI S 134 j) (b - b / 24 * 24)) (cHas S st j b nt) = 2) ∨ (E = "java/lang/IllegalStateException" ∧ taK ns nt (nI g0) a b d g e_ f (sIn (mI S 134 j) (b - b / 24 * 24)) (cHas S st j b nt) = 3)))) := by
  refine proX "CavershamShift" G rfl rfl (Nat.le_of_ble_eq_true rfl) (fun p e s m below meth c ls X w hno hl => ?_)
  have hx := X.1
  have hb := X.2.1
  have hown := X.2.2.2.1
  have hts := X.2.2.2.2.1
  have hl : lv_has ls 9 [(0, .ref (gG S 10 0)), (1, .int a), (2, .int b), (3, .int d), (4, .int g), (5, .int e_), (6, .int f)] := hl
  have hb9 := h.b_ta
  refine lv_aload_n hx hb dX10_talk_0 rfl (lv_at hl 0 rfl) ?_
  refine g_10_0 (S := S) (x := (some (gG S 0 0))) X w h.v10 wF_X10_12 (h.f160) dX10_talk_1 ?_
  refine lv_iload_n hx hb dX10_talk_4 rfl (lv_at hl 1 rfl) ?_
  refine cV (S := S) (nA := 1) (As := [.int a]) (rest := []) X w hl h.v0 (m_X0_stationAt G S ea ns nj nm nt nr nc h a) wY_X0_stationAt wM_X10_86 wIn_X0_stationAt wSe_X0_X0_stationAt wI_X0 (by decide) rfl (by decide +kernel) rfl rfl dX10_talk_5 ⟨by decide, by decide⟩ (Nat.le_of_ble_eq_true rfl) (⟨Nat.le_of_ble_eq_true rfl, Nat.le_of_ble_eq_true rfl⟩) (fun v2 S1 H locs hp w => ?_)
  obtain ⟨hp, rfl⟩ := hp
  rcases hp with ⟨rfl, hoj1⟩ | ⟨j1, hlj1, hkj1, rfl⟩
  · skip
    refine lv_astoreN (lv' := [(7, .null), (0, .ref (gG S 10 0)), (1, .int a), (2, .int b), (3, .int d), (4, .int g), (5, .int e_), (6, .int f)]) hx hb dX10_talk_8 hl (by decide) rfl (fun ls hl => ?_)
    refine lv_aloadN hx hb dX10_talk_10 (lv_at hl 0 rfl) ?_
    refine lv_ifnonnullN hx hb dX10_talk_12 ?_
    exact rT (S := S) (names := ["java/lang/RuntimeException", "java/lang/Exception"]) X w hl hno (by decide) (by decide) wC_X10_90 wI_java_lang_IndexOutOfBoundsException wS9_X10_92 at_IOB go_IOB ⟨by decide, by decide⟩ dX10_talk_15 dX10_talk_18 dX10_talk_19 dX10_talk_21 dX10_talk_24 (by decide) (by decide) (Nat.le_of_ble_eq_true rfl) (Nat.le_of_ble_eq_true rfl) (Nat.le_of_ble_eq_true rfl) (Nat.le_of_ble_eq_true rfl) (⟨rfl, Or.inl ⟨rfl, by assumption⟩⟩)
  · skip
    refine lv_astore (lv' := [(7, .ref (gG S 8 j1)), (0, .ref (gG S 10 0)), (1, .int a), (2, .int b), (3, .int d), (4, .int g), (5, .int e_), (6, .int f)]) hx hb dX10_talk_8 hl (by decide) rfl (fun ls hl => ?_)
    refine lv_aload hx hb dX10_talk_10 (lv_at hl 0 rfl) ?_
    refine lv_ifnonnull (tgt := 25) hx hb dX10_talk_12 (by decide) ?_
    refine lv_iload_n hx hb dX10_talk_25 rfl (lv_at hl 3 rfl) ?_
    refine lv_aload_n hx hb dX10_talk_26 rfl (lv_at hl 1 rfl) ?_
    refine g_10_4 (S := S) (x := (nI g0)) X w h.v10 wF_X10_41 (eh) dX10_talk_27 ?_
    refine lv_sipush (v := 719) hx hb dX10_talk_30 (by decide) ?_
    refine cS (S := S) (nA := 3) (As := [.int b, .int (nI g0), .int 719]) (rest := []) X w hl (m_X10_isOutside G S b (nI g0) 719) wY_X10_isOutside wM_X10_48 wSt_X10_isOutside wI_X10 (by decide +kernel) rfl rfl dX10_talk_33 ⟨by decide, by decide⟩ (Nat.le_of_ble_eq_true rfl) (⟨Nat.le_of_ble_eq_true rfl, Nat.le_of_ble_eq_true rfl⟩) (fun v3 S1 H locs hp w => ?_)
    obtain ⟨rfl, rfl⟩ := hp
    refine lv_if_ne (tgt := 49) hx hb dX10_talk_36 (by decide) (fun hy36 => ?_) (fun hy36 => ?_)
    · exact rT (S := S) (names := ["java/lang/RuntimeException", "java/lang/Exception"]) X w hl hno (by decide) (by decide) wC_X10_52 wI_java_lang_IllegalArgumentException wS9_X10_155 at_IAE go_IAE ⟨by decide, by decide⟩ dX10_talk_49 dX10_talk_52 dX10_talk_53 dX10_talk_55 dX10_talk_58 (by decide) (by decide) (Nat.le_of_ble_eq_true rfl) (Nat.le_of_ble_eq_true rfl) (Nat.le_of_ble_eq_true rfl) (Nat.le_of_ble_eq_true rfl) (⟨rfl, Or.inr ⟨_, by assumption, by assumption, Or.inl ⟨rfl, taK_2 (by assumption) (by assumption) (Nat.le_trans h.b_st (by decide)) (by first | exact taX_1 (b2i_t hy36) | exact taX_2 (b2i_t hy46))⟩⟩⟩)
    · refine lv_iload_n hx hb dX10_talk_39 rfl (lv_at hl 4 rfl) ?_
      refine lv_iconst (v := 0) hx hb dX10_talk_40 (by decide) ?_
      refine lv_bipush (v := 15) hx hb dX10_talk_41 (by decide) ?_
      refine cS (S := S) (nA := 3) (As := [.int d, .int 0, .int 15]) (rest := []) X w hl (m_X10_isOutside G S d 0 15) wY_X10_isOutside wM_X10_48 wSt_X10_isOutside wI_X10 (by decide +kernel) rfl rfl dX10_talk_43 ⟨by decide, by decide⟩ (Nat.le_of_ble_eq_true rfl) (⟨Nat.le_of_ble_eq_true rfl, Nat.le_of_ble_eq_true rfl⟩) (fun v4 S1 H locs hp w => ?_)
      obtain ⟨rfl, rfl⟩ := hp
      refine lv_if_eq (tgt := 59) hx hb dX10_talk_46 (by decide) (fun hy46 => ?_) (fun hy46 => ?_)
      · refine lv_iload hx hb dX10_talk_59 (lv_at hl 5 rfl) ?_
        refine lv_iconst (v := 1) hx hb dX10_talk_61 (by decide) ?_
        refine lv_sipush (v := 300) hx hb dX10_talk_62 (by decide) ?_
        refine cS (S := S) (nA := 3) (As := [.int g, .int 1, .int 300]) (rest := []) X w hl (m_X10_isOutside G S g 1 300) wY_X10_isOutside wM_X10_48 wSt_X10_isOutside wI_X10 (by decide +kernel) rfl rfl dX10_talk_65 ⟨by decide, by decide⟩ (Nat.le_of_ble_eq_true rfl) (⟨Nat.le_of_ble_eq_true rfl, Nat.le_of_ble_eq_true rfl⟩) (fun v5 S1 H locs hp w => ?_)
        obtain ⟨rfl, rfl⟩ := hp
        refine lv_if_ne (tgt := 82) hx hb dX10_talk_68 (by decide) (fun hy68 => ?_) (fun hy68 => ?_)
        · exact rT (S := S) (names := ["java/lang/RuntimeException", "java/lang/Exception"]) X w hl hno (by decide) (by decide) wC_X10_52 wI_java_lang_IllegalArgumentException wS9_X10_157 at_IAE go_IAE ⟨by decide, by decide⟩ dX10_talk_82 dX10_talk_85 dX10_talk_86 dX10_talk_88 dX10_talk_91 (by decide) (by decide) (Nat.le_of_ble_eq_true rfl) (Nat.le_of_ble_eq_true rfl) (Nat.le_of_ble_eq_true rfl) (Nat.le_of_ble_eq_true rfl) (⟨rfl, Or.inr ⟨_, by assumption, by assumption, Or.inl ⟨rfl, taK_2 (by assumption) (by assumption) (Nat.le_trans h.b_st (by decide)) (by first | exact taX_3 (b2i_t hy68) | exact taX_4 (b2i_t hy79))⟩⟩⟩)
        · refine lv_iload hx hb dX10_talk_71 (lv_at hl 6 rfl) ?_
          refine lv_iconst (v := 0) hx hb dX10_talk_73 (by decide) ?_
          refine lv_bipush (v := 9) hx hb dX10_talk_74 (by decide) ?_
          refine cS (S := S) (nA := 3) (As := [.int e_, .int 0, .int 9]) (rest := []) X w hl (m_X10_isOutside G S e_ 0 9) wY_X10_isOutside wM_X10_48 wSt_X10_isOutside wI_X10 (by decide +kernel) rfl rfl dX10_talk_76 ⟨by decide, by decide⟩ (Nat.le_of_ble_eq_true rfl) (⟨Nat.le_of_ble_eq_true rfl, Nat.le_of_ble_eq_true rfl⟩) (fun v6 S1 H locs hp w => ?_)
          obtain ⟨rfl, rfl⟩ := hp
          refine lv_if_eq (tgt := 92) hx hb dX10_talk_79 (by decide) (fun hy79 => ?_) (fun hy79 => ?_)
          · refine lv_iload hx hb dX10_talk_92 (lv_at hl 7 rfl) ?_
            refine lv_iconst (v := 0) hx hb dX10_talk_94 (by decide) ?_
            refine lv_ldc hx hb hown (hts _ wK_X10_159) dX10_talk_95 ?_
            refine cS (S := S) (nA := 3) (As := [.int f, .int 0, .int 65535]) (rest := []) X w hl (m_X10_isOutside G S f 0 65535) wY_X10_isOutside wM_X10_48 wSt_X10_isOutside wI_X10 (by decide +kernel) rfl rfl dX10_talk_97 ⟨by decide, by decide⟩ (Nat.le_of_ble_eq_true rfl) (⟨Nat.le_of_ble_eq_true rfl, Nat.le_of_ble_eq_true rfl⟩) (fun v7 S1 H locs hp w => ?_)
            obtain ⟨rfl, rfl⟩ := hp
            refine lv_if_eq (tgt := 113) hx hb dX10_talk_100 (by decide) (fun hy100 => ?_) (fun hy100 => ?_)
            · refine lv_aload_n hx hb dX10_talk_113 rfl (lv_at hl 1 rfl) ?_
              refine g_10_2 (S := S) (x := (some (gG S 4 0))) X w h.v10 wF_X10_28 (h.f162) dX10_talk_114 ?_
              refine g_4_0 (S := S) (x := (some (gG S 17 3))) X w h.v4 wF_X10_162 (h.f64) dX10_talk_117 ?_
              refine cV (S := S) (nA := 0) (As := []) (rest := []) X w hl h.l_ta.1 (m_size G S ea 3 nt h.l_ta) wY_Jx4a65c_size_8abf5 wM_X10_66 wIn_Jx4a65c_size_8abf5 wSe_Jx4a65c_Jx4a65c_size_8abf5 wI_Jx4a65c (by decide) rfl (by decide +kernel) rfl rfl dX10_talk_120 ⟨by decide, by decide⟩ (Nat.le_of_ble_eq_true rfl) (⟨Nat.le_of_ble_eq_true rfl, Nat.le_of_ble_eq_true rfl⟩) (fun v8 S1 H locs hp w => ?_)
              obtain ⟨rfl, rfl⟩ := hp
              refine lv_bipush (v := 40) hx hb dX10_talk_123 (by decide) ?_
              refine lv_icmp_lt (tgt := 138) hx hb dX10_talk_125 (by decide) (fun hc_n => ?_) (fun hc_n => ?_)
              · have hn9 : nt < 40 := (nI_ltI (a := nt) (b := 40) (by omega) (by decide)).mp hc_n
                refine lv_aload hx hb dX10_talk_138 (lv_at hl 0 rfl) ?_
                refine lv_iload_n hx hb dX10_talk_140 rfl (lv_at hl 3 rfl) ?_
                refine lv_bipush (v := 24) hx hb dX10_talk_141 (by decide) ?_
                refine lv_irem hx hb dX10_talk_143 (by decide) ?_
                refine cV (S := S) (nA := 1) (As := [.int (b - b / 24 * 24)]) (rest := []) X w hl (h.e_st j1 hlj1).2 (m_X8_isOnAir G S ea ns nj nm nt nr nc h j1 hlj1 (b - b / 24 * 24)) wY_X8_isOnAir wM_X10_167 wIn_X8_isOnAir wSe_X8_X8_isOnAir wI_X8 (by decide) rfl (by decide +kernel) rfl rfl dX10_talk_144 ⟨by decide, by decide⟩ (Nat.le_of_ble_eq_true rfl) (⟨Nat.le_of_ble_eq_true rfl, Nat.le_of_ble_eq_true rfl⟩) (fun v9 S1 H locs hp w => ?_)
                obtain ⟨rfl, rfl⟩ := hp
                refine lv_if_eq (tgt := 163) hx hb dX10_talk_147 (by decide) (fun hy147 => ?_) (fun hy147 => ?_)
                · exact rT (S := S) (names := ["java/lang/RuntimeException", "java/lang/Exception"]) X w hl hno (by decide) (by decide) wC_X10_72 wI_java_lang_IllegalStateException wS9_X10_175 at_ISE go_ISE ⟨by decide, by decide⟩ dX10_talk_163 dX10_talk_166 dX10_talk_167 dX10_talk_169 dX10_talk_172 (by decide) (by decide) (Nat.le_of_ble_eq_true rfl) (Nat.le_of_ble_eq_true rfl) (Nat.le_of_ble_eq_true rfl) (Nat.le_of_ble_eq_true rfl) (⟨rfl, Or.inr ⟨_, by assumption, by assumption, Or.inr ⟨rfl, taK_3 (by assumption) (by assumption) (Nat.le_trans h.b_st (by decide)) (taX_f (b2i_f hy36) (b2i_f hy46) (b2i_f hy68) (b2i_f hy79) (b2i_f hy100)) (Or.inr (by first | exact Or.inl (b2i_f hy147) | exact Or.inr (b2i_t hy160)))⟩⟩⟩)
                · refine lv_aload_n hx hb dX10_talk_150 rfl (lv_at hl 1 rfl) ?_
                  refine g_10_2 (S := S) (x := (some (gG S 4 0))) X w h.v10 wF_X10_28 (h.f162) dX10_talk_151 ?_
                  refine lv_aload hx hb dX10_talk_154 (lv_at hl 0 rfl) ?_
                  refine lv_iload_n hx hb dX10_talk_156 rfl (lv_at hl 3 rfl) ?_
                  refine cV (S := S) (nA := 2) (As := [.ref (gG S 8 j1), .int b]) (rest := []) X w hl h.v4 (m_X4_hasTalk G S ea ns nj nm nt nr nc h j1 hlj1 b (st) (hst)) wY_X4_hasTalk wM_X10_171 wIn_X4_hasTalk wSe_X4_X4_hasTalk wI_X4 (by decide) rfl (by decide +kernel) rfl rfl dX10_talk_157 ⟨by decide, by decide⟩ (Nat.le_of_ble_eq_true rfl) (⟨Nat.le_of_ble_eq_true rfl, Nat.le_of_ble_eq_true rfl⟩) (fun v10 S1 H locs hp w => ?_)
                  obtain ⟨rfl, rfl⟩ := hp
                  refine lv_if_eq (tgt := 173) hx hb dX10_talk_160 (by decide) (fun hy160 => ?_) (fun hy160 => ?_)
                  · refine lv_aload_n hx hb dX10_talk_173 rfl (lv_at hl 1 rfl) ?_
                    refine g_10_2 (S := S) (x := (some (gG S 4 0))) X w h.v10 wF_X10_28 (h.f162) dX10_talk_174 ?_
                    refine g_4_0 (S := S) (x := (some (gG S 17 3))) X w h.v4 wF_X10_162 (h.f64) dX10_talk_177 ?_
                    refine cV (S := S) (nA := 0) (As := []) (rest := []) X w hl h.l_ta.1 (m_size G S ea 3 nt h.l_ta) wY_Jx4a65c_size_8abf5 wM_X10_66 wIn_Jx4a65c_size_8abf5 wSe_Jx4a65c_Jx4a65c_size_8abf5 wI_Jx4a65c (by decide) rfl (by decide +kernel) rfl rfl dX10_talk_180 ⟨by decide, by decide⟩ (Nat.le_of_ble_eq_true rfl) (⟨Nat.le_of_ble_eq_true rfl, Nat.le_of_ble_eq_true rfl⟩) (fun v11 S1 H locs hp w => ?_)
                    obtain ⟨rfl, rfl⟩ := hp
                    refine lv_istore (lv' := [(8, .int (nI nt)), (7, .ref (gG S 8 j1)), (0, .ref (gG S 10 0)), (1, .int a), (2, .int b), (3, .int d), (4, .int g), (5, .int e_), (6, .int f)]) hx hb dX10_talk_183 hl (by decide) rfl (fun ls hl => ?_)
                    refine lv_aload_n hx hb dX10_talk_185 rfl (lv_at hl 2 rfl) ?_
                    refine g_10_2 (S := S) (x := (some (gG S 4 0))) X w h.v10 wF_X10_28 (h.f162) dX10_talk_186 ?_
                    refine g_4_0 (S := S) (x := (some (gG S 17 3))) X w h.v4 wF_X10_162 (h.f64) dX10_talk_189 ?_
                    refine nwO (S := S) (t := 9) (n := 9) X w nt (h.z_ta nt (Nat.le_refl _)) (Or.inl (by decide)) (by decide) rfl in_9 tyX9 tyX9_ok (by decide +kernel) wC_X10_177 wNew_X9 wI_X9 dX10_talk_192 rfl (Nat.le_of_ble_eq_true rfl) (Nat.le_of_ble_eq_true rfl) (fun q1 S2 H hS2 w => ?_)
                    subst hS2
                    refine lv_dup hx hb dX10_talk_195 rfl ?_
                    refine lv_iload hx hb dX10_talk_196 (lv_at hl 0 rfl) ?_
                    refine lv_aload hx hb dX10_talk_198 (lv_at hl 1 rfl) ?_
                    refine lv_iload_n hx hb dX10_talk_200 rfl (lv_at hl 4 rfl) ?_
                    refine lv_iload_n hx hb dX10_talk_201 rfl (lv_at hl 5 rfl) ?_
                    refine lv_iload hx hb dX10_talk_202 (lv_at hl 6 rfl) ?_
                    refine lv_iload hx hb dX10_talk_204 (lv_at hl 7 rfl) ?_
                    refine lv_iload hx hb dX10_talk_206 (lv_at hl 8 rfl) ?_
                    refine cI (S := (sNew S 9 nt q1)) (nA := 7) (As := [.int (nI nt), .ref (gG S 8 j1), .int b, .int d, .int g, .int e_, .int f]) (rest := [.ref (gG (sNew S 9 nt q1) 9 nt), .ref (gG S 17 3)]) X w hl (m_X9_init G (sNew S 9 nt q1) nt (Or.inr ⟨rfl, rfl⟩) (nI nt) j1 b d g e_ f) wY_X9_init wM_X10_179 wIn_X9_init wI_X9 rfl (by decide +kernel) rfl rfl dX10_talk_208 ⟨by decide, by decide⟩ (Nat.le_of_ble_eq_true rfl) (⟨Nat.le_of_ble_eq_true rfl, Nat.le_of_ble_eq_true rfl⟩) (fun v13 S1 H locs hp w => ?_)
                    obtain ⟨rfl, rfl⟩ := hp
                    refine cV (S := (sI (sI (sI (sI (sI (sR (sI (sI (sNew S 9 nt q1) 151 nt (-1)) 144 nt (nI nt)) 145 nt (some (gG (sNew S 9 nt q1) 8 j1))) 146 nt b) 147 nt d) 148 nt g) 149 nt e_) 150 nt f)) (nA := 1) (As := [.ref (gG (sNew S 9 nt q1) 9 nt)]) (rest := []) X w hl (Or.inl h.l_ta.1) (add_new G S (sI (sI (sI (sI (sI (sR (sI (sI (sNew S 9 nt q1) 151 nt (-1)) 144 nt (nI nt)) 145 nt (some (gG (sNew S 9 nt q1) 8 j1))) 146 nt b) 147 nt d) 148 nt g) 149 nt e_) 150 nt f) 3 nt 9 q1 (hea ▸ h.l_ta) (by decide) (h.z_ta nt (Nat.le_refl _)) rfl rfl (by simp [mI, sI, sR, sNew, up2]) (by simp [mR, sI, sR, sNew, up2]) rfl rfl (by omega) h.z30.2.2.2.1 (h.z31 3) h.el_ta) wY_Jx4a65c_add_9ea2d wM_X10_82 wIn_Jx4a65c_add_9ea2d wSe_Jx4a65c_Jx4a65c_add_9ea2d wI_Jx4a65c (by decide) rfl (by decide +kernel) rfl rfl dX10_talk_211 ⟨by decide, by decide⟩ (Nat.le_of_ble_eq_true rfl) (⟨Nat.le_of_ble_eq_true rfl, Nat.le_of_ble_eq_true rfl⟩) (fun v14 S1 H locs hp w => ?_)
                    obtain ⟨rfl, q2, m2, b2, rfl, hb0, hb1⟩ := hp
                    refine lv_pop hx hb dX10_talk_214 rfl ?_
                    refine lv_iload hx hb dX10_talk_215 (lv_at hl 0 rfl) ?_
                    exact rXr (rI X w rfl dX10_talk_217 (by decide) (by decide) (⟨_, by assumption, by assumption, taK_0 (by assumption) (by assumption) (Nat.le_trans h.b_st (by decide)) (taX_f (b2i_f hy36) (b2i_f hy46) (b2i_f hy68) (b2i_f hy79) (b2i_f hy100)) hn9 (b2i_t hy147) (b2i_f hy160), so_h hg0 (b2i_f hy36), so_w (b2i_f hy68), hn9, rfl, q1, _, _, _, rfl, hb0, hb1⟩))
                  · exact rT (S := S) (names := ["java/lang/RuntimeException", "java/lang/Exception"]) X w hl hno (by decide) (by decide) wC_X10_72 wI_java_lang_IllegalStateException wS9_X10_175 at_ISE go_ISE ⟨by decide, by decide⟩ dX10_talk_163 dX10_talk_166 dX10_talk_167 dX10_talk_169 dX10_talk_172 (by decide) (by decide) (Nat.le_of_ble_eq_true rfl) (Nat.le_of_ble_eq_true rfl) (Nat.le_of_ble_eq_true rfl) (Nat.le_of_ble_eq_true rfl) (⟨rfl, Or.inr ⟨_, by assumption, by assumption, Or.inr ⟨rfl, taK_3 (by assumption) (by assumption) (Nat.le_trans h.b_st (by decide)) (taX_f (b2i_f hy36) (b2i_f hy46) (b2i_f hy68) (b2i_f hy79) (b2i_f hy100)) (Or.inr (by first | exact Or.inl (b2i_f hy147) | exact Or.inr (b2i_t hy160)))⟩⟩⟩)
              · have hn9 : 40 ≤ nt := Nat.le_of_not_lt (fun z => hc_n ((nI_ltI (a := nt) (b := 40) (by omega) (by decide)).mpr z))
                exact rT (S := S) (names := ["java/lang/RuntimeException", "java/lang/Exception"]) X w hl hno (by decide) (by decide) wC_X10_72 wI_java_lang_IllegalStateException wS9_X10_165 at_ISE go_ISE ⟨by decide, by decide⟩ dX10_talk_128 dX10_talk_131 dX10_talk_132 dX10_talk_134 dX10_talk_137 (by decide) (by decide) (Nat.le_of_ble_eq_true rfl) (Nat.le_of_ble_eq_true rfl) (Nat.le_of_ble_eq_true rfl) (Nat.le_of_ble_eq_true rfl) (⟨rfl, Or.inr ⟨_, by assumption, by assumption, Or.inr ⟨rfl, taK_3 (by assumption) (by assumption) (Nat.le_trans h.b_st (by decide)) (taX_f (b2i_f hy36) (b2i_f hy46) (b2i_f hy68) (b2i_f hy79) (b2i_f hy100)) (Or.inl hn9)⟩⟩⟩)
            · exact rT (S := S) (names := ["java/lang/RuntimeException", "java/lang/Exception"]) X w hl hno (by decide) (by decide) wC_X10_52 wI_java_lang_IllegalArgumentException wS9_X10_160 at_IAE go_IAE ⟨by decide, by decide⟩ dX10_talk_103 dX10_talk_106 dX10_talk_107 dX10_talk_109 dX10_talk_112 (by decide) (by decide) (Nat.le_of_ble_eq_true rfl) (Nat.le_of_ble_eq_true rfl) (Nat.le_of_ble_eq_true rfl) (Nat.le_of_ble_eq_true rfl) (⟨rfl, Or.inr ⟨_, by assumption, by assumption, Or.inl ⟨rfl, taK_2 (by assumption) (by assumption) (Nat.le_trans h.b_st (by decide)) (taX_5 (b2i_t hy100))⟩⟩⟩)
          · exact rT (S := S) (names := ["java/lang/RuntimeException", "java/lang/Exception"]) X w hl hno (by decide) (by decide) wC_X10_52 wI_java_lang_IllegalArgumentException wS9_X10_157 at_IAE go_IAE ⟨by decide, by decide⟩ dX10_talk_82 dX10_talk_85 dX10_talk_86 dX10_talk_88 dX10_talk_91 (by decide) (by decide) (Nat.le_of_ble_eq_true rfl) (Nat.le_of_ble_eq_true rfl) (Nat.le_of_ble_eq_true rfl) (Nat.le_of_ble_eq_true rfl) (⟨rfl, Or.inr ⟨_, by assumption, by assumption, Or.inl ⟨rfl, taK_2 (by assumption) (by assumption) (Nat.le_trans h.b_st (by decide)) (by first | exact taX_3 (b2i_t hy68) | exact taX_4 (b2i_t hy79))⟩⟩⟩)
      · exact rT (S := S) (names := ["java/lang/RuntimeException", "java/lang/Exception"]) X w hl hno (by decide) (by decide) wC_X10_52 wI_java_lang_IllegalArgumentException wS9_X10_155 at_IAE go_IAE ⟨by decide, by decide⟩ dX10_talk_49 dX10_talk_52 dX10_talk_53 dX10_talk_55 dX10_talk_58 (by decide) (by decide) (Nat.le_of_ble_eq_true rfl) (Nat.le_of_ble_eq_true rfl) (Nat.le_of_ble_eq_true rfl) (Nat.le_of_ble_eq_true rfl) (⟨rfl, Or.inr ⟨_, by assumption, by assumption, Or.inl ⟨rfl, taK_2 (by assumption) (by assumption) (Nat.le_trans h.b_st (by decide)) (by first | exact taX_1 (b2i_t hy36) | exact taX_2 (b2i_t hy46))⟩⟩⟩)

/-! what is told, as one picture A: it has the codes of the reference -/
def stA (A : HS) (n : Nat) (a b d g e f : Int32) : HS := sI (sI (sI (sI (sI (sI A 229 n a) 224 n b) 225 n d) 226 n g) 227 n e) 228 n f
def jmA (A : HS) (n : Nat) (a b : Int32) : HS := sA A 33 n (upd (upd (fun _ => 0) 0 a) 1 b)
def jaA (A : HS) (j : Nat) (b : Int32) : HS := sA A 33 j (upd (mA A 33 j) 1 b)
def shA (A : HS) (x k : Nat) (d e : Int32) : HS := sA (sA A 36 x (upd (mA A 36 x) k d)) 37 x (upd (mA A 37 x) k e)
def taA (A : HS) (n : Nat) (a b d g e f : Int32) : HS := sI (sI (sI (sI (sI (sI A 240 n a) 241 n b) 242 n d) 243 n g) 244 n e) 245 n f
/-- whether the monitor e sits at another set than b, as the reference asks it -/
def rElse (A : HS) (a b e : Int32) : Bool := decide (¬ rSetOf A a.toNatClampNeg e = -1) && decide (¬ rSetOf A a.toNatClampNeg e = b)
def rHas (A : HS) (a b : Int32) : Nat → Bool
  | 0 => false
  | n + 1 => rHas A a b n || (decide (mI A 240 n = a) && decide (mI A 241 n = b))
/-- how many stations, jammers, monitors, readers, talks; the hour; what is told -/
abbrev Cn : Type := Nat × Nat × Nat × Nat × Nat × Nat × HS
/-- the class has what is told -/
def RC (S A : HS) (ns nj nt : Nat) : Prop :=
  (∀ j, j < ns → mI S 129 j = mI A 229 j ∧ mI S 130 j = mI A 224 j ∧ mI S 131 j = mI A 225 j ∧ mI S 132 j = mI A 226 j ∧ mI S 133 j = mI A 227 j ∧ mI S 134 j = mI A 228 j) ∧
  (∀ j, j < nj → mI S 16 j = mA A 33 j 0 ∧ mI S 17 j = mA A 33 j 1) ∧
  (∀ x k, x < 24 → k < 3 → mA S 32 0 (x * 3 + k) = mA A 36 x k ∧ mA S 32 1 (x * 3 + k) = mA A 37 x k) ∧
  (∀ j, j < nt → (∃ i, i < ns ∧ mI A 240 j = nI i ∧ mR S 145 j = some (gG S 8 i)) ∧ mI S 146 j = mI A 241 j ∧ mI S 147 j = mI A 242 j ∧ mI S 148 j = mI A 243 j ∧ mI S 149 j = mI A 244 j ∧ mI S 150 j = mI A 245 j) ∧
  mI S 70 0 = mI A 259 0 ∧
  (∀ x k l, x < 24 → k < 3 → l < 3 → ¬ k = l → mA A 37 x k = mA A 37 x l → mA A 37 x k = -1)
theorem Kq.cP {S T : HS} (k : Keep S T) : KeepP S T := k.le (fun _ _ z => z) (fun f i => ff_of fun e => by
  unfold clsI at e
  unfold clsP
  rw [e]; rfl) (fun _ _ z => z)
theorem RC.keepP {S T A : HS} {ns nj nt : Nat} (h : RC S A ns nj nt) (k : KeepP S T) : RC T A ns nj nt := by
  obtain ⟨h1, h2, h3, h4, h5, h6⟩ := h
  refine ⟨fun j hj => ?_, fun j hj => ?_, fun x q hx hq => ?_, fun j hj => ?_, ?_, h6⟩
  · rw [show mI T 129 j = mI S 129 j from k.I rfl, show mI T 130 j = mI S 130 j from k.I rfl, show mI T 131 j = mI S 131 j from k.I rfl, show mI T 132 j = mI S 132 j from k.I rfl, show mI T 133 j = mI S 133 j from k.I rfl, show mI T 134 j = mI S 134 j from k.I rfl]
    exact h1 j hj
  · rw [show mI T 16 j = mI S 16 j from k.I rfl, show mI T 17 j = mI S 17 j from k.I rfl]
    exact h2 j hj
  · rw [show mA T 32 0 = mA S 32 0 from (k.1 32 0 rfl).2.2.2.2, show mA T 32 1 = mA S 32 1 from (k.1 32 1 rfl).2.2.2.2]
    exact h3 x q hx hq
  · obtain ⟨⟨i, hi, e1, e2⟩, e3⟩ := h4 j hj
    rw [show mI T 146 j = mI S 146 j from k.I rfl, show mI T 147 j = mI S 147 j from k.I rfl, show mI T 148 j = mI S 148 j from k.I rfl, show mI T 149 j = mI S 149 j from k.I rfl, show mI T 150 j = mI S 150 j from k.I rfl]
    have e4 : mR T 145 j = mR S 145 j := k.R rfl
    have e5 : gG T 8 i = gG S 8 i := k.G rfl
    exact ⟨⟨i, hi, e1, by rw [e4, e5]; exact e2⟩, e3⟩
  · rw [show mI T 70 0 = mI S 70 0 from k.I rfl]; exact h5
theorem RC.keep {S T A : HS} {ns nj nt : Nat} (h : RC S A ns nj nt) (k : Keep S T) : RC T A ns nj nt := h.keepP (Kq.cP k)
theorem cl3 {x k : Nat} (hx : x < 24) (hk : k < 3) : (nI x * 3 + nI k).toNatClampNeg = x * 3 + k := by
  rw [show (3 : Int32) = nI 3 from rfl, pk_mul, nI_add]
  exact nI_clamp (by omega)
theorem cIn3 {x k : Nat} (hx : x < 24) (hk : k < 3) : cIsSlot (nI x) (nI k) = true := by
  have e1 : sOut (nI x) 0 23 = false := so_j (n := 24) hx (by decide)
  have e2 : sOut (nI k) 0 2 = false := so_j (n := 3) hk (by decide)
  unfold cIsSlot
  rw [e1, e2]; rfl
theorem cSlot_nI {S : HS} {r x k : Nat} (hx : x < 24) (hk : k < 3) : cSlot S r (nI x) (nI k) = mA S 32 r (x * 3 + k) := by
  unfold cSlot
  rw [if_pos (cIn3 hx hk), cl3 hx hk]
theorem inr_23 {a : Int32} (h : sOut a 0 23 = false) : ∃ x, x < 24 ∧ a = nI x := out_in (n := 24) (by decide) h
theorem inr_2 {a : Int32} (h : sOut a 0 2 = false) : ∃ x, x < 3 ∧ a = nI x := out_in (n := 3) (by decide) h
/-! how strong a station comes is told by what both have -/
theorem cJam_c {band : Int32} {jb jb' jp jp' : Nat → Int32} {b : Int32} : ∀ n, (∀ k, k < n → jb k = jb' k ∧ jp k = jp' k) → cJam band jb jp b n = cJam band jb' jp' b n
  | 0, _ => rfl
  | n + 1, h => by
    show cJam band jb jp b n - _ = cJam band jb' jp' b n - _
    rw [cJam_c n (fun k hk => h k (Nat.lt_succ_of_lt hk)), (h n (Nat.lt_succ_self n)).1, (h n (Nat.lt_succ_self n)).2]
theorem cSta_c {i : Nat} {band : Int32} {on on' : Nat → Bool} {sb sb' : Nat → Int32} {b : Int32} : ∀ n, (∀ k, k < n → on k = on' k ∧ sb k = sb' k) → cSta i band on sb b n = cSta i band on' sb' b n
  | 0, _ => rfl
  | n + 1, h => by
    show cSta i band on sb b n - _ = cSta i band on' sb' b n - _
    rw [cSta_c n (fun k hk => h k (Nat.lt_succ_of_lt hk)), (h n (Nat.lt_succ_self n)).1, (h n (Nat.lt_succ_self n)).2]
theorem RC.comes {S A : HS} {ns nj nt i : Nat} {a : Int32} (h : RC S A ns nj nt) (hi : i < ns) : cComes S ns nj i a = rComes A ns nj i a := by
  obtain ⟨e1, e2, e3, e4, e5, e6⟩ := h.1 i hi
  unfold cComes rComes
  have q := cSta_c (i := i) (band := mI A 229 i) (on := fun k => sIn (mI S 134 k) a) (on' := fun k => sIn (mI A 228 k) a) (sb := fun k => mI S 129 k) (sb' := fun k => mI A 229 k) (b := cJam (mI A 229 i) (fun k => mA A 33 k 0) (fun k => mA A 33 k 1) (cBase (mI A 224 i) (mI A 225 i) (mI A 229 i) a) nj) ns (fun k hk => by
    obtain ⟨f1, f2, f3, f4, f5, f6⟩ := h.1 k hk
    exact ⟨by show sIn (mI S 134 k) a = sIn (mI A 228 k) a; rw [f6], f1⟩)
  have q2 := cJam_c (band := mI A 229 i) (jb := fun k => mI S 16 k) (jb' := fun k => mA A 33 k 0) (jp := fun k => mI S 17 k) (jp' := fun k => mA A 33 k 1) (b := cBase (mI A 224 i) (mI A 225 i) (mI A 229 i) a) nj (fun k hk => h.2.1 k hk)
  rw [e1, e2, e3, e6, q2, q]
/-! the shift -/
theorem rc_else {m0 m1 m2 e : Int32} {y : Nat} (hy : y < 3) (he : ¬ e = -1) (u01 : m0 = m1 → m0 = -1) (u02 : m0 = m2 → m0 = -1) (u12 : m1 = m2 → m1 = -1) : (((false || (decide (¬ nI 0 = nI y) && decide (m0 = e))) || (decide (¬ nI 1 = nI y) && decide (m1 = e))) || (decide (¬ nI 2 = nI y) && decide (m2 = e))) = (decide (¬ (if m0 = e then 0 else if m1 = e then 1 else if m2 = e then 2 else -1 : Int32) = -1) && decide (¬ (if m0 = e then 0 else if m1 = e then 1 else if m2 = e then 2 else -1 : Int32) = nI y)) := by
  have h3 : y = 0 ∨ y = 1 ∨ y = 2 := by omega
  by_cases e0 : m0 = e
  · have e1 : ¬ m1 = e := fun z => he (e0 ▸ u01 (e0.trans z.symm))
    have e2 : ¬ m2 = e := fun z => he (e0 ▸ u02 (e0.trans z.symm))
    rw [if_pos e0, decide_eq_true e0, decide_eq_false e1, decide_eq_false e2]
    rcases h3 with rfl | rfl | rfl <;> decide
  · rw [if_neg e0, decide_eq_false e0]
    by_cases e1 : m1 = e
    · have e2 : ¬ m2 = e := fun z => he (e1 ▸ u12 (e1.trans z.symm))
      rw [if_pos e1, decide_eq_true e1, decide_eq_false e2]
      rcases h3 with rfl | rfl | rfl <;> decide
    · rw [if_neg e1, decide_eq_false e1]
      by_cases e2 : m2 = e
      · rw [if_pos e2, decide_eq_true e2]
        rcases h3 with rfl | rfl | rfl <;> decide
      · rw [if_neg e2, decide_eq_false e2]
        rcases h3 with rfl | rfl | rfl <;> decide
theorem RC.els {S A : HS} {ns nj nt x y : Nat} {e : Int32} (h : RC S A ns nj nt) (hx : x < 24) (hy : y < 3) (he : ¬ e = -1) : cElse S (nI x) (nI y) e 3 = rElse A (nI x) (nI y) e := by
  have ex : (nI x).toNatClampNeg = x := nI_clamp (by omega)
  obtain ⟨-, -, h3, -, -, h6⟩ := h
  have u : ∀ k, k < 3 → cSlot S 1 (nI x) (nI k) = mA A 37 x k := fun k hk => by rw [cSlot_nI hx hk]; exact (h3 x k hx hk).2
  show (((false || (decide (¬ nI 0 = nI y) && decide (cSlot S 1 (nI x) (nI 0) = e))) || (decide (¬ nI 1 = nI y) && decide (cSlot S 1 (nI x) (nI 1) = e))) || (decide (¬ nI 2 = nI y) && decide (cSlot S 1 (nI x) (nI 2) = e))) = _
  rw [u 0 (by decide), u 1 (by decide), u 2 (by decide)]
  unfold rElse
  rw [ex]
  exact rc_else hy he (fun z => h6 x 0 1 hx (by decide) (by decide) (by decide) z) (fun z => h6 x 0 2 hx (by decide) (by decide) (by decide) z) (fun z => h6 x 1 2 hx (by decide) (by decide) (by decide) z)
theorem shK_els {ns nm : Nat} {a b d e : Int32} {l l' : Bool} (h : sOut a 0 23 = false → sOut b 0 2 = false → ¬ e = -1 → l = l') : shK ns nm a b d e l = shK ns nm a b d e l' := by
  unfold shK
  cases c1 : sOut a 0 23 with
  | true => rw [Bool.true_or, if_pos rfl, if_pos rfl]
  | false =>
  cases c2 : sOut b 0 2 with
  | true => rw [Bool.true_or, Bool.or_true, if_pos rfl, if_pos rfl]
  | false =>
  by_cases c3 : e = -1
  · have q : decide (¬ e = -1) = false := decide_eq_false (fun z => z c3)
    rw [q, Bool.false_and, Bool.false_and]
  · rw [h c1 c2 c3]
theorem RC.shK {S A : HS} {ns nj nt nm : Nat} {a b d e : Int32} (h : RC S A ns nj nt) : shK ns nm a b d e (cElse S a b e 3) = shK ns nm a b d e (rElse A a b e) := shK_els (fun c1 c2 c3 => by
  obtain ⟨x, hx, rfl⟩ := inr_23 c1
  obtain ⟨y, hy, rfl⟩ := inr_2 c2
  exact h.els hx hy c3)
theorem cElse_no {S : HS} {a b e : Int32} {k n : Nat} (hk : k < n) (h : cElse S a b e n = false) (h1 : ¬ nI k = b) : ¬ cSlot S 1 a (nI k) = e := fun h2 => by
  rw [cElse_t hk h1 h2] at h; exact absurd h (by decide)
theorem x3k {x k y l : Nat} (hk : k < 3) (hl : l < 3) : (x * 3 + k = y * 3 + l) ↔ (x = y ∧ k = l) := by omega
theorem RC.shift {S A : HS} {ns nj nt x k : Nat} {d e : Int32} (h : RC S A ns nj nt) (hx : x < 24) (hk : k < 3) (hu : e = -1 ∨ cElse S (nI x) (nI k) e 3 = false) : RC (wrS S (nI x) (nI k) d e) (shA A x k d e) ns nj nt := by
  obtain ⟨h1, h2, h3, h4, h5, h6⟩ := h
  have u : ∀ (f : Nat → Int32) (z : Int32) a q, upd f a z q = if q = a then z else f q := fun f z a q => rfl
  have e36 : ∀ y l, mA (shA A x k d e) 36 y l = if y = x ∧ l = k then d else mA A 36 y l := fun y l => by
    by_cases c : y = x
    · subst c; simp [shA, uI_I, uI_R, uI_A, uI_Arr, uI_N, uI_add, uR_I, uR_R, uR_A, uR_Arr, uR_N, uR_add, uG_I, uG_R, uG_A, uG_Arr, uG_N, uG_add, uA_I, uA_R, uA_A, uA_Arr, uA_N, uA_add, u]
    · simp [shA, uI_I, uI_R, uI_A, uI_Arr, uI_N, uI_add, uR_I, uR_R, uR_A, uR_Arr, uR_N, uR_add, uG_I, uG_R, uG_A, uG_Arr, uG_N, uG_add, uA_I, uA_R, uA_A, uA_Arr, uA_N, uA_add, c]
  have e37 : ∀ y l, mA (shA A x k d e) 37 y l = if y = x ∧ l = k then e else mA A 37 y l := fun y l => by
    by_cases c : y = x
    · subst c; simp [shA, uI_I, uI_R, uI_A, uI_Arr, uI_N, uI_add, uR_I, uR_R, uR_A, uR_Arr, uR_N, uR_add, uG_I, uG_R, uG_A, uG_Arr, uG_N, uG_add, uA_I, uA_R, uA_A, uA_Arr, uA_N, uA_add, u]
    · simp [shA, uI_I, uI_R, uI_A, uI_Arr, uI_N, uI_add, uR_I, uR_R, uR_A, uR_Arr, uR_N, uR_add, uG_I, uG_R, uG_A, uG_Arr, uG_N, uG_add, uA_I, uA_R, uA_A, uA_Arr, uA_N, uA_add, c]
  refine ⟨fun j hj => h1 j hj, fun j hj => h2 j hj, fun y l hy hl => ?_, fun j hj => h4 j hj, h5, fun y l q hy hl hq hn z => ?_⟩
  · rw [e36, e37]
    have w0 : mA (wrS S (nI x) (nI k) d e) 32 0 = upd (mA S 32 0) (x * 3 + k) d := by rw [← cl3 hx hk]; rfl
    have w1 : mA (wrS S (nI x) (nI k) d e) 32 1 = upd (mA S 32 1) (x * 3 + k) e := by rw [← cl3 hx hk]; rfl
    rw [w0, w1, u, u]
    by_cases c : y = x ∧ l = k
    · rw [if_pos c, if_pos c, if_pos ((x3k hl hk).mpr c), if_pos ((x3k hl hk).mpr c)]; exact ⟨rfl, rfl⟩
    · rw [if_neg c, if_neg c, if_neg (fun z => c ((x3k hl hk).mp z)), if_neg (fun z => c ((x3k hl hk).mp z))]; exact h3 y l hy hl
  · have no : ∀ i, i < 3 → ¬ i = k → mA A 37 x i = e → e = -1 := fun i hi ne z => by
      rcases hu with hu | hu
      · exact hu
      · refine absurd ?_ (cElse_no (k := i) hi hu (fun y => ne ((nI_eq (by omega) (by omega)).mp y)))
        rw [cSlot_nI hx hi, (h3 x i hx hi).2]; exact z
    rw [e37, e37] at z
    rw [e37]
    by_cases c : y = x ∧ l = k
    · rw [if_pos c] at z ⊢
      have nq : ¬ (y = x ∧ q = k) := fun y => hn (c.2.trans y.2.symm)
      rw [if_neg nq, c.1] at z
      exact no q hq (fun y => nq ⟨c.1, y⟩) z.symm
    · rw [if_neg c] at z ⊢
      by_cases c2 : y = x ∧ q = k
      · rw [if_pos c2, c2.1] at z
        rw [c2.1, z]
        exact no l hl (fun y => c ⟨c2.1, y⟩) z
      · rw [if_neg c2] at z
        exact h6 y l q hy hl hq hn z
/-! the talks -/
theorem RC.stn {S A : HS} {ns nj nt : Nat} (h : RC S A ns nj nt) (hb : ns ≤ 8) : StN S ns nt (tS A) := fun j hj => by
  obtain ⟨⟨i, hi, e1, e2⟩, -⟩ := h.2.2.2.1 j hj
  have e : tS A j = i := by unfold tS; rw [e1]; exact nI_clamp (by omega)
  rw [e]; exact ⟨hi, e2⟩
theorem RC.has {S A : HS} {ns nj nt i : Nat} {b : Int32} (h : RC S A ns nj nt) (hb : ns ≤ 8) (hi : i < ns) : ∀ n, n ≤ nt → cHas S (tS A) i b n = rHas A (nI i) b n
  | 0, _ => rfl
  | n + 1, hn => by
    obtain ⟨⟨q, hq, e1, -⟩, e2, -⟩ := h.2.2.2.1 n (by omega)
    have e : tS A n = q := by unfold tS; rw [e1]; exact nI_clamp (by omega)
    show (cHas S (tS A) i b n || (decide (tS A n = i) && decide (mI S 146 n = b))) = (rHas A (nI i) b n || (decide (mI A 240 n = nI i) && decide (mI A 241 n = b)))
    rw [RC.has h hb hi n (by omega), e, e1, e2]
    have ed : decide (q = i) = decide (nI q = nI i) := decide_eq_decide.mpr (nI_eq (by omega) (by omega)).symm
    rw [ed]

theorem RC.st {S A : HS} {ns nj nt q1 q2 : Nat} {m2 : Int32} {b2 : Nat → Option Nat} {a b d g e_ f : Int32} (h : RC S A ns nj nt) : RC (addS (sI (sI (sI (sI (sI (sI (sI (sNew S 8 ns q1) 128 ns (nI ns)) 129 ns a) 130 ns b) 131 ns d) 132 ns g) 133 ns e_) 134 ns f) 0 q2 (capOf (ns + 1)) m2 (nI (ns + 1)) b2) (stA A ns a b d g e_ f) (ns + 1) nj nt := by
  obtain ⟨h1, h2, h3, h4, h5, h6⟩ := h
  refine ⟨fun j hj => ?_, fun j hj => ?_, fun x k hx hk => ?_, fun j hj => ?_, ?_, fun x k l hx hk hl hn z => ?_⟩
  · by_cases c : j = ns
    · subst c; simp [stA, uI_I, uI_R, uI_A, uI_Arr, uI_N, uI_add, uR_I, uR_R, uR_A, uR_Arr, uR_N, uR_add, uG_I, uG_R, uG_A, uG_Arr, uG_N, uG_add, uA_I, uA_R, uA_A, uA_Arr, uA_N, uA_add]
    · have z := h1 j (by omega)
      simp [stA, uI_I, uI_R, uI_A, uI_Arr, uI_N, uI_add, uR_I, uR_R, uR_A, uR_Arr, uR_N, uR_add, uG_I, uG_R, uG_A, uG_Arr, uG_N, uG_add, uA_I, uA_R, uA_A, uA_Arr, uA_N, uA_add, c]; exact z
  · have z := h2 j hj
    simp [stA, uI_I, uI_R, uI_A, uI_Arr, uI_N, uI_add, uR_I, uR_R, uR_A, uR_Arr, uR_N, uR_add, uG_I, uG_R, uG_A, uG_Arr, uG_N, uG_add, uA_I, uA_R, uA_A, uA_Arr, uA_N, uA_add]; exact z
  · exact h3 x k hx hk
  · obtain ⟨⟨i, hi, e1, e2⟩, e3⟩ := h4 j hj
    refine ⟨⟨i, by omega, ?_, ?_⟩, ?_⟩
    · simp [stA, uI_I, uI_R, uI_A, uI_Arr, uI_N, uI_add, uR_I, uR_R, uR_A, uR_Arr, uR_N, uR_add, uG_I, uG_R, uG_A, uG_Arr, uG_N, uG_add, uA_I, uA_R, uA_A, uA_Arr, uA_N, uA_add]; exact e1
    · simp [uI_I, uI_R, uI_A, uI_Arr, uI_N, uI_add, uR_I, uR_R, uR_A, uR_Arr, uR_N, uR_add, uG_I, uG_R, uG_A, uG_Arr, uG_N, uG_add, uA_I, uA_R, uA_A, uA_Arr, uA_N, uA_add, show ¬ i = ns by omega]; exact e2
    · simp [stA, uI_I, uI_R, uI_A, uI_Arr, uI_N, uI_add, uR_I, uR_R, uR_A, uR_Arr, uR_N, uR_add, uG_I, uG_R, uG_A, uG_Arr, uG_N, uG_add, uA_I, uA_R, uA_A, uA_Arr, uA_N, uA_add]; exact e3
  · exact h5
  · exact h6 x k l hx hk hl hn z
theorem RC.jm {S A : HS} {ns nj nt q1 q2 : Nat} {m2 : Int32} {b2 : Nat → Option Nat} {a b : Int32} (h : RC S A ns nj nt) : RC (addS (sI (sI (sNew S 1 nj q1) 16 nj a) 17 nj b) 1 q2 (capOf (nj + 1)) m2 (nI (nj + 1)) b2) (jmA A nj a b) ns (nj + 1) nt := by
  obtain ⟨h1, h2, h3, h4, h5, h6⟩ := h
  refine ⟨fun j hj => ?_, fun j hj => ?_, fun x k hx hk => ?_, fun j hj => ?_, ?_, fun x k l hx hk hl hn z => ?_⟩
  · have z := h1 j hj
    simp [jmA, uI_I, uI_R, uI_A, uI_Arr, uI_N, uI_add, uR_I, uR_R, uR_A, uR_Arr, uR_N, uR_add, uG_I, uG_R, uG_A, uG_Arr, uG_N, uG_add, uA_I, uA_R, uA_A, uA_Arr, uA_N, uA_add]; exact z
  · by_cases c : j = nj
    · subst c; simp [jmA, upd, uI_I, uI_R, uI_A, uI_Arr, uI_N, uI_add, uR_I, uR_R, uR_A, uR_Arr, uR_N, uR_add, uG_I, uG_R, uG_A, uG_Arr, uG_N, uG_add, uA_I, uA_R, uA_A, uA_Arr, uA_N, uA_add]
    · have z := h2 j (by omega)
      simp [jmA, uI_I, uI_R, uI_A, uI_Arr, uI_N, uI_add, uR_I, uR_R, uR_A, uR_Arr, uR_N, uR_add, uG_I, uG_R, uG_A, uG_Arr, uG_N, uG_add, uA_I, uA_R, uA_A, uA_Arr, uA_N, uA_add, c]; exact z
  · exact h3 x k hx hk
  · obtain ⟨⟨i, hi, e1, e2⟩, e3⟩ := h4 j hj
    refine ⟨⟨i, hi, ?_, ?_⟩, ?_⟩
    · simp [jmA, uI_I, uI_R, uI_A, uI_Arr, uI_N, uI_add, uR_I, uR_R, uR_A, uR_Arr, uR_N, uR_add, uG_I, uG_R, uG_A, uG_Arr, uG_N, uG_add, uA_I, uA_R, uA_A, uA_Arr, uA_N, uA_add]; exact e1
    · simp [uI_I, uI_R, uI_A, uI_Arr, uI_N, uI_add, uR_I, uR_R, uR_A, uR_Arr, uR_N, uR_add, uG_I, uG_R, uG_A, uG_Arr, uG_N, uG_add, uA_I, uA_R, uA_A, uA_Arr, uA_N, uA_add]; exact e2
    · simp [jmA, uI_I, uI_R, uI_A, uI_Arr, uI_N, uI_add, uR_I, uR_R, uR_A, uR_Arr, uR_N, uR_add, uG_I, uG_R, uG_A, uG_Arr, uG_N, uG_add, uA_I, uA_R, uA_A, uA_Arr, uA_N, uA_add]; exact e3
  · exact h5
  · exact h6 x k l hx hk hl hn z
theorem RC.ta {S A : HS} {ns nj nt q1 q2 : Nat} {m2 : Int32} {b2 : Nat → Option Nat} {i8 : Nat} {a b d g e_ f : Int32} (h8 : i8 < ns) (ea8 : a = nI i8) (h : RC S A ns nj nt) : RC (addS (sI (sI (sI (sI (sI (sR (sI (sI (sNew S 9 nt q1) 151 nt (-1)) 144 nt (nI nt)) 145 nt (some (gG (sNew S 9 nt q1) 8 i8))) 146 nt b) 147 nt d) 148 nt g) 149 nt e_) 150 nt f) 3 q2 (capOf (nt + 1)) m2 (nI (nt + 1)) b2) (taA A nt a b d g e_ f) ns nj (nt + 1) := by
  obtain ⟨h1, h2, h3, h4, h5, h6⟩ := h
  refine ⟨fun j hj => ?_, fun j hj => ?_, fun x k hx hk => ?_, fun j hj => ?_, ?_, fun x k l hx hk hl hn z => ?_⟩
  · have z := h1 j hj
    simp [taA, uI_I, uI_R, uI_A, uI_Arr, uI_N, uI_add, uR_I, uR_R, uR_A, uR_Arr, uR_N, uR_add, uG_I, uG_R, uG_A, uG_Arr, uG_N, uG_add, uA_I, uA_R, uA_A, uA_Arr, uA_N, uA_add]; exact z
  · have z := h2 j hj
    simp [taA, uI_I, uI_R, uI_A, uI_Arr, uI_N, uI_add, uR_I, uR_R, uR_A, uR_Arr, uR_N, uR_add, uG_I, uG_R, uG_A, uG_Arr, uG_N, uG_add, uA_I, uA_R, uA_A, uA_Arr, uA_N, uA_add]; exact z
  · exact h3 x k hx hk
  · by_cases c : j = nt
    · subst c
      refine ⟨⟨i8, h8, ?_, ?_⟩, ?_⟩
      · simp [taA, uI_I, uI_R, uI_A, uI_Arr, uI_N, uI_add, uR_I, uR_R, uR_A, uR_Arr, uR_N, uR_add, uG_I, uG_R, uG_A, uG_Arr, uG_N, uG_add, uA_I, uA_R, uA_A, uA_Arr, uA_N, uA_add]; exact ea8
      · simp [uI_I, uI_R, uI_A, uI_Arr, uI_N, uI_add, uR_I, uR_R, uR_A, uR_Arr, uR_N, uR_add, uG_I, uG_R, uG_A, uG_Arr, uG_N, uG_add, uA_I, uA_R, uA_A, uA_Arr, uA_N, uA_add]
      · simp [taA, uI_I, uI_R, uI_A, uI_Arr, uI_N, uI_add, uR_I, uR_R, uR_A, uR_Arr, uR_N, uR_add, uG_I, uG_R, uG_A, uG_Arr, uG_N, uG_add, uA_I, uA_R, uA_A, uA_Arr, uA_N, uA_add]
    · obtain ⟨⟨i, hi, e1, e2⟩, e3⟩ := h4 j (by omega)
      refine ⟨⟨i, hi, ?_, ?_⟩, ?_⟩
      · simp [taA, uI_I, uI_R, uI_A, uI_Arr, uI_N, uI_add, uR_I, uR_R, uR_A, uR_Arr, uR_N, uR_add, uG_I, uG_R, uG_A, uG_Arr, uG_N, uG_add, uA_I, uA_R, uA_A, uA_Arr, uA_N, uA_add, c]; exact e1
      · simp [uI_I, uI_R, uI_A, uI_Arr, uI_N, uI_add, uR_I, uR_R, uR_A, uR_Arr, uR_N, uR_add, uG_I, uG_R, uG_A, uG_Arr, uG_N, uG_add, uA_I, uA_R, uA_A, uA_Arr, uA_N, uA_add, c]; exact e2
      · simp [taA, uI_I, uI_R, uI_A, uI_Arr, uI_N, uI_add, uR_I, uR_R, uR_A, uR_Arr, uR_N, uR_add, uG_I, uG_R, uG_A, uG_Arr, uG_N, uG_add, uA_I, uA_R, uA_A, uA_Arr, uA_N, uA_add, c]; exact e3
  · exact h5
  · exact h6 x k l hx hk hl hn z
theorem RC.dr {S A : HS} {ns nj nt j : Nat} {b : Int32} (h : RC S A ns nj nt) : RC (sI S 129 j b) (sI A 229 j b) ns nj nt := by
  obtain ⟨h1, h2, h3, h4, h5, h6⟩ := h
  refine ⟨fun i hi => ?_, h2, h3, h4, h5, h6⟩
  have z := h1 i hi
  by_cases c : i = j
  · subst c; simp [uI_I, uI_R, uI_A, uI_Arr, uI_N, uI_add, uR_I, uR_R, uR_A, uR_Arr, uR_N, uR_add, uG_I, uG_R, uG_A, uG_Arr, uG_N, uG_add, uA_I, uA_R, uA_A, uA_Arr, uA_N, uA_add]; exact z.2
  · simp [uI_I, uI_R, uI_A, uI_Arr, uI_N, uI_add, uR_I, uR_R, uR_A, uR_Arr, uR_N, uR_add, uG_I, uG_R, uG_A, uG_Arr, uG_N, uG_add, uA_I, uA_R, uA_A, uA_Arr, uA_N, uA_add, c]; exact z
theorem RC.ja {S A : HS} {ns nj nt j : Nat} {b : Int32} (h : RC S A ns nj nt) : RC (sI S 17 j b) (jaA A j b) ns nj nt := by
  obtain ⟨h1, h2, h3, h4, h5, h6⟩ := h
  refine ⟨h1, fun i hi => ?_, h3, h4, h5, h6⟩
  have z := h2 i hi
  by_cases c : i = j
  · subst c; simp [jaA, upd, uI_I, uI_R, uI_A, uI_Arr, uI_N, uI_add, uR_I, uR_R, uR_A, uR_Arr, uR_N, uR_add, uG_I, uG_R, uG_A, uG_Arr, uG_N, uG_add, uA_I, uA_R, uA_A, uA_Arr, uA_N, uA_add]; exact z.1
  · simp [jaA, uI_I, uI_R, uI_A, uI_Arr, uI_N, uI_add, uR_I, uR_R, uR_A, uR_Arr, uR_N, uR_add, uG_I, uG_R, uG_A, uG_Arr, uG_N, uG_add, uA_I, uA_R, uA_A, uA_Arr, uA_N, uA_add, c]; exact z
theorem RC.pa {S A : HS} {ns nj nt : Nat} {a : Int32} (h : RC S A ns nj nt) : RC (sI S 70 0 a) (sI A 259 0 a) ns nj nt := by
  obtain ⟨h1, h2, h3, h4, h5, h6⟩ := h
  exact ⟨h1, h2, h3, h4, rfl, h6⟩

theorem CtX.post {s0 : State} {l : Launch} {D : va_G} {cy : Nat → ClassId} {y : MethodName} {cc : ByteArray} {n : Nat} {ret : Option FieldType} {rm : Room} {S : HS} {As : List Value} {post post' : Option Value → HS → Prop} {px px' : String → HS → Prop} (h : CtX s0 l D cy y cc n ret rm S As post px) (hp : ∀ v S', post v S' → post' v S') (hx : ∀ E S', px E S' → px' E S') : CtX s0 l D cy y cc n ret rm S As post' px' := by
  unfold CtX vx_Met at h ⊢
  exact MetFree.mono h (fun _ _ x => x) (fun _ _ _ _ _ x => x) (fun a s o t _ q => q.elim (fun ⟨⟨⟨v, S', h1, h2, h3⟩, h4⟩, h5⟩ => Or.inl ⟨⟨⟨v, S', h1, hp v S' h2, h3⟩, h4⟩, h5⟩) (fun ⟨q, e, E, ce, L, ⟨⟨S', x1, x2⟩, x3⟩, rest⟩ => Or.inr ⟨q, e, E, ce, L, ⟨⟨S', hx E S' x1, x2⟩, x3⟩, rest⟩))
theorem RH.of {S T : HS} {nt : Nat} (h : RH S nt) (eR : ∀ j, mR T 152 j = mR S 152 j) (eV : ∀ j, vV T 6 j → vV S 6 j) (e1 : ∀ j, mI T 146 j = mI S 146 j) (e2 : mI T 164 0 = mI S 164 0) : RH T nt := fun j hj => by
  rw [eR, e1, e2]
  exact ⟨fun z v => (h j hj).1 z (eV j v), (h j hj).2⟩
theorem stK_0 {ns : Nat} {a b d g e_ f : Int32} (k : stK ns a b d g e_ f = 0) : ns < 8 ∧ ∃ g, g < 5 ∧ e_ = nI g := by
  unfold stK at k
  by_cases c : (sOut a 0 99 || (sOut b 1 9 || (sOut d 0 9 || (sOut g 0 5 || (sOut e_ 0 4 || sOut f 0 16777215))))) = true
  · rw [if_pos c] at k; exact absurd k (by decide)
  · rw [if_neg c] at k
    have c1 := Bool.eq_false_iff.mpr c
    rw [Bool.or_eq_false_iff, Bool.or_eq_false_iff, Bool.or_eq_false_iff, Bool.or_eq_false_iff, Bool.or_eq_false_iff] at c1
    by_cases c2 : 8 ≤ ns
    · rw [if_pos c2] at k; exact absurd k (by decide)
    · exact ⟨Nat.lt_of_not_le c2, out_in (n := 5) (by decide) (by rw [show (nI 5 - 1 : Int32) = 4 by decide]; exact c1.2.2.2.2.1)⟩
theorem jmK_0 {n : Nat} {a b : Int32} (k : jmK n a b = 0) : n < 6 := by
  unfold jmK at k
  by_cases c2 : 6 ≤ n
  · rw [if_pos c2] at k
    split at k <;> exact absurd k (by decide)
  · exact Nat.lt_of_not_le c2
theorem moK_0 {n : Nat} {a : Int32} (k : moK n a = 0) : n < 5 := by
  unfold moK at k
  by_cases c2 : 5 ≤ n
  · rw [if_pos c2] at k
    split at k <;> exact absurd k (by decide)
  · exact Nat.lt_of_not_le c2
theorem reK_0 {n : Nat} {a b : Int32} (k : reK n a b = 0) : n < 4 := by
  unfold reK at k
  by_cases c2 : 4 ≤ n
  · rw [if_pos c2] at k
    split at k <;> exact absurd k (by decide)
  · exact Nat.lt_of_not_le c2

theorem rh_ta {ea : Nat} {S : HS} {ns nj nm nt nr nc q1 q2 i8 : Nat} {b d g e_ f m2 : Int32} {b2 : Nat → Option Nat} (h : CI ea S ns nj nm nt nr nc) (hr : RH S nt) : RH (addS (sI (sI (sI (sI (sI (sR (sI (sI (sNew S 9 nt q1) 151 nt (-1)) 144 nt (nI nt)) 145 nt (some (gG (sNew S 9 nt q1) 8 i8))) 146 nt b) 147 nt d) 148 nt g) 149 nt e_) 150 nt f) 3 q2 (capOf (nt + 1)) m2 (nI (nt + 1)) b2) (nt + 1) := fun j hj => by
  have dn : vV (addS (sI (sI (sI (sI (sI (sR (sI (sI (sNew S 9 nt q1) 151 nt (-1)) 144 nt (nI nt)) 145 nt (some (gG (sNew S 9 nt q1) 8 i8))) 146 nt b) 147 nt d) 148 nt g) 149 nt e_) 150 nt f) 3 q2 (capOf (nt + 1)) m2 (nI (nt + 1)) b2) 6 j → vV S 6 j := fun v => v.elim (fun v => v.elim id (fun e => by omega)) (fun e => by omega)
  rcases Nat.lt_succ_iff_lt_or_eq.mp hj with z | z
  · have dj : ¬ j = nt := by omega
    rw [show mR (addS (sI (sI (sI (sI (sI (sR (sI (sI (sNew S 9 nt q1) 151 nt (-1)) 144 nt (nI nt)) 145 nt (some (gG (sNew S 9 nt q1) 8 i8))) 146 nt b) 147 nt d) 148 nt g) 149 nt e_) 150 nt f) 3 q2 (capOf (nt + 1)) m2 (nI (nt + 1)) b2) 152 j = mR S 152 j by simp [mR, sI, sR, sNew, addS, up2, dj], show mI (addS (sI (sI (sI (sI (sI (sR (sI (sI (sNew S 9 nt q1) 151 nt (-1)) 144 nt (nI nt)) 145 nt (some (gG (sNew S 9 nt q1) 8 i8))) 146 nt b) 147 nt d) 148 nt g) 149 nt e_) 150 nt f) 3 q2 (capOf (nt + 1)) m2 (nI (nt + 1)) b2) 146 j = mI S 146 j by simp [mI, sI, sR, sNew, addS, up2, dj], show mI (addS (sI (sI (sI (sI (sI (sR (sI (sI (sNew S 9 nt q1) 151 nt (-1)) 144 nt (nI nt)) 145 nt (some (gG (sNew S 9 nt q1) 8 i8))) 146 nt b) 147 nt d) 148 nt g) 149 nt e_) 150 nt f) 3 q2 (capOf (nt + 1)) m2 (nI (nt + 1)) b2) 164 0 = mI S 164 0 from rfl]
    exact ⟨fun y v => (hr j z).1 y (dn v), (hr j z).2⟩
  · rw [show mR (addS (sI (sI (sI (sI (sI (sR (sI (sI (sNew S 9 nt q1) 151 nt (-1)) 144 nt (nI nt)) 145 nt (some (gG (sNew S 9 nt q1) 8 i8))) 146 nt b) 147 nt d) 148 nt g) 149 nt e_) 150 nt f) 3 q2 (capOf (nt + 1)) m2 (nI (nt + 1)) b2) 152 j = none by rw [z]; simp [mR, sI, sR, sNew, addS, up2]]
    exact ⟨fun _ v => h.z_rp j (by omega) (dn v), fun y => absurd rfl y⟩
theorem RC.taK {S A : HS} {ns nj nt i : Nat} {h a b d g e_ f : Int32} (hA : RC S A ns nj nt) (hb : ns ≤ 8) (hi : i < ns) (ei : a = nI i) : taK ns nt h a b d g e_ f (sIn (mI S 134 i) (b - b / 24 * 24)) (cHas S (tS A) i b nt) = taK ns nt h a b d g e_ f (sIn (mI A 228 a.toNatClampNeg) (b - b / 24 * 24)) (rHas A a b nt) := by
  obtain ⟨-, -, -, -, -, e6⟩ := hA.1 i hi
  rw [hA.has hb hi nt (Nat.le_refl _), e6, ei, show (nI i).toNatClampNeg = i from nI_clamp (by omega)]

def dK (n : Nat) (m : Int32) (a b : Int32) : Nat := if sOut a 0 (nI n - 1) = true then 1 else if sOut b 0 m = true then 2 else 0
theorem dK_1 {n : Nat} {m a b : Int32} (z : sOut a 0 (nI n - 1) = true) : dK n m a b = 1 := if_pos z
theorem dK_2 {n : Nat} {m a b : Int32} (z : sOut a 0 (nI n - 1) = false) (y : sOut b 0 m = true) : dK n m a b = 2 := (if_neg (by rw [z]; decide)).trans (if_pos y)
theorem dK_0 {n : Nat} {m a b : Int32} (z : sOut a 0 (nI n - 1) = false) (y : sOut b 0 m = false) : dK n m a b = 0 := (if_neg (by rw [z]; decide)).trans (if_neg (by rw [y]; decide))
def paK (a : Int32) : Nat := if sOut a 0 63 = true then 1 else 0
theorem paK_1 {a : Int32} (z : sOut a 0 63 = true) : paK a = 1 := if_pos z
theorem paK_0 {a : Int32} (z : sOut a 0 63 = false) : paK a = 0 := if_neg (by rw [z]; decide)
theorem tnI {a : Int32} {j n : Nat} (hj : j < n) (hn : n ≤ 720) (e : a = nI j) : a.toNatClampNeg = j := by
  rw [e]; exact nI_clamp (by omega)

