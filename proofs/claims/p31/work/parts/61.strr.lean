section STW
variable {p : Program} {l : Launch} {e : Env} {R : Room} {s : State} {m : MethodId} {args : Array Value} {below : List Frame} {meth : Method} {c : Code} {H : Heap} {locs : List Loc} {cells slots : Nat} {Q : State → Prop} {cc : ByteArray} {pc nL : Nat} {ls : Array Slot} {rest : List Value} {s0 : State} {D : va_G} {cy : Nat → ClassId} {S S' : HS} {own : String} {ret : Option FieldType} {post : Option Value → HS → Prop} {i index : Nat}
variable {y : MethodName} {ccy : ByteArray} {ny nA : Nat} {rety : Option FieldType} {rm : Room} {As st : List Value} {lv : List (Nat × Value)}

/-- letters of one row of ours into another -/
theorem cpBF {i1 u : Nat} (X : Cx s0 l D cy p s m args meth c cc nL own ret) (w : Wd s0 D cy S s.heap H locs) (hlv : ls.size = nL) (hV : vV S 42 i) (hV1 : vV S 42 i1) (hf : sb_Fit (mA S 42 i)) (hg : sb_Fit (mA S 42 i1))
    (hlink : Cond.methodLink own index arraycopyName ∈ ALLW) (hu : u < 2 ^ 31) (h4 : u ≤ mN S 42 i) (h5 : u ≤ mN S 42 i1)
    (hframes : 1 ≤ R.frames) (hlocals : (rest.map fun v => v.category).sum + (nativeFrameWords "java/lang/System" "arraycopy" 5 + 11) ≤ R.locals) (hdg : decode cc pc = .ok (.invokestatic index, 3))
    (kk : ∀ (f : Nat → Int32) (H1 : Heap) (locs1 : List Loc), sb_Fit f → Wd s0 D cy (sA S 42 i1 f) s.heap H1 locs1 → W p l e R s m args below meth c H1 locs1 cells slots Q (F0 m (pc + 3) ls rest)) : W p l e R s m args below meth c H locs cells slots Q (F0 m pc ls (.int (nI u) :: .int 0 :: .ref (gG S 42 i1) :: .int 0 :: .ref (gG S 42 i) :: rest)) :=
  cpBB X w hlv hV hV1 hf hlink (by decide) (by decide) (nI_pos hu) (by rw [nI_clamp hu, sb_cl0, Nat.zero_add]; exact h4) (by rw [nI_clamp hu, sb_cl0, Nat.zero_add]; exact h5) hframes hlocals hdg (fun H1 locs1 w => kk (va_cpy (mA S 42 i) (mA S 42 i1) (0 : Int32).toNatClampNeg (0 : Int32).toNatClampNeg (nI u).toNatClampNeg) H1 locs1 (cpy_fit hf hg) w)
theorem ckB {index : Nat} (X : Cx s0 l D cy p s m args meth c cc nL own ret) (w : Wd s0 D cy S s.heap H locs) (hV : vV S 42 i) (hl : Cond.classLink own index "[B" ∈ ALLW) (hdg : decode cc pc = .ok (.checkcast index, 3))
    (kk : W p l e R s m args below meth c H locs cells slots Q (F0 m (pc + 3) ls (.ref (gG S 42 i) :: rest))) : W p l e R s m args below meth c H locs cells slots Q (F0 m pc ls (.ref (gG S 42 i) :: rest)) := by
  obtain ⟨ws, q0, hP, hD, hq, hm⟩ := w.at hV
  rw [cell_arr (by decide) rfl] at hq
  exact va_castA X.1 X.2.1 X.2.2.2.1 (X.2.2.2.2.1 _ hl) hP q0 hq (X.2.2.2.2.2.2.2.1.2 3 _ rfl).2 hdg kk
/-- a row's clone -/
theorem clB {j : Nat} (X : Cx s0 l D cy p s m args meth c cc nL own ret) (w : Wd s0 D cy S s.heap H locs) (hlv : ls.size = nL) (hV : vV S 42 i) (hf : sb_Fit (mA S 42 i)) (hj : ¬ vV S 42 j) (hlink : Cond.methodLink own index ⟨"[B", "clone", "()Ljava/lang/Object;"⟩ ∈ ALLW)
    (hframes : 1 ≤ R.frames) (hlocals : (rest.map fun v => v.category).sum + 14 ≤ R.locals) (hcells : cells + 1 ≤ R.cells) (hslots : slots + mN S 42 i ≤ R.slots) (hdg : decode cc pc = .ok (.invokevirtual index, 3))
    (kk : ∀ (q : Nat) (H1 : Heap), Wd s0 D cy (sA (sArr S 42 j q (mN S 42 i)) 42 j (mA S 42 i)) s.heap H1 locs → W p l e R s m args below meth c H1 locs (cells + 1) (slots + mN S 42 i) Q (F0 m (pc + 3) ls (.ref (gG (sA (sArr S 42 j q (mN S 42 i)) 42 j (mA S 42 i)) 42 j) :: rest))) : W p l e R s m args below meth c H locs cells slots Q (F0 m pc ls (.ref (gG S 42 i) :: rest)) := by
  obtain ⟨ws, q0, hP, hD, hq, hm⟩ := w.at hV
  rw [cell_arr (by decide) rfl] at hq
  refine va_clone X.1 X.2.1 (X.2.2.1.trans hlv.symm) X.2.2.2.1 (X.2.2.2.2.1 _ hlink) (X.2.2.2.2.1 _ wZ_1299) (Gl.nat X.2.2.2.2.2.2.2.2.2 X.2.2.2.2.2.2.2.2.1 wNat_java_lang_Object_clone___Ljava_lang_Object_) (X.2.2.2.2.1 _ wIn_java_lang_Object_clone___Ljava_lang_Object_) (X.2.2.2.2.1 _ wSe__B_java_lang_Object_clone___Ljava_lang_Object__of__B_clone___Ljava_lang_Object_) (X.2.2.2.2.2.2.2.2.1.2.2.2.1 _ wCa__B_Jx8e188) X.2.2.2.2.2.2.2.1 hP hD w.2 (fun q hq => Nat.le_trans X.2.2.2.2.2.2.2.2.1.2.1 hq) q0 3 hq rfl (X.2.2.2.2.2.2.2.1.2 3 _ rfl).2 (fun z v hv => va_fit (cA := cy 3) (n := mN S 42 i) (F := fun j => .int (mA S 42 i j)) (fun j _ => hf j) z v hv) hframes hlocals hcells hslots hdg (fun q H1 hK1 hP1 hD1 hS1 => ?_)
  have eq : gG (sA (sArr S 42 j q (mN S 42 i)) 42 j (mA S 42 i)) 42 j = q := up2_s _ 42 j q
  have h := kk q H1 ⟨WP.new w.1 hm hD1 hP1 hj (fun t' i' => Iff.rfl) (fun t' i' h => up2_n h) eq ?_ (fun t' i' hv' h => (cell_sA h).trans (cell_arrN h)), hS1⟩
  · rw [eq] at h; exact h
  · rw [cell_arr (by decide) rfl, show mN (sA (sArr S 42 j q (mN S 42 i)) 42 j (mA S 42 i)) 42 j = mN S 42 i from up2_s _ _ _ _, show mA (sA (sArr S 42 j q (mN S 42 i)) 42 j (mA S 42 i)) 42 j = mA S 42 i from up2_s _ _ _ _]
theorem ldS {tx : String} (X : Cx s0 l D cy p s m args meth c cc nL own ret) (hs : (own, index, tx) ∈ STRL) (hdg : decode cc pc = .ok (.ldc_w index, 3))
    (kk : W p l e R s m args below meth c H locs cells slots Q (F0 m (pc + 3) ls (.ref (saOf s0 own index) :: rest))) : W p l e R s m args below meth c H locs cells slots Q (F0 m pc ls rest) := by
  have hZ := X.2.2.2.2.2.2.2.2.1.2.2.2.2 _ hs
  intro T hT X1
  obtain ⟨t, a1, b1⟩ := kk T hT X1
  exact ⟨t, X1.ldcStringW X.1 X.2.2.2.1 (text := tx) (a := saOf s0 own index) hZ.1 hZ.2 (g := F0 m pc ls rest) rfl (by rw [X.2.1]; exact hdg) t a1, b1⟩
end STW
theorem nl_max {o g r : Nat} (h1 : g < 2 ^ 30) (h2 : r < 2 ^ 30) : nI o + (if nI g < nI r then nI r else nI g) = nI (o + max g r) := by
  rcases Nat.lt_or_ge g r with z | z
  · rw [if_pos (nI_lt z (by omega)), Nat.max_eq_right (Nat.le_of_lt z)]; exact nI_add _ _
  · rw [if_neg (nI_nlt z (by omega)), Nat.max_eq_left z]; exact nI_add _ _
theorem nI_min {a b : Nat} (h : a ≤ b) (hb : b < 2 ^ 31) : (if nI b < nI a then nI b else nI a) = nI a := if_neg (nI_nlt h hb)
theorem le0_sub {a b : Nat} (ha : a < 2 ^ 30) (hb : b < 2 ^ 30) : nI a - nI b ≤ 0 ↔ a ≤ b := by
  rw [Int32.le_iff_toInt_le, pk_sub_toInt ha hb, Int32.toInt_zero]
  omega

abbrev rm_m_newLen : Room := { frames := 1, cells := 0, slots := 0, locals := 21 }
set_option maxHeartbeats 4000000 in
set_option maxRecDepth 100000 in
theorem m_newLen {s0 : State} {l : Launch} {D : va_G} {cy : Nat → ClassId} (G : Gl s0 l D cy) (S : HS) (o g r : Nat) (h1 : o + g < 1000) (h2 : o + r < 1000) (h3 : 0 < o + max g r) : Ctr s0 l D cy yJ8_newLength_cabcc cJ8_newLength_cabcc 4 (some .int) rm_m_newLen S [.int (nI o), .int (nI g), .int (nI r)] (PU S (some (.int (nI (o + max g r))))) := by
  refine pro "jdk/internal/util/ArraysSupport" G rfl rfl (Nat.le_of_ble_eq_true rfl) (fun p e s m below meth c ls X w hnm hl => ?_)
  have hx := X.1
  have hb := X.2.1
  have hown := X.2.2.2.1
  have hts := X.2.2.2.2.1
  have hl : lv_has ls 4 [(0, .int (nI o)), (1, .int (nI g)), (2, .int (nI r))] := hl
  refine lv_iload_n hx hb dJ8_newLength_cabcc_0 rfl (lv_at hl 0 rfl) ?_
  refine lv_iload_n hx hb dJ8_newLength_cabcc_1 rfl (lv_at hl 1 rfl) ?_
  refine lv_iload_n hx hb dJ8_newLength_cabcc_2 rfl (lv_at hl 2 rfl) ?_
  refine va_mmax hx hb (X.2.2.1.trans hl.1.symm) hown (hts _ wM_J8_194) (hts _ wSt_J9_max_7cf53) (hts _ wI_J9) (hts _ wY_J9_max_7cf53) (by decide) (Nat.le_of_ble_eq_true rfl) (Nat.le_of_ble_eq_true rfl) (Nat.le_of_ble_eq_true rfl) dJ8_newLength_cabcc_3 ?_
  refine lv_iadd hx hb dJ8_newLength_cabcc_6 ?_
  refine lv_topi (fun z1 ez1 => ?_)
  obtain rfl : z1 = nI (o + max g r) := ez1.trans (nl_max (by omega) (by omega))
  refine lv_istore_n (lv' := [(3, .int (nI (o + max g r))), (0, .int (nI o)), (1, .int (nI g)), (2, .int (nI r))]) hx hb dJ8_newLength_cabcc_7 rfl hl (by decide) rfl (fun ls hl => ?_)
  refine lv_iconst (v := 0) hx hb dJ8_newLength_cabcc_8 (by decide) ?_
  refine lv_iload_n hx hb dJ8_newLength_cabcc_9 rfl (lv_at hl 0 rfl) ?_
  refine lv_icmp_ge (tgt := 21) hx hb dJ8_newLength_cabcc_10 (by decide) (fun hc2 => ?_) (fun hc2 => ?_)
  · exact absurd hc2 (Int32.not_le.mpr (show (nI 0 : Int32) < nI (o + max g r) from nI_lt h3 (by omega)))
  · refine lv_iload_n hx hb dJ8_newLength_cabcc_13 rfl (lv_at hl 0 rfl) ?_
    refine lv_ldc hx hb hown (hts _ wK_J8_200) dJ8_newLength_cabcc_14 ?_
    refine lv_icmp_gt (tgt := 21) hx hb dJ8_newLength_cabcc_16 (by decide) (fun hc3 => ?_) (fun hc3 => ?_)
    · exact absurd hc3 (show ¬ (nI 2147483639 : Int32) < nI (o + max g r) from nI_nlt (by omega) (by decide))
    · refine lv_iload_n hx hb dJ8_newLength_cabcc_19 rfl (lv_at hl 0 rfl) ?_
      exact rI X w rfl dJ8_newLength_cabcc_20 (by decide) (by decide) (pu_i rfl)

theorem dJ5_newCapacity_0f7a4_0 : decode cJ5_newCapacity_0f7a4 0 = .ok (.aload_n 0, 1) := by decide +kernel
theorem dJ5_newCapacity_0f7a4_1 : decode cJ5_newCapacity_0f7a4 1 = .ok (.getfield 15, 3) := by decide +kernel
theorem dJ5_newCapacity_0f7a4_4 : decode cJ5_newCapacity_0f7a4 4 = .ok (.arraylength, 1) := by decide +kernel
theorem dJ5_newCapacity_0f7a4_5 : decode cJ5_newCapacity_0f7a4 5 = .ok (.istore_n 2, 1) := by decide +kernel
theorem dJ5_newCapacity_0f7a4_6 : decode cJ5_newCapacity_0f7a4 6 = .ok (.iload_n 1, 1) := by decide +kernel
theorem dJ5_newCapacity_0f7a4_7 : decode cJ5_newCapacity_0f7a4 7 = .ok (.aload_n 0, 1) := by decide +kernel
theorem dJ5_newCapacity_0f7a4_8 : decode cJ5_newCapacity_0f7a4 8 = .ok (.getfield 22, 3) := by decide +kernel
theorem dJ5_newCapacity_0f7a4_11 : decode cJ5_newCapacity_0f7a4 11 = .ok (.ishl, 1) := by decide +kernel
theorem dJ5_newCapacity_0f7a4_12 : decode cJ5_newCapacity_0f7a4 12 = .ok (.istore_n 3, 1) := by decide +kernel
theorem dJ5_newCapacity_0f7a4_13 : decode cJ5_newCapacity_0f7a4 13 = .ok (.iload_n 3, 1) := by decide +kernel
theorem dJ5_newCapacity_0f7a4_14 : decode cJ5_newCapacity_0f7a4 14 = .ok (.iload_n 2, 1) := by decide +kernel
theorem dJ5_newCapacity_0f7a4_15 : decode cJ5_newCapacity_0f7a4 15 = .ok (.isub, 1) := by decide +kernel
theorem dJ5_newCapacity_0f7a4_16 : decode cJ5_newCapacity_0f7a4 16 = .ok (.istore 4, 2) := by decide +kernel
theorem dJ5_newCapacity_0f7a4_18 : decode cJ5_newCapacity_0f7a4 18 = .ok (.iload_n 2, 1) := by decide +kernel
theorem dJ5_newCapacity_0f7a4_19 : decode cJ5_newCapacity_0f7a4 19 = .ok (.iload 4, 2) := by decide +kernel
theorem dJ5_newCapacity_0f7a4_21 : decode cJ5_newCapacity_0f7a4 21 = .ok (.iload_n 2, 1) := by decide +kernel
theorem dJ5_newCapacity_0f7a4_22 : decode cJ5_newCapacity_0f7a4 22 = .ok (.iconst 2, 1) := by decide +kernel
theorem dJ5_newCapacity_0f7a4_23 : decode cJ5_newCapacity_0f7a4 23 = .ok (.aload_n 0, 1) := by decide +kernel
theorem dJ5_newCapacity_0f7a4_24 : decode cJ5_newCapacity_0f7a4 24 = .ok (.getfield 22, 3) := by decide +kernel
theorem dJ5_newCapacity_0f7a4_27 : decode cJ5_newCapacity_0f7a4 27 = .ok (.ishl, 1) := by decide +kernel
theorem dJ5_newCapacity_0f7a4_28 : decode cJ5_newCapacity_0f7a4 28 = .ok (.iadd, 1) := by decide +kernel
theorem dJ5_newCapacity_0f7a4_29 : decode cJ5_newCapacity_0f7a4 29 = .ok (.invokestatic 114, 3) := by decide +kernel
theorem dJ5_newCapacity_0f7a4_32 : decode cJ5_newCapacity_0f7a4 32 = .ok (.istore 5, 2) := by decide +kernel
theorem dJ5_newCapacity_0f7a4_34 : decode cJ5_newCapacity_0f7a4 34 = .ok (.iload 5, 2) := by decide +kernel
theorem dJ5_newCapacity_0f7a4_36 : decode cJ5_newCapacity_0f7a4 36 = .ok (.ldc 39, 2) := by decide +kernel
theorem dJ5_newCapacity_0f7a4_38 : decode cJ5_newCapacity_0f7a4 38 = .ok (.if_icmp .ne 13, 3) := by decide +kernel
theorem dJ5_newCapacity_0f7a4_51 : decode cJ5_newCapacity_0f7a4 51 = .ok (.iload 5, 2) := by decide +kernel
theorem dJ5_newCapacity_0f7a4_53 : decode cJ5_newCapacity_0f7a4 53 = .ok (.aload_n 0, 1) := by decide +kernel
theorem dJ5_newCapacity_0f7a4_54 : decode cJ5_newCapacity_0f7a4 54 = .ok (.getfield 22, 3) := by decide +kernel
theorem dJ5_newCapacity_0f7a4_57 : decode cJ5_newCapacity_0f7a4 57 = .ok (.ishr, 1) := by decide +kernel
theorem dJ5_newCapacity_0f7a4_58 : decode cJ5_newCapacity_0f7a4 58 = .ok (.ireturn, 1) := by decide +kernel
abbrev rm_m_J5_newCapacity_0f7a4 : Room := { frames := 2, cells := 0, slots := 0, locals := 44 }
set_option maxHeartbeats 4000000 in
set_option maxRecDepth 100000 in
theorem m_J5_newCapacity_0f7a4 {s0 : State} {l : Launch} {D : va_G} {cy : Nat → ClassId} (G : Gl s0 l D cy) (S : HS) (i k n mm q : Nat) (hB : SB S i k n mm) (hq : q ≤ 100) (hmq : mm < q) : Ctr s0 l D cy yJ5_newCapacity_0f7a4 cJ5_newCapacity_0f7a4 6 (some .int) rm_m_J5_newCapacity_0f7a4 S [.ref (gG S 18 i), .int (nI q)] (fun v S' => (∃ g, some (.int (nI g)) = v ∧ q ≤ g ∧ g ≤ 200) ∧ S = S') := by
  refine pro "java/lang/AbstractStringBuilder" G rfl rfl (Nat.le_of_ble_eq_true rfl) (fun p e s m below meth c ls X w hnm hl => ?_)
  have hx := X.1
  have hb := X.2.1
  have hown := X.2.2.2.1
  have hts := X.2.2.2.2.1
  have hl : lv_has ls 6 [(0, .ref (gG S 18 i)), (1, .int (nI q))] := hl
  refine lv_aload_n hx hb dJ5_newCapacity_0f7a4_0 rfl (lv_at hl 0 rfl) ?_
  refine g_18_0 (S := S) (x := (some (gG S 42 k))) X w hB.hv wF_J5_15 (hB.hr) dJ5_newCapacity_0f7a4_1 ?_
  refine aLen (S := S) (t := 42) (n := mm) X w hB.ha (by decide) rfl (hB.hw) dJ5_newCapacity_0f7a4_4 ?_
  refine lv_istore_n (lv' := [(2, .int (nI mm)), (0, .ref (gG S 18 i)), (1, .int (nI q))]) hx hb dJ5_newCapacity_0f7a4_5 rfl hl (by decide) rfl (fun ls hl => ?_)
  refine lv_iload_n hx hb dJ5_newCapacity_0f7a4_6 rfl (lv_at hl 2 rfl) ?_
  refine lv_aload_n hx hb dJ5_newCapacity_0f7a4_7 rfl (lv_at hl 1 rfl) ?_
  refine g_18_1 (S := S) (x := 0) X w hB.hv wF_J5_22 (hB.hc) dJ5_newCapacity_0f7a4_8 ?_
  refine lv_ishl hx hb dJ5_newCapacity_0f7a4_11 ?_
  refine lv_topi (fun z1 ez1 => ?_)
  obtain rfl : z1 = nI q := ez1.trans (sb_shl0 _)
  refine lv_istore_n (lv' := [(3, .int (nI q)), (2, .int (nI mm)), (0, .ref (gG S 18 i)), (1, .int (nI q))]) hx hb dJ5_newCapacity_0f7a4_12 rfl hl (by decide) rfl (fun ls hl => ?_)
  refine lv_iload_n hx hb dJ5_newCapacity_0f7a4_13 rfl (lv_at hl 0 rfl) ?_
  refine lv_iload_n hx hb dJ5_newCapacity_0f7a4_14 rfl (lv_at hl 1 rfl) ?_
  refine lv_isub hx hb dJ5_newCapacity_0f7a4_15 ?_
  refine lv_topi (fun z2 ez2 => ?_)
  obtain rfl : z2 = nI (q - mm) := ez2.trans (pk_sub (by omega))
  refine lv_istore (lv' := [(4, .int (nI (q - mm))), (3, .int (nI q)), (2, .int (nI mm)), (0, .ref (gG S 18 i)), (1, .int (nI q))]) hx hb dJ5_newCapacity_0f7a4_16 hl (by decide) rfl (fun ls hl => ?_)
  refine lv_iload_n hx hb dJ5_newCapacity_0f7a4_18 rfl (lv_at hl 2 rfl) ?_
  refine lv_iload hx hb dJ5_newCapacity_0f7a4_19 (lv_at hl 0 rfl) ?_
  refine lv_iload_n hx hb dJ5_newCapacity_0f7a4_21 rfl (lv_at hl 2 rfl) ?_
  refine lv_iconst (v := 2) hx hb dJ5_newCapacity_0f7a4_22 (by decide) ?_
  refine lv_aload_n hx hb dJ5_newCapacity_0f7a4_23 rfl (lv_at hl 3 rfl) ?_
  refine g_18_1 (S := S) (x := 0) X w hB.hv wF_J5_22 (hB.hc) dJ5_newCapacity_0f7a4_24 ?_
  refine lv_ishl hx hb dJ5_newCapacity_0f7a4_27 ?_
  refine lv_topi (fun z3 ez3 => ?_)
  obtain rfl : z3 = 2 := ez3.trans (by decide)
  refine lv_iadd hx hb dJ5_newCapacity_0f7a4_28 ?_
  refine lv_topi (fun z4 ez4 => ?_)
  obtain rfl : z4 = nI (mm + 2) := ez4.trans (nI_add mm 2)
  refine cS (S := S) (nA := 3) (As := [.int (nI mm), .int (nI (q - mm)), .int (nI (mm + 2))]) (rest := []) X w hl (m_newLen G S mm (q - mm) (mm + 2) (by omega) (by omega) (by omega)) wY_J8_newLength_cabcc wM_J5_114 wSt_J8_newLength_cabcc wI_J8 (by decide +kernel) rfl rfl dJ5_newCapacity_0f7a4_29 ⟨by decide, by decide⟩ (Nat.le_of_ble_eq_true rfl) (⟨Nat.le_of_ble_eq_true rfl, Nat.le_of_ble_eq_true rfl⟩) (fun v5 S1 H locs hp w => ?_)
  obtain ⟨rfl, rfl⟩ := hp
  refine lv_istore (lv' := [(5, .int (nI (mm + max (q - mm) (mm + 2)))), (4, .int (nI (q - mm))), (3, .int (nI q)), (2, .int (nI mm)), (0, .ref (gG S 18 i)), (1, .int (nI q))]) hx hb dJ5_newCapacity_0f7a4_32 hl (by decide) rfl (fun ls hl => ?_)
  refine lv_iload hx hb dJ5_newCapacity_0f7a4_34 (lv_at hl 0 rfl) ?_
  refine lv_ldc hx hb hown (hts _ wK_J5_39) dJ5_newCapacity_0f7a4_36 ?_
  refine lv_icmp_ne (tgt := 51) hx hb dJ5_newCapacity_0f7a4_38 (by decide) (fun hq38 => ?_) (fun hq38 => ?_)
  · refine lv_iload hx hb dJ5_newCapacity_0f7a4_51 (lv_at hl 0 rfl) ?_
    refine lv_aload_n hx hb dJ5_newCapacity_0f7a4_53 rfl (lv_at hl 4 rfl) ?_
    refine g_18_1 (S := S) (x := 0) X w hB.hv wF_J5_22 (hB.hc) dJ5_newCapacity_0f7a4_54 ?_
    refine lv_ishr hx hb dJ5_newCapacity_0f7a4_57 ?_
    refine lv_topi (fun z6 ez6 => ?_)
    obtain rfl : z6 = nI (mm + max (q - mm) (mm + 2)) := ez6.trans (sb_shr0 _)
    exact rI X w rfl dJ5_newCapacity_0f7a4_58 (by decide) (by decide) (⟨⟨_, rfl, by omega, by omega⟩, rfl⟩)
  · exact absurd hq38 (fun z => by have := (nI_eq (a := mm + max (q - mm) (mm + 2)) (b := 2147483647) (by omega) (by decide)).mp z; omega)

theorem dJ7_copyOf_9075b_0 : decode cJ7_copyOf_9075b 0 = .ok (.iload_n 1, 1) := by decide +kernel
theorem dJ7_copyOf_9075b_1 : decode cJ7_copyOf_9075b 1 = .ok (.aload_n 0, 1) := by decide +kernel
theorem dJ7_copyOf_9075b_2 : decode cJ7_copyOf_9075b 2 = .ok (.arraylength, 1) := by decide +kernel
theorem dJ7_copyOf_9075b_3 : decode cJ7_copyOf_9075b 3 = .ok (.if_icmp .ne 11, 3) := by decide +kernel
theorem dJ7_copyOf_9075b_14 : decode cJ7_copyOf_9075b 14 = .ok (.iload_n 1, 1) := by decide +kernel
theorem dJ7_copyOf_9075b_15 : decode cJ7_copyOf_9075b 15 = .ok (.newarray .byte, 2) := by decide +kernel
theorem dJ7_copyOf_9075b_17 : decode cJ7_copyOf_9075b 17 = .ok (.astore_n 2, 1) := by decide +kernel
theorem dJ7_copyOf_9075b_18 : decode cJ7_copyOf_9075b 18 = .ok (.aload_n 0, 1) := by decide +kernel
theorem dJ7_copyOf_9075b_19 : decode cJ7_copyOf_9075b 19 = .ok (.iconst 0, 1) := by decide +kernel
theorem dJ7_copyOf_9075b_20 : decode cJ7_copyOf_9075b 20 = .ok (.aload_n 2, 1) := by decide +kernel
theorem dJ7_copyOf_9075b_21 : decode cJ7_copyOf_9075b 21 = .ok (.iconst 0, 1) := by decide +kernel
theorem dJ7_copyOf_9075b_22 : decode cJ7_copyOf_9075b 22 = .ok (.aload_n 0, 1) := by decide +kernel
theorem dJ7_copyOf_9075b_23 : decode cJ7_copyOf_9075b 23 = .ok (.arraylength, 1) := by decide +kernel
theorem dJ7_copyOf_9075b_24 : decode cJ7_copyOf_9075b 24 = .ok (.iload_n 1, 1) := by decide +kernel
theorem dJ7_copyOf_9075b_25 : decode cJ7_copyOf_9075b 25 = .ok (.invokestatic 304, 3) := by decide +kernel
theorem dJ7_copyOf_9075b_28 : decode cJ7_copyOf_9075b 28 = .ok (.invokestatic 150, 3) := by decide +kernel
theorem dJ7_copyOf_9075b_31 : decode cJ7_copyOf_9075b 31 = .ok (.aload_n 2, 1) := by decide +kernel
theorem dJ7_copyOf_9075b_32 : decode cJ7_copyOf_9075b 32 = .ok (.areturn, 1) := by decide +kernel
abbrev rm_m_J7_copyOf_9075b : Room := { frames := 1, cells := 1, slots := 200, locals := 43 }
set_option maxHeartbeats 4000000 in
set_option maxRecDepth 100000 in
theorem m_J7_copyOf_9075b {s0 : State} {l : Launch} {D : va_G} {cy : Nat → ClassId} (G : Gl s0 l D cy) (S : HS) (k mm g : Nat) (hV : vV S 42 k) (hf : sb_Fit (mA S 42 k)) (hN : mN S 42 k = mm) (hz : ¬ vV S 42 (k + 1)) (hm : mm < g) (hg : g ≤ 200) : Ctr s0 l D cy yJ7_copyOf_9075b cJ7_copyOf_9075b 3 (some (.array .byte)) rm_m_J7_copyOf_9075b S [.ref (gG S 42 k), .int (nI g)] (fun v S' => some (.ref (gG S' 42 (k + 1))) = v ∧ ∃ q f, sb_Fit f ∧ S' = sA (sArr S 42 (k + 1) q g) 42 (k + 1) f) := by
  refine pro "java/util/Arrays" G rfl rfl (Nat.le_of_ble_eq_true rfl) (fun p e s m below meth c ls X w hnm hl => ?_)
  have hx := X.1
  have hb := X.2.1
  have hown := X.2.2.2.1
  have hts := X.2.2.2.2.1
  have hl : lv_has ls 3 [(0, .ref (gG S 42 k)), (1, .int (nI g))] := hl
  refine lv_iload_n hx hb dJ7_copyOf_9075b_0 rfl (lv_at hl 1 rfl) ?_
  refine lv_aload_n hx hb dJ7_copyOf_9075b_1 rfl (lv_at hl 0 rfl) ?_
  refine aLen (S := S) (t := 42) (n := mm) X w hV (by decide) rfl (hN) dJ7_copyOf_9075b_2 ?_
  refine lv_icmp_ne (tgt := 14) hx hb dJ7_copyOf_9075b_3 (by decide) (fun hq3 => ?_) (fun hq3 => ?_)
  · refine lv_iload_n hx hb dJ7_copyOf_9075b_14 rfl (lv_at hl 1 rfl) ?_
    refine nwI (S := S) (atype := .byte) (ty := .byte) (n := g) X w 42 (k + 1) (hz) (by decide) rfl rfl (Or.inr (Or.inr ⟨rfl, rfl⟩)) wA_byte rfl (by omega) dJ7_copyOf_9075b_15 (Nat.le_of_ble_eq_true rfl) (show 0 + g ≤ 200 by omega) (fun q7 S2 H hS2 w => ?_)
    subst hS2
    refine lv_astore_n (lv' := [(2, .ref (gG (sArr S 42 (k + 1) q7 g) 42 (k + 1))), (0, .ref (gG S 42 k)), (1, .int (nI g))]) hx hb dJ7_copyOf_9075b_17 rfl hl (by decide) rfl (fun ls hl => ?_)
    refine lv_aload_n hx hb dJ7_copyOf_9075b_18 rfl (lv_at hl 1 rfl) ?_
    refine lv_iconst (v := 0) hx hb dJ7_copyOf_9075b_19 (by decide) ?_
    refine lv_aload_n hx hb dJ7_copyOf_9075b_20 rfl (lv_at hl 0 rfl) ?_
    refine lv_iconst (v := 0) hx hb dJ7_copyOf_9075b_21 (by decide) ?_
    refine lv_aload_n hx hb dJ7_copyOf_9075b_22 rfl (lv_at hl 1 rfl) ?_
    refine rE0 ((rfl).trans (((show gG (sArr S 42 (k + 1) q7 g) 42 k = gG S 42 k from up2_n (fun z => by omega))).trans (rfl)).symm) ?_
    refine aLen (S := (sArr S 42 (k + 1) q7 g)) (t := 42) (n := mm) X w (Or.inl hV) (by decide) rfl ((up2_n (fun z => by omega)).trans hN) dJ7_copyOf_9075b_23 ?_
    refine lv_iload_n hx hb dJ7_copyOf_9075b_24 rfl (lv_at hl 2 rfl) ?_
    refine va_mmin hx hb (X.2.2.1.trans hl.1.symm) hown (hts _ wM_J7_304) (hts _ wSt_J9_min_7cf53) (hts _ wI_J9) (hts _ wY_J9_min_7cf53) (by decide) (Nat.le_of_ble_eq_true rfl) (Nat.le_of_ble_eq_true rfl) (show 0 + g ≤ 200 by omega) dJ7_copyOf_9075b_25 ?_
    refine lv_topi (fun z1 ez1 => ?_)
    obtain rfl : z1 = nI mm := ez1.trans (nI_min (by omega) (by omega))
    refine rE4 ((rfl).trans (((show gG (sArr S 42 (k + 1) q7 g) 42 k = gG S 42 k from up2_n (fun z => by omega))).trans (rfl)).symm) ?_
    refine cpBF (S := (sArr S 42 (k + 1) q7 g)) (i := k) (i1 := (k + 1)) (u := mm) X w hl.1 (Or.inl hV) (Or.inr ⟨rfl, rfl⟩) (by rw [show mA (sArr S 42 (k + 1) q7 g) 42 k = mA S 42 k from up2_n (fun z => by omega)]; exact hf) (by rw [show mA (sArr S 42 (k + 1) q7 g) 42 (k + 1) = (fun _ => 0) from up2_s _ _ _ _]; exact sb_fit0) wM_J7_150 (by omega) (by rw [show mN (sArr S 42 (k + 1) q7 g) 42 k = mm from (up2_n (fun z => by omega)).trans hN]; omega) (by rw [show mN (sArr S 42 (k + 1) q7 g) 42 (k + 1) = g from up2_s _ _ _ _]; omega) (Nat.le_of_ble_eq_true rfl) (Nat.le_of_ble_eq_true rfl) dJ7_copyOf_9075b_28 (fun f H locs hf2 w => ?_)
    refine lv_aload_n hx hb dJ7_copyOf_9075b_31 rfl (lv_at hl 0 rfl) ?_
    refine rE0 ((rfl).trans ((rfl).trans (rfl)).symm) ?_
    exact rA (v := (some (gG (sA (sArr S 42 (k + 1) q7 g) 42 (k + 1) f) 42 (k + 1)))) X w rfl (Or.inr ⟨_, rfl⟩) dJ7_copyOf_9075b_32 (Nat.le_refl _) (show 0 + g ≤ 200 by omega) (⟨rfl, _, _, hf2, rfl⟩)
  · exact absurd hq3 (fun z => by have := (nI_eq (a := g) (b := mm) (by omega) (by omega)).mp z; omega)

