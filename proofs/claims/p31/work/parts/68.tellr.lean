section ST41
variable {p : Program} {l : Launch} {e : Env} {R : Room} {s : State} {m : MethodId} {args : Array Value} {below : List Frame} {meth : Method} {c : Code} {H : Heap} {locs : List Loc} {cells slots : Nat} {Q : State → Prop} {cc : ByteArray} {pc nL : Nat} {ls : Array Slot} {rest : List Value} {s0 : State} {D : va_G} {cy : Nat → ClassId} {S S' : HS} {own : String} {ret : Option FieldType} {post : Option Value → HS → Prop} {i index : Nat}
variable {y : MethodName} {ccy : ByteArray} {ny nA : Nat} {rety : Option FieldType} {rm : Room} {As st : List Value} {lv : List (Nat × Value)}

theorem nwS {x : Int32} {n : Nat} (X : Cx s0 l D cy p s m args meth c cc nL own ret) (w : Wd s0 D cy S s.heap H locs) (hn : ¬ vV S 41 i) (hl : Cond.classLink own index "java/lang/String" ∈ ALLW) (hx : x = nI n) (hb : n < 2 ^ 20) (hdg : decode cc pc = .ok (.anewarray index, 3)) (hcells : cells + 1 ≤ R.cells) (hslots : slots + n ≤ R.slots)
    (kk : ∀ (q : Nat) (H1 : Heap), Wd s0 D cy (sArr S 41 i q n) s.heap H1 locs → W p l e R s m args below meth c H1 locs (cells + 1) (slots + n) Q (F0 m (pc + 3) ls (.ref (gG (sArr S 41 i q n) 41 i) :: rest))) : W p l e R s m args below meth c H locs cells slots Q (F0 m pc ls (.int x :: rest)) := by
  obtain ⟨⟨⟨ws, hP, hD, hm⟩, inj⟩, hS⟩ := w
  subst hx
  have hcl : (nI n).toNatClampNeg = n := nI_clamp (Nat.lt_trans hb (by decide))
  have hb31 : n < 2 ^ 31 := Nat.lt_trans hb (by decide)
  refine va_newq X.1 X.2.1 X.2.2.2.1 (X.2.2.2.2.1 _ hl) (Gl.ao X.2.2.2.2.2.2.2.2.2 X.2.2.2.2.2.2.2.2.1 wAO_java_lang_String) X.2.2.2.2.2.2.2.1 hP hD hS (fun q hq => Nat.le_trans X.2.2.2.2.2.2.2.2.1.2.1 hq) (nI_pos hb31) hcl (by omega) hcells hslots hdg (fun q cA H1 hK1 hP1 hD1 hS1 => ?_)
  have hcA : cA = cy (ak 41) := by
    have h1 := (hK1.2 (TY cy).length (cA, .object "java/lang/String") (by rw [List.getElem?_append_right (Nat.le_refl _), Nat.sub_self]; rfl)).2
    have h2 := (X.2.2.2.2.2.2.2.1.2 5 _ (rfl : (TY cy)[5]? = some (cy 5, .object "java/lang/String"))).2
    have e1 := va_nmO h1 rfl
    have e2 := va_nmO h2 rfl
    exact Option.some.inj (e1.symm.trans e2)
  subst hcA
  have eq : gG (sArr S 41 i q n) 41 i = q := up2_s _ 41 i q
  have h := kk q H1 ⟨WP.new ⟨⟨ws, hP, hD, hm⟩, inj⟩ hm hD1 hP1 hn (fun t' i' => Iff.rfl) (fun t' i' h => up2_n h) eq (by rw [cell_arrS (by decide)]; rfl) (fun t' i' hv' h => cell_arrN h), hS1⟩
  rw [eq] at h; exact h
theorem aStS {x : Int32} {v k w0 : Nat} (X : Cx s0 l D cy p s m args meth c cc nL own ret) (w : Wd s0 D cy S s.heap H locs) (hV : vV S 41 i) (hin : vp_in x (mN S 41 i)) (hv : SA s0 S k v w0) (hdg : decode cc pc = .ok (.aastore, 1))
    (kk : ∀ (H1 : Heap) (locs1 : List Loc), Wd s0 D cy (sB S 41 i (va_up (mB S 41 i) x.toNatClampNeg (some v))) s.heap H1 locs1 → W p l e R s m args below meth c H1 locs1 cells slots Q (F0 m (pc + 1) ls rest)) : W p l e R s m args below meth c H locs cells slots Q (F0 m pc ls (.ref v :: .int x :: .ref (gG S 41 i) :: rest)) := by
  have hrec := recSA X w hv
  obtain ⟨ws, q0, hP, hD, hq, hm⟩ := w.at hV
  have hq' := hq
  rw [cell_arrR (by decide) rfl] at hq
  refine vb_astq (t0 := 5) (E := "java/lang/String") (C := "java/lang/String") X.1 X.2.1 X.2.2.2.2.2.2.2.1 hP hD w.2 q0 hq rfl hrec (fun comp c0 h1 h2 => by cases h1.symm.trans h2; exact va_asg _ _) hin hdg (fun H1 locs1 a b c' => ?_)
  refine kk H1 locs1 ⟨WP.put w.1.2 hD hV hq' hm a b rfl rfl ?_ (fun t' i' h => cell_sB h), c'⟩
  rw [cell_arrR (by decide) rfl]
  exact congrArg (fun f => (Sum.inl (cy (ak 41), mN S 41 i, Sum.inr (Sum.inr (Sum.inr (Sum.inr f)))) : va_E)) (up2_s _ 41 i _)
end ST41
/-- four texts in a row -/
def A41 (s0 : State) (S : HS) : Prop := vV S 41 0 ∧ mN S 41 0 = 4 ∧ ∀ g, g < 4 → ∃ b w0, mB S 41 0 g = some b ∧ CSA s0 b w0 ∧ w0 ≤ 7
theorem A41.kq {hv hi hr : Nat → Nat → Bool} {s0 : State} {S T : HS} (h : A41 s0 S) (k : Kq hv hi hr S T) (hz : hv 41 0 = false) : A41 s0 T := by
  obtain ⟨k1, k2, k3, k4, k5⟩ := k.1 41 0 hz
  exact ⟨by rw [k1]; exact h.1, by rw [k3]; exact h.2.1, fun g hg => by rw [k4]; exact h.2.2 g hg⟩
theorem A41.new {s0 : State} {S : HS} {i q : Nat} (h : A41 s0 S) : A41 s0 (sNew S 18 i q) := ⟨Or.inl h.1, h.2.1, h.2.2⟩
theorem A41.mk {s0 : State} {S : HS} {q a b d e : Nat} {wa wb wd we : Nat} (ha : CSA s0 a wa) (hb : CSA s0 b wb) (hd : CSA s0 d wd) (he : CSA s0 e we) (la : wa ≤ 7) (lb : wb ≤ 7) (ld : wd ≤ 7) (le : we ≤ 7) : A41 s0 (sB (sB (sB (sB (sArr S 41 0 q 4) 41 0 (va_up (mB (sArr S 41 0 q 4) 41 0) (0 : Int32).toNatClampNeg (some a))) 41 0 (va_up (mB (sB (sArr S 41 0 q 4) 41 0 (va_up (mB (sArr S 41 0 q 4) 41 0) (0 : Int32).toNatClampNeg (some a))) 41 0) (1 : Int32).toNatClampNeg (some b))) 41 0 (va_up (mB (sB (sB (sArr S 41 0 q 4) 41 0 (va_up (mB (sArr S 41 0 q 4) 41 0) (0 : Int32).toNatClampNeg (some a))) 41 0 (va_up (mB (sB (sArr S 41 0 q 4) 41 0 (va_up (mB (sArr S 41 0 q 4) 41 0) (0 : Int32).toNatClampNeg (some a))) 41 0) (1 : Int32).toNatClampNeg (some b))) 41 0) (2 : Int32).toNatClampNeg (some d))) 41 0 (va_up (mB (sB (sB (sB (sArr S 41 0 q 4) 41 0 (va_up (mB (sArr S 41 0 q 4) 41 0) (0 : Int32).toNatClampNeg (some a))) 41 0 (va_up (mB (sB (sArr S 41 0 q 4) 41 0 (va_up (mB (sArr S 41 0 q 4) 41 0) (0 : Int32).toNatClampNeg (some a))) 41 0) (1 : Int32).toNatClampNeg (some b))) 41 0 (va_up (mB (sB (sB (sArr S 41 0 q 4) 41 0 (va_up (mB (sArr S 41 0 q 4) 41 0) (0 : Int32).toNatClampNeg (some a))) 41 0 (va_up (mB (sB (sArr S 41 0 q 4) 41 0 (va_up (mB (sArr S 41 0 q 4) 41 0) (0 : Int32).toNatClampNeg (some a))) 41 0) (1 : Int32).toNatClampNeg (some b))) 41 0) (2 : Int32).toNatClampNeg (some d))) 41 0) (3 : Int32).toNatClampNeg (some e))) := by
  refine ⟨Or.inr ⟨rfl, rfl⟩, rfl, fun g hg => ?_⟩
  match g, hg with
  | 0, _ => exact ⟨a, wa, rfl, ha, la⟩
  | 1, _ => exact ⟨b, wb, rfl, hb, lb⟩
  | 2, _ => exact ⟨d, wd, rfl, hd, ld⟩
  | 3, _ => exact ⟨e, we, rfl, he, le⟩
theorem rSort_in (x : Int32) : ∃ g, g < 4 ∧ rSort x = nI g := by
  unfold rSort
  split
  · exact ⟨3, by decide, rfl⟩
  · split
    · exact ⟨2, by decide, rfl⟩
    · split
      · exact ⟨1, by decide, rfl⟩
      · exact ⟨0, by decide, rfl⟩
def PRs (s0 : State) (S : HS) (cn : Cn) : Option Value → HS → Prop := fun v S' => (∃ b, some (.ref b) = v) ∧ RX s0 S' cn ∧ KeepR S S'

theorem dX16_tell_0 : decode cX16_tell 0 = .ok (.aload_n 0, 1) := by decide +kernel
theorem dX16_tell_1 : decode cX16_tell 1 = .ok (.iconst 0, 1) := by decide +kernel
theorem dX16_tell_2 : decode cX16_tell 2 = .ok (.putfield 43, 3) := by decide +kernel
theorem dX16_tell_5 : decode cX16_tell 5 = .ok (.aload_n 0, 1) := by decide +kernel
theorem dX16_tell_6 : decode cX16_tell 6 = .ok (.iload_n 1, 1) := by decide +kernel
theorem dX16_tell_7 : decode cX16_tell 7 = .ok (.invokevirtual 246, 3) := by decide +kernel
theorem dX16_tell_10 : decode cX16_tell 10 = .ok (.ifCond .ne 12, 3) := by decide +kernel
theorem dX16_tell_13 : decode cX16_tell 13 = .ok (.aload_n 0, 1) := by decide +kernel
theorem dX16_tell_14 : decode cX16_tell 14 = .ok (.iconst 1, 1) := by decide +kernel
theorem dX16_tell_15 : decode cX16_tell 15 = .ok (.putfield 43, 3) := by decide +kernel
theorem dX16_tell_18 : decode cX16_tell 18 = .ok (.ldc_w 313, 3) := by decide +kernel
theorem dX16_tell_21 : decode cX16_tell 21 = .ok (.areturn, 1) := by decide +kernel
theorem dX16_tell_22 : decode cX16_tell 22 = .ok (.aload_n 0, 1) := by decide +kernel
theorem dX16_tell_23 : decode cX16_tell 23 = .ok (.getfield 26, 3) := by decide +kernel
theorem dX16_tell_26 : decode cX16_tell 26 = .ok (.iload_n 1, 1) := by decide +kernel
theorem dX16_tell_27 : decode cX16_tell 27 = .ok (.invokeinterface 46 2, 5) := by decide +kernel
theorem dX16_tell_32 : decode cX16_tell 32 = .ok (.checkcast 105, 3) := by decide +kernel
theorem dX16_tell_35 : decode cX16_tell 35 = .ok (.astore_n 2, 1) := by decide +kernel
theorem dX16_tell_36 : decode cX16_tell 36 = .ok (.iconst 4, 1) := by decide +kernel
theorem dX16_tell_37 : decode cX16_tell 37 = .ok (.anewarray 315, 3) := by decide +kernel
theorem dX16_tell_40 : decode cX16_tell 40 = .ok (.dup, 1) := by decide +kernel
theorem dX16_tell_41 : decode cX16_tell 41 = .ok (.iconst 0, 1) := by decide +kernel
theorem dX16_tell_42 : decode cX16_tell 42 = .ok (.ldc_w 317, 3) := by decide +kernel
theorem dX16_tell_45 : decode cX16_tell 45 = .ok (.aastore, 1) := by decide +kernel
theorem dX16_tell_46 : decode cX16_tell 46 = .ok (.dup, 1) := by decide +kernel
theorem dX16_tell_47 : decode cX16_tell 47 = .ok (.iconst 1, 1) := by decide +kernel
theorem dX16_tell_48 : decode cX16_tell 48 = .ok (.ldc_w 319, 3) := by decide +kernel
theorem dX16_tell_51 : decode cX16_tell 51 = .ok (.aastore, 1) := by decide +kernel
theorem dX16_tell_52 : decode cX16_tell 52 = .ok (.dup, 1) := by decide +kernel
theorem dX16_tell_53 : decode cX16_tell 53 = .ok (.iconst 2, 1) := by decide +kernel
theorem dX16_tell_54 : decode cX16_tell 54 = .ok (.ldc_w 321, 3) := by decide +kernel
theorem dX16_tell_57 : decode cX16_tell 57 = .ok (.aastore, 1) := by decide +kernel
theorem dX16_tell_58 : decode cX16_tell 58 = .ok (.dup, 1) := by decide +kernel
theorem dX16_tell_59 : decode cX16_tell 59 = .ok (.iconst 3, 1) := by decide +kernel
theorem dX16_tell_60 : decode cX16_tell 60 = .ok (.ldc_w 323, 3) := by decide +kernel
theorem dX16_tell_63 : decode cX16_tell 63 = .ok (.aastore, 1) := by decide +kernel
theorem dX16_tell_64 : decode cX16_tell 64 = .ok (.astore_n 3, 1) := by decide +kernel
theorem dX16_tell_65 : decode cX16_tell 65 = .ok (.aload_n 2, 1) := by decide +kernel
theorem dX16_tell_66 : decode cX16_tell 66 = .ok (.invokevirtual 252, 3) := by decide +kernel
theorem dX16_tell_69 : decode cX16_tell 69 = .ok (.ifCond .ne 26, 3) := by decide +kernel
theorem dX16_tell_72 : decode cX16_tell 72 = .ok (.aload_n 0, 1) := by decide +kernel
theorem dX16_tell_73 : decode cX16_tell 73 = .ok (.getfield 125, 3) := by decide +kernel
theorem dX16_tell_76 : decode cX16_tell 76 = .ok (.aload_n 2, 1) := by decide +kernel
theorem dX16_tell_77 : decode cX16_tell 77 = .ok (.getfield 112, 3) := by decide +kernel
theorem dX16_tell_80 : decode cX16_tell 80 = .ok (.if_icmp .le 9, 3) := by decide +kernel
theorem dX16_tell_83 : decode cX16_tell 83 = .ok (.ldc_w 325, 3) := by decide +kernel
theorem dX16_tell_86 : decode cX16_tell 86 = .ok (.goto 76, 3) := by decide +kernel
theorem dX16_tell_89 : decode cX16_tell 89 = .ok (.ldc_w 327, 3) := by decide +kernel
theorem dX16_tell_92 : decode cX16_tell 92 = .ok (.goto 70, 3) := by decide +kernel
theorem dX16_tell_95 : decode cX16_tell 95 = .ok (.new 329, 3) := by decide +kernel
theorem dX16_tell_98 : decode cX16_tell 98 = .ok (.dup, 1) := by decide +kernel
theorem dX16_tell_99 : decode cX16_tell 99 = .ok (.invokespecial 331, 3) := by decide +kernel
theorem dX16_tell_102 : decode cX16_tell 102 = .ok (.aload_n 3, 1) := by decide +kernel
theorem dX16_tell_103 : decode cX16_tell 103 = .ok (.aload_n 2, 1) := by decide +kernel
theorem dX16_tell_104 : decode cX16_tell 104 = .ok (.invokevirtual 135, 3) := by decide +kernel
theorem dX16_tell_107 : decode cX16_tell 107 = .ok (.aaload, 1) := by decide +kernel
theorem dX16_tell_108 : decode cX16_tell 108 = .ok (.invokevirtual 332, 3) := by decide +kernel
theorem dX16_tell_111 : decode cX16_tell 111 = .ok (.aload_n 2, 1) := by decide +kernel
theorem dX16_tell_112 : decode cX16_tell 112 = .ok (.getfield 144, 3) := by decide +kernel
theorem dX16_tell_115 : decode cX16_tell 115 = .ok (.iconst 1, 1) := by decide +kernel
theorem dX16_tell_116 : decode cX16_tell 116 = .ok (.if_icmp .ne 9, 3) := by decide +kernel
theorem dX16_tell_119 : decode cX16_tell 119 = .ok (.ldc_w 336, 3) := by decide +kernel
theorem dX16_tell_122 : decode cX16_tell 122 = .ok (.goto 34, 3) := by decide +kernel
theorem dX16_tell_125 : decode cX16_tell 125 = .ok (.aload_n 2, 1) := by decide +kernel
theorem dX16_tell_126 : decode cX16_tell 126 = .ok (.getfield 144, 3) := by decide +kernel
theorem dX16_tell_129 : decode cX16_tell 129 = .ok (.iconst 2, 1) := by decide +kernel
theorem dX16_tell_130 : decode cX16_tell 130 = .ok (.if_icmp .ne 9, 3) := by decide +kernel
theorem dX16_tell_133 : decode cX16_tell 133 = .ok (.ldc_w 338, 3) := by decide +kernel
theorem dX16_tell_136 : decode cX16_tell 136 = .ok (.goto 20, 3) := by decide +kernel
theorem dX16_tell_139 : decode cX16_tell 139 = .ok (.aload_n 2, 1) := by decide +kernel
theorem dX16_tell_140 : decode cX16_tell 140 = .ok (.getfield 144, 3) := by decide +kernel
theorem dX16_tell_143 : decode cX16_tell 143 = .ok (.iconst 3, 1) := by decide +kernel
theorem dX16_tell_144 : decode cX16_tell 144 = .ok (.if_icmp .ne 9, 3) := by decide +kernel
theorem dX16_tell_147 : decode cX16_tell 147 = .ok (.ldc_w 340, 3) := by decide +kernel
theorem dX16_tell_150 : decode cX16_tell 150 = .ok (.goto 6, 3) := by decide +kernel
theorem dX16_tell_153 : decode cX16_tell 153 = .ok (.ldc_w 313, 3) := by decide +kernel
theorem dX16_tell_156 : decode cX16_tell 156 = .ok (.invokevirtual 332, 3) := by decide +kernel
theorem dX16_tell_159 : decode cX16_tell 159 = .ok (.invokevirtual 342, 3) := by decide +kernel
theorem dX16_tell_162 : decode cX16_tell 162 = .ok (.astore 4, 2) := by decide +kernel
theorem dX16_tell_164 : decode cX16_tell 164 = .ok (.new 329, 3) := by decide +kernel
theorem dX16_tell_167 : decode cX16_tell 167 = .ok (.dup, 1) := by decide +kernel
theorem dX16_tell_168 : decode cX16_tell 168 = .ok (.invokespecial 331, 3) := by decide +kernel
theorem dX16_tell_171 : decode cX16_tell 171 = .ok (.iload_n 1, 1) := by decide +kernel
theorem dX16_tell_172 : decode cX16_tell 172 = .ok (.invokevirtual 346, 3) := by decide +kernel
theorem dX16_tell_175 : decode cX16_tell 175 = .ok (.ldc_w 349, 3) := by decide +kernel
theorem dX16_tell_178 : decode cX16_tell 178 = .ok (.invokevirtual 332, 3) := by decide +kernel
theorem dX16_tell_181 : decode cX16_tell 181 = .ok (.aload_n 2, 1) := by decide +kernel
theorem dX16_tell_182 : decode cX16_tell 182 = .ok (.getfield 104, 3) := by decide +kernel
theorem dX16_tell_185 : decode cX16_tell 185 = .ok (.invokevirtual 346, 3) := by decide +kernel
theorem dX16_tell_188 : decode cX16_tell 188 = .ok (.ldc_w 351, 3) := by decide +kernel
theorem dX16_tell_191 : decode cX16_tell 191 = .ok (.invokevirtual 332, 3) := by decide +kernel
theorem dX16_tell_194 : decode cX16_tell 194 = .ok (.aload_n 2, 1) := by decide +kernel
theorem dX16_tell_195 : decode cX16_tell 195 = .ok (.getfield 112, 3) := by decide +kernel
theorem dX16_tell_198 : decode cX16_tell 198 = .ok (.invokevirtual 346, 3) := by decide +kernel
theorem dX16_tell_201 : decode cX16_tell 201 = .ok (.ldc_w 353, 3) := by decide +kernel
theorem dX16_tell_204 : decode cX16_tell 204 = .ok (.invokevirtual 332, 3) := by decide +kernel
theorem dX16_tell_207 : decode cX16_tell 207 = .ok (.aload 4, 2) := by decide +kernel
theorem dX16_tell_209 : decode cX16_tell 209 = .ok (.invokevirtual 332, 3) := by decide +kernel
theorem dX16_tell_212 : decode cX16_tell 212 = .ok (.invokevirtual 342, 3) := by decide +kernel
theorem dX16_tell_215 : decode cX16_tell 215 = .ok (.areturn, 1) := by decide +kernel
abbrev rm_m_X16_tell : Room := { frames := 6, cells := 18, slots := 2300, locals := 154 }
set_option maxHeartbeats 4000000 in
set_option maxRecDepth 100000 in
theorem m_X16_tell {s0 : State} {l : Launch} {D : va_G} {cy : Nat → ClassId} (G : Gl s0 l D cy) (S : HS) (ea ns nj nm nt nr nq : Nat) (h : RI ea S ns nj nm nt nr nq) (hea : ea = eaOf s0) (hQ : QI s0 S nq nt) (hZr : Zr S) (A : HS) (g0 : Nat) (hF : RF s0 S A nq nt) (hg : mI S 257 0 = nI g0) (hZs : Zs S) (a : Int32) : Ctr s0 l D cy yX16_tell cX16_tell 5 (some (.object "java/lang/String")) rm_m_X16_tell S [.ref (gG S 16 0), .int a] (PRs s0 S (ns, nj, nm, nr, nt, g0, A)) := by
  refine pro "CavershamShiftModel" G rfl rfl (Nat.le_of_ble_eq_true rfl) (fun p e s m below meth c ls X w hnm hl => ?_)
  have hx := X.1
  have hb := X.2.1
  have hown := X.2.2.2.1
  have hts := X.2.2.2.2.1
  have hl : lv_has ls 5 [(0, .ref (gG S 16 0)), (1, .int a)] := hl
  have h0 := h
  have hK : Kq hvTm hiTm hrTm S S := Kq.rf
  have hb9 := h.b_ta
  have hb1 := h.b_st
  have hn19 : ∀ x, 0 ≤ x → ¬ vV S 19 x := fun x _ => hZs 19 x rfl
  have hn18 : ∀ x, 0 ≤ x → ¬ vV S 18 x := fun x _ => hZs 18 x rfl
  refine lv_aload_n hx hb dX16_tell_0 rfl (lv_at hl 0 rfl) ?_
  refine lv_iconst (v := 0) hx hb dX16_tell_1 (by decide) ?_
  refine p_16_0 (S := S) (x := 0) X w h.v wF_X16_43 dX16_tell_2 (fun H locs w => ?_)
  have h : RI ea (sI S 256 0 0) ns nj nm nt nr nq := h.stI (by decide)
  have hK : Kq hvTm hiTm hrTm S (sI S 256 0 0) := hK.sI rfl
  have h1 := h
  have hK1 := hK
  have hK_S : KZ (sI S 256 0 0) (sI S 256 0 0) := Kq.rf
  refine lv_aload_n hx hb dX16_tell_5 rfl (lv_at hl 0 rfl) ?_
  refine lv_iload_n hx hb dX16_tell_6 rfl (lv_at hl 1 rfl) ?_
  refine rE1 ((rfl).trans (rfl).symm) ?_
  refine cV (S := (sI S 256 0 0)) (nA := 1) (As := [.int a]) (rest := []) X w hl h.v (m_X16_isTalk G (sI S 256 0 0) ea ns nj nm nt nr nq h a) wY_X16_isTalk wM_X16_246 wIn_X16_isTalk wSe_X16_X16_isTalk wI_X16 (by decide) rfl (by decide +kernel) rfl rfl dX16_tell_7 ⟨by decide, by decide⟩ (Nat.le_of_ble_eq_true rfl) (⟨Nat.le_of_ble_eq_true rfl, Nat.le_of_ble_eq_true rfl⟩) (fun v1 S1 H locs hp w => ?_)
  obtain ⟨rfl, rfl⟩ := hp
  refine lv_if_ne (tgt := 22) hx hb dX16_tell_10 (by decide) (fun hc2 => ?_) (fun hc2 => ?_)
  · obtain ⟨j3, hlj3, hvj3⟩ := out_in (n := nt) (by have hb1 := h.b_ta; omega) ((by simpa using b2i_t hc2))
    rw [hvj3] at hl
    refine lv_aload_n hx hb dX16_tell_22 rfl (lv_at hl 0 rfl) ?_
    refine rE0 ((rfl).trans (rfl).symm) ?_
    refine g_16_9 (S := (sI S 256 0 0)) (x := (some (gG (sI S 256 0 0) 17 9))) X w h.v wF_X16_26 (h.f_ta) dX16_tell_23 ?_
    refine lv_iload_n hx hb dX16_tell_26 rfl (lv_at hl 1 rfl) ?_
    refine cF (S := (sI S 256 0 0)) (t := 17) (nA := 1) (As := [.int (nI j3)]) (rest := []) X w hl h.l_ta.1 (m_get G (sI S 256 0 0) ea 9 j3 nt (some (gG (sI S 256 0 0) 15 j3)) h.l_ta hlj3 (h.e_ta j3 hlj3).1) wY_Jx4a65c_get_915e3 wM_X16_46 wIn_Jx4a65c_get_915e3 wSe_Jx4a65c_Jx4a65c_get_915e3_of_java_util_List_get__I_Ljava_lang_Object_ wI_Jx4a65c fw_get (by decide) rfl (by decide +kernel) rfl rfl dX16_tell_27 ⟨by decide, by decide⟩ (Nat.le_of_ble_eq_true rfl) (⟨Nat.le_of_ble_eq_true rfl, Nat.le_of_ble_eq_true rfl⟩) (fun v4 S1 H locs hp w => ?_)
    obtain ⟨rfl, rfl⟩ := hp
    refine ckC (S := (sI S 256 0 0)) (t := 15) X w (h.e_ta j3 hlj3).2 (by decide) rfl wC_X16_105 dX16_tell_32 ?_
    refine lv_astore_n (lv' := [(2, .ref (gG (sI S 256 0 0) 15 j3)), (0, .ref (gG S 16 0)), (1, .int (nI j3))]) hx hb dX16_tell_35 rfl hl (by decide) rfl (fun ls hl => ?_)
    refine lv_iconst (v := 4) hx hb dX16_tell_36 (by decide) ?_
    refine nwS (S := (sI S 256 0 0)) (i := 0) (n := 4) X w (hZs 41 0 rfl) wC_X16_315 rfl (by decide) dX16_tell_37 (Nat.le_of_ble_eq_true rfl) (Nat.le_of_ble_eq_true rfl) (fun q41 H w => ?_)
    refine lv_dup hx hb dX16_tell_40 rfl ?_
    refine lv_iconst (v := 0) hx hb dX16_tell_41 (by decide) ?_
    refine ldS X wS9_X16_317 dX16_tell_42 ?_
    refine aStS (S := (sArr (sI S 256 0 0) 41 0 q41 4)) (i := 0) (x := 0) (k := 0) (w0 := 7) X w (Or.inr ⟨rfl, rfl⟩) (by rw [show mN (sArr (sI S 256 0 0) 41 0 q41 4) 41 0 = 4 from rfl]; unfold vp_in; decide) (Or.inl (cs_X16_317 G)) dX16_tell_45 (fun H locs w => ?_)
    refine lv_dup hx hb dX16_tell_46 rfl ?_
    refine lv_iconst (v := 1) hx hb dX16_tell_47 (by decide) ?_
    refine ldS X wS9_X16_319 dX16_tell_48 ?_
    refine rE2 ((rfl).trans ((rfl).trans (rfl)).symm) ?_
    refine aStS (S := (sB (sArr (sI S 256 0 0) 41 0 q41 4) 41 0 (va_up (mB (sArr (sI S 256 0 0) 41 0 q41 4) 41 0) (0 : Int32).toNatClampNeg (some (saOf s0 "CavershamShiftModel" 317))))) (i := 0) (x := 1) (k := 0) (w0 := 7) X w (Or.inr ⟨rfl, rfl⟩) (by rw [show mN (sB (sArr (sI S 256 0 0) 41 0 q41 4) 41 0 (va_up (mB (sArr (sI S 256 0 0) 41 0 q41 4) 41 0) (0 : Int32).toNatClampNeg (some (saOf s0 "CavershamShiftModel" 317)))) 41 0 = 4 from rfl]; unfold vp_in; decide) (Or.inl (cs_X16_319 G)) dX16_tell_51 (fun H locs w => ?_)
    refine lv_dup hx hb dX16_tell_52 rfl ?_
    refine lv_iconst (v := 2) hx hb dX16_tell_53 (by decide) ?_
    refine ldS X wS9_X16_321 dX16_tell_54 ?_
    refine rE2 ((rfl).trans ((rfl).trans ((rfl).trans (rfl))).symm) ?_
    refine aStS (S := (sB (sB (sArr (sI S 256 0 0) 41 0 q41 4) 41 0 (va_up (mB (sArr (sI S 256 0 0) 41 0 q41 4) 41 0) (0 : Int32).toNatClampNeg (some (saOf s0 "CavershamShiftModel" 317)))) 41 0 (va_up (mB (sB (sArr (sI S 256 0 0) 41 0 q41 4) 41 0 (va_up (mB (sArr (sI S 256 0 0) 41 0 q41 4) 41 0) (0 : Int32).toNatClampNeg (some (saOf s0 "CavershamShiftModel" 317)))) 41 0) (1 : Int32).toNatClampNeg (some (saOf s0 "CavershamShiftModel" 319))))) (i := 0) (x := 2) (k := 0) (w0 := 4) X w (Or.inr ⟨rfl, rfl⟩) (by rw [show mN (sB (sB (sArr (sI S 256 0 0) 41 0 q41 4) 41 0 (va_up (mB (sArr (sI S 256 0 0) 41 0 q41 4) 41 0) (0 : Int32).toNatClampNeg (some (saOf s0 "CavershamShiftModel" 317)))) 41 0 (va_up (mB (sB (sArr (sI S 256 0 0) 41 0 q41 4) 41 0 (va_up (mB (sArr (sI S 256 0 0) 41 0 q41 4) 41 0) (0 : Int32).toNatClampNeg (some (saOf s0 "CavershamShiftModel" 317)))) 41 0) (1 : Int32).toNatClampNeg (some (saOf s0 "CavershamShiftModel" 319)))) 41 0 = 4 from rfl]; unfold vp_in; decide) (Or.inl (cs_X16_321 G)) dX16_tell_57 (fun H locs w => ?_)
    refine lv_dup hx hb dX16_tell_58 rfl ?_
    refine lv_iconst (v := 3) hx hb dX16_tell_59 (by decide) ?_
    refine ldS X wS9_X16_323 dX16_tell_60 ?_
    refine rE2 ((rfl).trans ((rfl).trans ((rfl).trans ((rfl).trans (rfl)))).symm) ?_
    refine aStS (S := (sB (sB (sB (sArr (sI S 256 0 0) 41 0 q41 4) 41 0 (va_up (mB (sArr (sI S 256 0 0) 41 0 q41 4) 41 0) (0 : Int32).toNatClampNeg (some (saOf s0 "CavershamShiftModel" 317)))) 41 0 (va_up (mB (sB (sArr (sI S 256 0 0) 41 0 q41 4) 41 0 (va_up (mB (sArr (sI S 256 0 0) 41 0 q41 4) 41 0) (0 : Int32).toNatClampNeg (some (saOf s0 "CavershamShiftModel" 317)))) 41 0) (1 : Int32).toNatClampNeg (some (saOf s0 "CavershamShiftModel" 319)))) 41 0 (va_up (mB (sB (sB (sArr (sI S 256 0 0) 41 0 q41 4) 41 0 (va_up (mB (sArr (sI S 256 0 0) 41 0 q41 4) 41 0) (0 : Int32).toNatClampNeg (some (saOf s0 "CavershamShiftModel" 317)))) 41 0 (va_up (mB (sB (sArr (sI S 256 0 0) 41 0 q41 4) 41 0 (va_up (mB (sArr (sI S 256 0 0) 41 0 q41 4) 41 0) (0 : Int32).toNatClampNeg (some (saOf s0 "CavershamShiftModel" 317)))) 41 0) (1 : Int32).toNatClampNeg (some (saOf s0 "CavershamShiftModel" 319)))) 41 0) (2 : Int32).toNatClampNeg (some (saOf s0 "CavershamShiftModel" 321))))) (i := 0) (x := 3) (k := 0) (w0 := 5) X w (Or.inr ⟨rfl, rfl⟩) (by rw [show mN (sB (sB (sB (sArr (sI S 256 0 0) 41 0 q41 4) 41 0 (va_up (mB (sArr (sI S 256 0 0) 41 0 q41 4) 41 0) (0 : Int32).toNatClampNeg (some (saOf s0 "CavershamShiftModel" 317)))) 41 0 (va_up (mB (sB (sArr (sI S 256 0 0) 41 0 q41 4) 41 0 (va_up (mB (sArr (sI S 256 0 0) 41 0 q41 4) 41 0) (0 : Int32).toNatClampNeg (some (saOf s0 "CavershamShiftModel" 317)))) 41 0) (1 : Int32).toNatClampNeg (some (saOf s0 "CavershamShiftModel" 319)))) 41 0 (va_up (mB (sB (sB (sArr (sI S 256 0 0) 41 0 q41 4) 41 0 (va_up (mB (sArr (sI S 256 0 0) 41 0 q41 4) 41 0) (0 : Int32).toNatClampNeg (some (saOf s0 "CavershamShiftModel" 317)))) 41 0 (va_up (mB (sB (sArr (sI S 256 0 0) 41 0 q41 4) 41 0 (va_up (mB (sArr (sI S 256 0 0) 41 0 q41 4) 41 0) (0 : Int32).toNatClampNeg (some (saOf s0 "CavershamShiftModel" 317)))) 41 0) (1 : Int32).toNatClampNeg (some (saOf s0 "CavershamShiftModel" 319)))) 41 0) (2 : Int32).toNatClampNeg (some (saOf s0 "CavershamShiftModel" 321)))) 41 0 = 4 from rfl]; unfold vp_in; decide) (Or.inl (cs_X16_323 G)) dX16_tell_63 (fun H locs w => ?_)
    obtain ⟨Sx, eSx⟩ : ∃ Sx, Sx = (sB (sB (sB (sB (sArr (sI S 256 0 0) 41 0 q41 4) 41 0 (va_up (mB (sArr (sI S 256 0 0) 41 0 q41 4) 41 0) (0 : Int32).toNatClampNeg (some (saOf s0 "CavershamShiftModel" 317)))) 41 0 (va_up (mB (sB (sArr (sI S 256 0 0) 41 0 q41 4) 41 0 (va_up (mB (sArr (sI S 256 0 0) 41 0 q41 4) 41 0) (0 : Int32).toNatClampNeg (some (saOf s0 "CavershamShiftModel" 317)))) 41 0) (1 : Int32).toNatClampNeg (some (saOf s0 "CavershamShiftModel" 319)))) 41 0 (va_up (mB (sB (sB (sArr (sI S 256 0 0) 41 0 q41 4) 41 0 (va_up (mB (sArr (sI S 256 0 0) 41 0 q41 4) 41 0) (0 : Int32).toNatClampNeg (some (saOf s0 "CavershamShiftModel" 317)))) 41 0 (va_up (mB (sB (sArr (sI S 256 0 0) 41 0 q41 4) 41 0 (va_up (mB (sArr (sI S 256 0 0) 41 0 q41 4) 41 0) (0 : Int32).toNatClampNeg (some (saOf s0 "CavershamShiftModel" 317)))) 41 0) (1 : Int32).toNatClampNeg (some (saOf s0 "CavershamShiftModel" 319)))) 41 0) (2 : Int32).toNatClampNeg (some (saOf s0 "CavershamShiftModel" 321)))) 41 0 (va_up (mB (sB (sB (sB (sArr (sI S 256 0 0) 41 0 q41 4) 41 0 (va_up (mB (sArr (sI S 256 0 0) 41 0 q41 4) 41 0) (0 : Int32).toNatClampNeg (some (saOf s0 "CavershamShiftModel" 317)))) 41 0 (va_up (mB (sB (sArr (sI S 256 0 0) 41 0 q41 4) 41 0 (va_up (mB (sArr (sI S 256 0 0) 41 0 q41 4) 41 0) (0 : Int32).toNatClampNeg (some (saOf s0 "CavershamShiftModel" 317)))) 41 0) (1 : Int32).toNatClampNeg (some (saOf s0 "CavershamShiftModel" 319)))) 41 0 (va_up (mB (sB (sB (sArr (sI S 256 0 0) 41 0 q41 4) 41 0 (va_up (mB (sArr (sI S 256 0 0) 41 0 q41 4) 41 0) (0 : Int32).toNatClampNeg (some (saOf s0 "CavershamShiftModel" 317)))) 41 0 (va_up (mB (sB (sArr (sI S 256 0 0) 41 0 q41 4) 41 0 (va_up (mB (sArr (sI S 256 0 0) 41 0 q41 4) 41 0) (0 : Int32).toNatClampNeg (some (saOf s0 "CavershamShiftModel" 317)))) 41 0) (1 : Int32).toNatClampNeg (some (saOf s0 "CavershamShiftModel" 319)))) 41 0) (2 : Int32).toNatClampNeg (some (saOf s0 "CavershamShiftModel" 321)))) 41 0) (3 : Int32).toNatClampNeg (some (saOf s0 "CavershamShiftModel" 323)))) := ⟨_, rfl⟩
    have hK_N5 : KZ (sI S 256 0 0) Sx := by rw [eSx]; exact ((((Kq.rf.arr rfl).sB rfl).sB rfl).sB rfl).sB rfl
    have hA41 : A41 s0 Sx := by rw [eSx]; exact A41.mk (cs_X16_317 G) (cs_X16_319 G) (cs_X16_321 G) (cs_X16_323 G) (by decide) (by decide) (by decide) (by decide)
    have hn19 : ∀ x, 0 ≤ x → ¬ vV Sx 19 x := by rw [eSx]; exact fun x hx9 v => v.elim (hn19 x hx9) (fun z => absurd z.1 (by decide))
    have hn18 : ∀ x, 0 ≤ x → ¬ vV Sx 18 x := by rw [eSx]; exact fun x hx9 v => v.elim (hn18 x hx9) (fun z => absurd z.1 (by decide))
    have h42S : ∀ j, 0 ≤ j → ¬ vV Sx 42 j := by rw [eSx]; exact fun j hj9 v => v.elim (hZs 42 j rfl) (fun z => absurd z.1 (by decide))
    rw [← eSx] at w
    have h : RI ea Sx ns nj nm nt nr nq := h1.keepZ hK_N5
    refine lv_astore_n (lv' := [(3, .ref (gG (sArr (sI S 256 0 0) 41 0 q41 4) 41 0)), (2, .ref (gG (sI S 256 0 0) 15 j3)), (0, .ref (gG S 16 0)), (1, .int (nI j3))]) hx hb dX16_tell_64 rfl hl (by decide) rfl (fun ls hl => ?_)
    refine lv_aload_n hx hb dX16_tell_65 rfl (lv_at hl 1 rfl) ?_
    refine rE0 ((rfl).trans ((hK_N5.G (t := 15) (i := j3) rfl)).symm) ?_
    refine cV (S := Sx) (nA := 0) (As := []) (rest := []) X w hl (h.e_ta j3 hlj3).2 (m_X15_isReported G Sx j3 (h.e_ta j3 hlj3).2) wY_X15_isReported wM_X16_252 wIn_X15_isReported wSe_X15_X15_isReported wI_X15 (by decide) rfl (by decide +kernel) rfl rfl dX16_tell_66 ⟨by decide, by decide⟩ (Nat.le_of_ble_eq_true rfl) (⟨Nat.le_of_ble_eq_true rfl, Nat.le_of_ble_eq_true rfl⟩) (fun v6 S1 H locs hp w => ?_)
    obtain ⟨rfl, rfl⟩ := hp
    refine lv_if_ne (tgt := 95) hx hb dX16_tell_69 (by decide) (fun hc7 => ?_) (fun hc7 => ?_)
    · refine nwO (S := Sx) (t := 18) (n := 4) X w 0 (hn18 0 (Nat.le_refl _)) (Or.inl (by decide)) (by decide) rfl in_18 tyJ4 tyJ4_ok (by decide +kernel) wC_X16_329 wNew_J4 wI_J4 dX16_tell_95 rfl (Nat.le_of_ble_eq_true rfl) (Nat.le_of_ble_eq_true rfl) (fun q8 S2 H hS2 w => ?_)
      subst hS2
      have hK_N9 : KZ (sI S 256 0 0) (sNew Sx 18 0 q8) := hK_N5.new rfl (by decide) (fun f z => hz18 f z) (fun f z => hz18 f z)
      have h : RI ea (sNew Sx 18 0 q8) ns nj nm nt nr nq := h1.keepZ hK_N9
      have hA41 : A41 s0 (sNew Sx 18 0 q8) := hA41.new
      have hn19 : ∀ x, 0 ≤ x → ¬ vV (sNew Sx 18 0 q8) 19 x := fun x hx9 v => v.elim (hn19 x hx9) (fun z => absurd z.1 (by decide))
      have hn18 : ∀ x, 1 ≤ x → ¬ vV (sNew Sx 18 0 q8) 18 x := fun x hx9 v => v.elim (hn18 x (by omega)) (fun z => by omega)
      refine lv_dup hx hb dX16_tell_98 rfl ?_
      refine cI (S := (sNew Sx 18 0 q8)) (nA := 0) (As := []) (rest := [.ref (gG (sNew Sx 18 0 q8) 18 0)]) X w hl (m_J4_init_da8c8 G (sNew Sx 18 0 q8) 0 0 (Or.inr ⟨rfl, rfl⟩) (nwI_0 rfl) (fun j hj9 v => v.elim (h42S j hj9) (fun z => absurd z.1 (by decide)))) wY_J4_init_da8c8 wM_X16_331 wIn_J4_init_da8c8 wI_J4 rfl (by decide +kernel) rfl rfl dX16_tell_99 ⟨by decide, by decide⟩ (Nat.le_of_ble_eq_true rfl) (⟨Nat.le_of_ble_eq_true rfl, Nat.le_of_ble_eq_true rfl⟩) (fun v11 U10 H locs hp w => ?_)
      obtain ⟨rfl, hB, hKU10⟩ := hp
      have hK_U10 : KZ (sI S 256 0 0) U10 := hK_N9.tr (kbZ hKU10)
      have h : RI ea U10 ns nj nm nt nr nq := h1.keepZ hK_U10
      have hA41 : A41 s0 U10 := hA41.kq hKU10 rfl
      have hn19 : ∀ x, 0 ≤ x → ¬ vV U10 19 x := fun x hx9 => by rw [hKU10.V (t := 19) (i := x) rfl]; exact hn19 x hx9
      have hn18 : ∀ x, 1 ≤ x → ¬ vV U10 18 x := fun x hx9 => by rw [hKU10.V (t := 18) (i := x) rfl]; exact hn18 x hx9
      refine lv_aload_n hx hb dX16_tell_102 rfl (lv_at hl 0 rfl) ?_
      refine lv_aload_n hx hb dX16_tell_103 rfl (lv_at hl 1 rfl) ?_
      refine rE0 ((rfl).trans ((hK_U10.G (t := 15) (i := j3) rfl)).symm) ?_
      refine cV (S := U10) (nA := 0) (As := []) (rest := [.ref (gG (sArr (sI S 256 0 0) 41 0 q41 4) 41 0), .ref (gG (sNew Sx 18 0 q8) 18 0)]) X w hl (h.e_ta j3 hlj3).2 (m_X15_sort G U10 j3 (h.e_ta j3 hlj3).2) wY_X15_sort wM_X16_135 wIn_X15_sort wSe_X15_X15_sort wI_X15 (by decide) rfl (by decide +kernel) rfl rfl dX16_tell_104 ⟨by decide, by decide⟩ (Nat.le_of_ble_eq_true rfl) (⟨Nat.le_of_ble_eq_true rfl, Nat.le_of_ble_eq_true rfl⟩) (fun v12 S1 H locs hp w => ?_)
      obtain ⟨rfl, rfl⟩ := hp
      refine rE1 ((rfl).trans ((hKU10.G (t := 41) (i := 0) rfl).trans (((show gG (sNew Sx 18 0 q8) 41 0 = gG Sx 41 0 from gNew_n (fun z => by omega))).trans (((show gG Sx 41 0 = gG (sB (sB (sB (sB (sArr (sI S 256 0 0) 41 0 q41 4) 41 0 (va_up (mB (sArr (sI S 256 0 0) 41 0 q41 4) 41 0) (0 : Int32).toNatClampNeg (some (saOf s0 "CavershamShiftModel" 317)))) 41 0 (va_up (mB (sB (sArr (sI S 256 0 0) 41 0 q41 4) 41 0 (va_up (mB (sArr (sI S 256 0 0) 41 0 q41 4) 41 0) (0 : Int32).toNatClampNeg (some (saOf s0 "CavershamShiftModel" 317)))) 41 0) (1 : Int32).toNatClampNeg (some (saOf s0 "CavershamShiftModel" 319)))) 41 0 (va_up (mB (sB (sB (sArr (sI S 256 0 0) 41 0 q41 4) 41 0 (va_up (mB (sArr (sI S 256 0 0) 41 0 q41 4) 41 0) (0 : Int32).toNatClampNeg (some (saOf s0 "CavershamShiftModel" 317)))) 41 0 (va_up (mB (sB (sArr (sI S 256 0 0) 41 0 q41 4) 41 0 (va_up (mB (sArr (sI S 256 0 0) 41 0 q41 4) 41 0) (0 : Int32).toNatClampNeg (some (saOf s0 "CavershamShiftModel" 317)))) 41 0) (1 : Int32).toNatClampNeg (some (saOf s0 "CavershamShiftModel" 319)))) 41 0) (2 : Int32).toNatClampNeg (some (saOf s0 "CavershamShiftModel" 321)))) 41 0 (va_up (mB (sB (sB (sB (sArr (sI S 256 0 0) 41 0 q41 4) 41 0 (va_up (mB (sArr (sI S 256 0 0) 41 0 q41 4) 41 0) (0 : Int32).toNatClampNeg (some (saOf s0 "CavershamShiftModel" 317)))) 41 0 (va_up (mB (sB (sArr (sI S 256 0 0) 41 0 q41 4) 41 0 (va_up (mB (sArr (sI S 256 0 0) 41 0 q41 4) 41 0) (0 : Int32).toNatClampNeg (some (saOf s0 "CavershamShiftModel" 317)))) 41 0) (1 : Int32).toNatClampNeg (some (saOf s0 "CavershamShiftModel" 319)))) 41 0 (va_up (mB (sB (sB (sArr (sI S 256 0 0) 41 0 q41 4) 41 0 (va_up (mB (sArr (sI S 256 0 0) 41 0 q41 4) 41 0) (0 : Int32).toNatClampNeg (some (saOf s0 "CavershamShiftModel" 317)))) 41 0 (va_up (mB (sB (sArr (sI S 256 0 0) 41 0 q41 4) 41 0 (va_up (mB (sArr (sI S 256 0 0) 41 0 q41 4) 41 0) (0 : Int32).toNatClampNeg (some (saOf s0 "CavershamShiftModel" 317)))) 41 0) (1 : Int32).toNatClampNeg (some (saOf s0 "CavershamShiftModel" 319)))) 41 0) (2 : Int32).toNatClampNeg (some (saOf s0 "CavershamShiftModel" 321)))) 41 0) (3 : Int32).toNatClampNeg (some (saOf s0 "CavershamShiftModel" 323)))) 41 0 by rw [eSx])).trans ((rfl).trans ((rfl).trans ((rfl).trans ((rfl).trans (rfl)))))))).symm) ?_
      obtain ⟨gb13, hgb13, egb13⟩ := rSort_in (mI U10 244 j3)
      obtain ⟨b13, wb13, ebb13, hcb13, hwb13⟩ := hA41.2.2 gb13 hgb13
      refine aLdR (S := U10) (t := 41) (v := some b13) X w hA41.1 (by decide) rfl rfl (Or.inl ⟨_, rfl⟩) (by rw [egb13, hA41.2.1]; exact nI_vp hgb13 (by decide)) (by rw [egb13, cl_nI hgb13 (by decide)]; exact ebb13) dX16_tell_107 ?_
      refine rE1 ((rfl).trans ((hKU10.G (t := 18) (i := 0) rfl).trans (rfl)).symm) ?_
      refine cV (S := U10) (nA := 1) (As := [.ref b13]) (rest := []) X w hl hB.hv (m_J4_append_15ec4 G U10 0 0 0 16 b13 wb13 hB (Or.inl hcb13) (by omega)) wY_J4_append_15ec4 wM_X16_332 wIn_J4_append_15ec4 wSe_J4_J4_append_15ec4 wI_J4 (by decide) rfl (by decide +kernel) rfl rfl dX16_tell_108 ⟨Nat.le_of_ble_eq_true rfl, Nat.le_of_ble_eq_true rfl⟩ (Nat.le_of_ble_eq_true rfl) (⟨Nat.le_of_ble_eq_true rfl, Nat.le_of_ble_eq_true rfl⟩) (fun v15 U14 H locs hp w => ?_)
      obtain ⟨rfl, kU14, mU14, hBU14, hkU14, hKU14⟩ := hp
      have hK_U14 : KZ (sI S 256 0 0) U14 := hK_U10.tr (kbZ hKU14)
      have h : RI ea U14 ns nj nm nt nr nq := h1.keepZ hK_U14
      have hA41 : A41 s0 U14 := hA41.kq hKU14 rfl
      have hn19 : ∀ x, 0 ≤ x → ¬ vV U14 19 x := fun x hx9 => by rw [hKU14.V (t := 19) (i := x) rfl]; exact hn19 x hx9
      have hn18 : ∀ x, 1 ≤ x → ¬ vV U14 18 x := fun x hx9 => by rw [hKU14.V (t := 18) (i := x) rfl]; exact hn18 x hx9
      refine lv_aload_n hx hb dX16_tell_111 rfl (lv_at hl 1 rfl) ?_
      refine rE0 ((rfl).trans ((hK_U14.G (t := 15) (i := j3) rfl)).symm) ?_
      refine g_15_7 (S := U14) (x := (mI U14 247 j3)) X w (h.e_ta j3 hlj3).2 wF_X16_144 (rfl) dX16_tell_112 ?_
      refine lv_iconst (v := 1) hx hb dX16_tell_115 (by decide) ?_
      refine lv_icmp_ne (tgt := 125) hx hb dX16_tell_116 (by decide) (fun hc16 => ?_) (fun hc16 => ?_)
      · refine lv_aload_n hx hb dX16_tell_125 rfl (lv_at hl 1 rfl) ?_
        refine rE0 ((rfl).trans ((hK_U14.G (t := 15) (i := j3) rfl)).symm) ?_
        refine g_15_7 (S := U14) (x := (mI U14 247 j3)) X w (h.e_ta j3 hlj3).2 wF_X16_144 (rfl) dX16_tell_126 ?_
        refine lv_iconst (v := 2) hx hb dX16_tell_129 (by decide) ?_
        refine lv_icmp_ne (tgt := 139) hx hb dX16_tell_130 (by decide) (fun hc17 => ?_) (fun hc17 => ?_)
        · refine lv_aload_n hx hb dX16_tell_139 rfl (lv_at hl 1 rfl) ?_
          refine rE0 ((rfl).trans ((hK_U14.G (t := 15) (i := j3) rfl)).symm) ?_
          refine g_15_7 (S := U14) (x := (mI U14 247 j3)) X w (h.e_ta j3 hlj3).2 wF_X16_144 (rfl) dX16_tell_140 ?_
          refine lv_iconst (v := 3) hx hb dX16_tell_143 (by decide) ?_
          refine lv_icmp_ne (tgt := 153) hx hb dX16_tell_144 (by decide) (fun hc18 => ?_) (fun hc18 => ?_)
          · refine ldS X wS9_X16_313 dX16_tell_153 ?_
            refine cV (S := U14) (nA := 1) (As := [.ref (saOf s0 "CavershamShiftModel" 313)]) (rest := []) X w hl hBU14.hv (m_J4_append_15ec4 G U14 0 kU14 (0 + wb13) mU14 (saOf s0 "CavershamShiftModel" 313) 0 hBU14 (Or.inl (cs_X16_313 G)) (by omega)) wY_J4_append_15ec4 wM_X16_332 wIn_J4_append_15ec4 wSe_J4_J4_append_15ec4 wI_J4 (by decide) rfl (by decide +kernel) rfl rfl dX16_tell_156 ⟨Nat.le_of_ble_eq_true rfl, Nat.le_of_ble_eq_true rfl⟩ (Nat.le_of_ble_eq_true rfl) (⟨Nat.le_of_ble_eq_true rfl, Nat.le_of_ble_eq_true rfl⟩) (fun v20 U19 H locs hp w => ?_)
            obtain ⟨rfl, kU19, mU19, hBU19, hkU19, hKU19⟩ := hp
            have hK_U19 : KZ (sI S 256 0 0) U19 := hK_U14.tr (kbZ hKU19)
            have h : RI ea U19 ns nj nm nt nr nq := h1.keepZ hK_U19
            have hA41 : A41 s0 U19 := hA41.kq hKU19 rfl
            have hn19 : ∀ x, 0 ≤ x → ¬ vV U19 19 x := fun x hx9 => by rw [hKU19.V (t := 19) (i := x) rfl]; exact hn19 x hx9
            have hn18 : ∀ x, 1 ≤ x → ¬ vV U19 18 x := fun x hx9 => by rw [hKU19.V (t := 18) (i := x) rfl]; exact hn18 x hx9
            refine cV (S := U19) (nA := 0) (As := []) (rest := []) X w hl hBU19.hv (m_J4_toString_0e30d G U19 0 0 kU19 ((0 + wb13) + 0) mU19 hBU19 (hn19 0 (Nat.le_refl _))) wY_J4_toString_0e30d wM_X16_342 wIn_J4_toString_0e30d wSe_J4_J4_toString_0e30d wI_J4 (by decide) rfl (by decide +kernel) rfl rfl dX16_tell_159 ⟨Nat.le_of_ble_eq_true rfl, Nat.le_of_ble_eq_true rfl⟩ (Nat.le_of_ble_eq_true rfl) (⟨Nat.le_of_ble_eq_true rfl, Nat.le_of_ble_eq_true rfl⟩) (fun v23 U21 H locs hp w => ?_)
            obtain ⟨eaa22, hSa22, h42U21, h19U21, hTU21⟩ := hp
            obtain ⟨a22, ea22⟩ : ∃ z, z = gG U21 19 0 := ⟨_, rfl⟩
            rw [← ea22] at eaa22 hSa22
            subst eaa22
            have hK_U21 : KZ (sI S 256 0 0) U21 := hK_U19.tr (ktZ hTU21)
            have h : RI ea U21 ns nj nm nt nr nq := h1.keepZ hK_U21
            have hA41 : A41 s0 U21 := hA41.kq hTU21 rfl
            have hn19 : ∀ x, 1 ≤ x → ¬ vV U21 19 x := fun x hx9 => by rw [h19U21 x (by omega)]; exact hn19 x (by omega)
            have hn18 : ∀ x, 1 ≤ x → ¬ vV U21 18 x := fun x hx9 => by rw [hTU21.V (t := 18) (i := x) rfl]; exact hn18 x hx9
            refine lv_astore (lv' := [(4, .ref a22), (3, .ref (gG (sArr (sI S 256 0 0) 41 0 q41 4) 41 0)), (2, .ref (gG (sI S 256 0 0) 15 j3)), (0, .ref (gG S 16 0)), (1, .int (nI j3))]) hx hb dX16_tell_162 hl (by decide) rfl (fun ls hl => ?_)
            refine nwO (S := U21) (t := 18) (n := 4) X w 1 (hn18 1 (Nat.le_refl _)) (Or.inl (by decide)) (by decide) rfl in_18 tyJ4 tyJ4_ok (by decide +kernel) wC_X16_329 wNew_J4 wI_J4 dX16_tell_164 rfl (Nat.le_of_ble_eq_true rfl) (Nat.le_of_ble_eq_true rfl) (fun q24 S2 H hS2 w => ?_)
            subst hS2
            have hK_N25 : KZ (sI S 256 0 0) (sNew U21 18 1 q24) := hK_U21.new rfl (by decide) (fun f z => hz18 f z) (fun f z => hz18 f z)
            have h : RI ea (sNew U21 18 1 q24) ns nj nm nt nr nq := h1.keepZ hK_N25
            have hA41 : A41 s0 (sNew U21 18 1 q24) := hA41.new
            have hn19 : ∀ x, 1 ≤ x → ¬ vV (sNew U21 18 1 q24) 19 x := fun x hx9 v => v.elim (hn19 x hx9) (fun z => absurd z.1 (by decide))
            have hn18 : ∀ x, 2 ≤ x → ¬ vV (sNew U21 18 1 q24) 18 x := fun x hx9 v => v.elim (hn18 x (by omega)) (fun z => by omega)
            have hSa22 : SA s0 (sNew U21 18 1 q24) (kU19 + 2) a22 ((0 + wb13) + 0) := SA.new18 hSa22
            refine lv_dup hx hb dX16_tell_167 rfl ?_
            refine cI (S := (sNew U21 18 1 q24)) (nA := 0) (As := []) (rest := [.ref (gG (sNew U21 18 1 q24) 18 1)]) X w hl (m_J4_init_da8c8 G (sNew U21 18 1 q24) 1 (kU19 + 2) (Or.inr ⟨rfl, rfl⟩) (nwI_0 rfl) (fun j hj9 v => v.elim (h42U21 j hj9) (fun z => absurd z.1 (by decide)))) wY_J4_init_da8c8 wM_X16_331 wIn_J4_init_da8c8 wI_J4 rfl (by decide +kernel) rfl rfl dX16_tell_168 ⟨by decide, by decide⟩ (Nat.le_of_ble_eq_true rfl) (⟨Nat.le_of_ble_eq_true rfl, Nat.le_of_ble_eq_true rfl⟩) (fun v27 U26 H locs hp w => ?_)
            obtain ⟨rfl, hB, hKU26⟩ := hp
            have hK_U26 : KZ (sI S 256 0 0) U26 := hK_N25.tr (kbZ hKU26)
            have h : RI ea U26 ns nj nm nt nr nq := h1.keepZ hK_U26
            have hA41 : A41 s0 U26 := hA41.kq hKU26 rfl
            have hn19 : ∀ x, 1 ≤ x → ¬ vV U26 19 x := fun x hx9 => by rw [hKU26.V (t := 19) (i := x) rfl]; exact hn19 x hx9
            have hn18 : ∀ x, 2 ≤ x → ¬ vV U26 18 x := fun x hx9 => by rw [hKU26.V (t := 18) (i := x) rfl]; exact hn18 x hx9
            have hSa22 := hSa22.keep hKU26 (Nat.le_refl _)
            refine lv_iload_n hx hb dX16_tell_171 rfl (lv_at hl 4 rfl) ?_
            refine rE1 ((rfl).trans ((hKU26.G (t := 18) (i := 1) rfl).trans (rfl)).symm) ?_
            refine cV (S := U26) (nA := 1) (As := [.int (nI j3)]) (rest := []) X w hl hB.hv (m_J4_append_bf812 G U26 1 (kU19 + 2) 0 16 j3 hB (by omega) (by omega)) wY_J4_append_bf812 wM_X16_346 wIn_J4_append_bf812 wSe_J4_J4_append_bf812 wI_J4 (by decide) rfl (by decide +kernel) rfl rfl dX16_tell_172 ⟨Nat.le_of_ble_eq_true rfl, Nat.le_of_ble_eq_true rfl⟩ (Nat.le_of_ble_eq_true rfl) (⟨Nat.le_of_ble_eq_true rfl, Nat.le_of_ble_eq_true rfl⟩) (fun v29 U28 H locs hp w => ?_)
            obtain ⟨rfl, kU28, mU28, dU28, hdU28, hBU28, hkU28, hKU28⟩ := hp
            have hSa22 := hSa22.keep hKU28 hkU28
            have hK_U28 : KZ (sI S 256 0 0) U28 := hK_U26.tr (kbZ hKU28)
            have h : RI ea U28 ns nj nm nt nr nq := h1.keepZ hK_U28
            have hA41 : A41 s0 U28 := hA41.kq hKU28 rfl
            have hn19 : ∀ x, 1 ≤ x → ¬ vV U28 19 x := fun x hx9 => by rw [hKU28.V (t := 19) (i := x) rfl]; exact hn19 x hx9
            have hn18 : ∀ x, 2 ≤ x → ¬ vV U28 18 x := fun x hx9 => by rw [hKU28.V (t := 18) (i := x) rfl]; exact hn18 x hx9
            refine ldS X wS9_X16_349 dX16_tell_175 ?_
            refine cV (S := U28) (nA := 1) (As := [.ref (saOf s0 "CavershamShiftModel" 349)]) (rest := []) X w hl hBU28.hv (m_J4_append_15ec4 G U28 1 kU28 (0 + dU28) mU28 (saOf s0 "CavershamShiftModel" 349) 2 hBU28 (Or.inl (cs_X16_349 G)) (by omega)) wY_J4_append_15ec4 wM_X16_332 wIn_J4_append_15ec4 wSe_J4_J4_append_15ec4 wI_J4 (by decide) rfl (by decide +kernel) rfl rfl dX16_tell_178 ⟨Nat.le_of_ble_eq_true rfl, Nat.le_of_ble_eq_true rfl⟩ (Nat.le_of_ble_eq_true rfl) (⟨Nat.le_of_ble_eq_true rfl, Nat.le_of_ble_eq_true rfl⟩) (fun v31 U30 H locs hp w => ?_)
            obtain ⟨rfl, kU30, mU30, hBU30, hkU30, hKU30⟩ := hp
            have hSa22 := hSa22.keep hKU30 hkU30
            have hK_U30 : KZ (sI S 256 0 0) U30 := hK_U28.tr (kbZ hKU30)
            have h : RI ea U30 ns nj nm nt nr nq := h1.keepZ hK_U30
            have hA41 : A41 s0 U30 := hA41.kq hKU30 rfl
            have hn19 : ∀ x, 1 ≤ x → ¬ vV U30 19 x := fun x hx9 => by rw [hKU30.V (t := 19) (i := x) rfl]; exact hn19 x hx9
            have hn18 : ∀ x, 2 ≤ x → ¬ vV U30 18 x := fun x hx9 => by rw [hKU30.V (t := 18) (i := x) rfl]; exact hn18 x hx9
            refine lv_aload_n hx hb dX16_tell_181 rfl (lv_at hl 2 rfl) ?_
            refine rE0 ((rfl).trans ((hK_U30.G (t := 15) (i := j3) rfl)).symm) ?_
            obtain ⟨g32, hlg32, heg32⟩ := h.x_ts j3 hlj3
            refine g_15_0 (S := U30) (x := (nI g32)) X w (h.e_ta j3 hlj3).2 wF_X16_104 (heg32) dX16_tell_182 ?_
            refine cV (S := U30) (nA := 1) (As := [.int (nI g32)]) (rest := []) X w hl hBU30.hv (m_J4_append_bf812 G U30 1 kU30 ((0 + dU28) + 2) mU30 g32 hBU30 (by omega) (by omega)) wY_J4_append_bf812 wM_X16_346 wIn_J4_append_bf812 wSe_J4_J4_append_bf812 wI_J4 (by decide) rfl (by decide +kernel) rfl rfl dX16_tell_185 ⟨Nat.le_of_ble_eq_true rfl, Nat.le_of_ble_eq_true rfl⟩ (Nat.le_of_ble_eq_true rfl) (⟨Nat.le_of_ble_eq_true rfl, Nat.le_of_ble_eq_true rfl⟩) (fun v34 U33 H locs hp w => ?_)
            obtain ⟨rfl, kU33, mU33, dU33, hdU33, hBU33, hkU33, hKU33⟩ := hp
            have hSa22 := hSa22.keep hKU33 hkU33
            have hK_U33 : KZ (sI S 256 0 0) U33 := hK_U30.tr (kbZ hKU33)
            have h : RI ea U33 ns nj nm nt nr nq := h1.keepZ hK_U33
            have hA41 : A41 s0 U33 := hA41.kq hKU33 rfl
            have hn19 : ∀ x, 1 ≤ x → ¬ vV U33 19 x := fun x hx9 => by rw [hKU33.V (t := 19) (i := x) rfl]; exact hn19 x hx9
            have hn18 : ∀ x, 2 ≤ x → ¬ vV U33 18 x := fun x hx9 => by rw [hKU33.V (t := 18) (i := x) rfl]; exact hn18 x hx9
            refine ldS X wS9_X16_351 dX16_tell_188 ?_
            refine cV (S := U33) (nA := 1) (As := [.ref (saOf s0 "CavershamShiftModel" 351)]) (rest := []) X w hl hBU33.hv (m_J4_append_15ec4 G U33 1 kU33 (((0 + dU28) + 2) + dU33) mU33 (saOf s0 "CavershamShiftModel" 351) 4 hBU33 (Or.inl (cs_X16_351 G)) (by omega)) wY_J4_append_15ec4 wM_X16_332 wIn_J4_append_15ec4 wSe_J4_J4_append_15ec4 wI_J4 (by decide) rfl (by decide +kernel) rfl rfl dX16_tell_191 ⟨Nat.le_of_ble_eq_true rfl, Nat.le_of_ble_eq_true rfl⟩ (Nat.le_of_ble_eq_true rfl) (⟨Nat.le_of_ble_eq_true rfl, Nat.le_of_ble_eq_true rfl⟩) (fun v36 U35 H locs hp w => ?_)
            obtain ⟨rfl, kU35, mU35, hBU35, hkU35, hKU35⟩ := hp
            have hSa22 := hSa22.keep hKU35 hkU35
            have hK_U35 : KZ (sI S 256 0 0) U35 := hK_U33.tr (kbZ hKU35)
            have h : RI ea U35 ns nj nm nt nr nq := h1.keepZ hK_U35
            have hA41 : A41 s0 U35 := hA41.kq hKU35 rfl
            have hn19 : ∀ x, 1 ≤ x → ¬ vV U35 19 x := fun x hx9 => by rw [hKU35.V (t := 19) (i := x) rfl]; exact hn19 x hx9
            have hn18 : ∀ x, 2 ≤ x → ¬ vV U35 18 x := fun x hx9 => by rw [hKU35.V (t := 18) (i := x) rfl]; exact hn18 x hx9
            refine lv_aload_n hx hb dX16_tell_194 rfl (lv_at hl 2 rfl) ?_
            refine rE0 ((rfl).trans ((hK_U35.G (t := 15) (i := j3) rfl)).symm) ?_
            obtain ⟨g37, hlg37, heg37⟩ := h.x_th j3 hlj3
            refine g_15_1 (S := U35) (x := (nI g37)) X w (h.e_ta j3 hlj3).2 wF_X16_112 (heg37) dX16_tell_195 ?_
            refine cV (S := U35) (nA := 1) (As := [.int (nI g37)]) (rest := []) X w hl hBU35.hv (m_J4_append_bf812 G U35 1 kU35 ((((0 + dU28) + 2) + dU33) + 4) mU35 g37 hBU35 (by omega) (by omega)) wY_J4_append_bf812 wM_X16_346 wIn_J4_append_bf812 wSe_J4_J4_append_bf812 wI_J4 (by decide) rfl (by decide +kernel) rfl rfl dX16_tell_198 ⟨Nat.le_of_ble_eq_true rfl, Nat.le_of_ble_eq_true rfl⟩ (Nat.le_of_ble_eq_true rfl) (⟨Nat.le_of_ble_eq_true rfl, Nat.le_of_ble_eq_true rfl⟩) (fun v39 U38 H locs hp w => ?_)
            obtain ⟨rfl, kU38, mU38, dU38, hdU38, hBU38, hkU38, hKU38⟩ := hp
            have hSa22 := hSa22.keep hKU38 hkU38
            have hK_U38 : KZ (sI S 256 0 0) U38 := hK_U35.tr (kbZ hKU38)
            have h : RI ea U38 ns nj nm nt nr nq := h1.keepZ hK_U38
            have hA41 : A41 s0 U38 := hA41.kq hKU38 rfl
            have hn19 : ∀ x, 1 ≤ x → ¬ vV U38 19 x := fun x hx9 => by rw [hKU38.V (t := 19) (i := x) rfl]; exact hn19 x hx9
            have hn18 : ∀ x, 2 ≤ x → ¬ vV U38 18 x := fun x hx9 => by rw [hKU38.V (t := 18) (i := x) rfl]; exact hn18 x hx9
            refine ldS X wS9_X16_353 dX16_tell_201 ?_
            refine cV (S := U38) (nA := 1) (As := [.ref (saOf s0 "CavershamShiftModel" 353)]) (rest := []) X w hl hBU38.hv (m_J4_append_15ec4 G U38 1 kU38 (((((0 + dU28) + 2) + dU33) + 4) + dU38) mU38 (saOf s0 "CavershamShiftModel" 353) 2 hBU38 (Or.inl (cs_X16_353 G)) (by omega)) wY_J4_append_15ec4 wM_X16_332 wIn_J4_append_15ec4 wSe_J4_J4_append_15ec4 wI_J4 (by decide) rfl (by decide +kernel) rfl rfl dX16_tell_204 ⟨Nat.le_of_ble_eq_true rfl, Nat.le_of_ble_eq_true rfl⟩ (Nat.le_of_ble_eq_true rfl) (⟨Nat.le_of_ble_eq_true rfl, Nat.le_of_ble_eq_true rfl⟩) (fun v41 U40 H locs hp w => ?_)
            obtain ⟨rfl, kU40, mU40, hBU40, hkU40, hKU40⟩ := hp
            have hSa22 := hSa22.keep hKU40 hkU40
            have hK_U40 : KZ (sI S 256 0 0) U40 := hK_U38.tr (kbZ hKU40)
            have h : RI ea U40 ns nj nm nt nr nq := h1.keepZ hK_U40
            have hA41 : A41 s0 U40 := hA41.kq hKU40 rfl
            have hn19 : ∀ x, 1 ≤ x → ¬ vV U40 19 x := fun x hx9 => by rw [hKU40.V (t := 19) (i := x) rfl]; exact hn19 x hx9
            have hn18 : ∀ x, 2 ≤ x → ¬ vV U40 18 x := fun x hx9 => by rw [hKU40.V (t := 18) (i := x) rfl]; exact hn18 x hx9
            refine lv_aload hx hb dX16_tell_207 (lv_at hl 0 rfl) ?_
            refine cV (S := U40) (nA := 1) (As := [.ref a22]) (rest := []) X w hl hBU40.hv (m_J4_append_15ec4 G U40 1 kU40 ((((((0 + dU28) + 2) + dU33) + 4) + dU38) + 2) mU40 a22 ((0 + wb13) + 0) hBU40 hSa22 (by omega)) wY_J4_append_15ec4 wM_X16_332 wIn_J4_append_15ec4 wSe_J4_J4_append_15ec4 wI_J4 (by decide) rfl (by decide +kernel) rfl rfl dX16_tell_209 ⟨Nat.le_of_ble_eq_true rfl, Nat.le_of_ble_eq_true rfl⟩ (Nat.le_of_ble_eq_true rfl) (⟨Nat.le_of_ble_eq_true rfl, Nat.le_of_ble_eq_true rfl⟩) (fun v43 U42 H locs hp w => ?_)
            obtain ⟨rfl, kU42, mU42, hBU42, hkU42, hKU42⟩ := hp
            have hSa22 := hSa22.keep hKU42 hkU42
            have hK_U42 : KZ (sI S 256 0 0) U42 := hK_U40.tr (kbZ hKU42)
            have h : RI ea U42 ns nj nm nt nr nq := h1.keepZ hK_U42
            have hA41 : A41 s0 U42 := hA41.kq hKU42 rfl
            have hn19 : ∀ x, 1 ≤ x → ¬ vV U42 19 x := fun x hx9 => by rw [hKU42.V (t := 19) (i := x) rfl]; exact hn19 x hx9
            have hn18 : ∀ x, 2 ≤ x → ¬ vV U42 18 x := fun x hx9 => by rw [hKU42.V (t := 18) (i := x) rfl]; exact hn18 x hx9
            refine cV (S := U42) (nA := 0) (As := []) (rest := []) X w hl hBU42.hv (m_J4_toString_0e30d G U42 1 1 kU42 (((((((0 + dU28) + 2) + dU33) + 4) + dU38) + 2) + ((0 + wb13) + 0)) mU42 hBU42 (hn19 1 (Nat.le_refl _))) wY_J4_toString_0e30d wM_X16_342 wIn_J4_toString_0e30d wSe_J4_J4_toString_0e30d wI_J4 (by decide) rfl (by decide +kernel) rfl rfl dX16_tell_212 ⟨Nat.le_of_ble_eq_true rfl, Nat.le_of_ble_eq_true rfl⟩ (Nat.le_of_ble_eq_true rfl) (⟨Nat.le_of_ble_eq_true rfl, Nat.le_of_ble_eq_true rfl⟩) (fun v46 U44 H locs hp w => ?_)
            obtain ⟨eaa45, hSa45, h42U44, h19U44, hTU44⟩ := hp
            obtain ⟨a45, ea45⟩ : ∃ z, z = gG U44 19 1 := ⟨_, rfl⟩
            rw [← ea45] at eaa45 hSa45
            subst eaa45
            have hK_U44 : KZ (sI S 256 0 0) U44 := hK_U42.tr (ktZ hTU44)
            have h : RI ea U44 ns nj nm nt nr nq := h1.keepZ hK_U44
            have hA41 : A41 s0 U44 := hA41.kq hTU44 rfl
            have hn19 : ∀ x, 2 ≤ x → ¬ vV U44 19 x := fun x hx9 => by rw [h19U44 x (by omega)]; exact hn19 x (by omega)
            have hn18 : ∀ x, 2 ≤ x → ¬ vV U44 18 x := fun x hx9 => by rw [hTU44.V (t := 18) (i := x) rfl]; exact hn18 x hx9
            exact rA (v := some a45) X (w.offZ hK_U44 hZs) rfl (Or.inl ⟨_, rfl⟩) dX16_tell_215 (Nat.le_of_ble_eq_true rfl) (Nat.le_of_ble_eq_true rfl) ⟨⟨_, rfl⟩, ⟨_, hea ▸ h1, hQ, hZr, hF.keepT hK1, (hK1.I (f := 257) (i := 0) rfl).trans hg⟩, kTR hK1⟩
          · refine ldS X wS9_X16_340 dX16_tell_147 ?_
            refine lv_goto (tgt := 156) hx hb dX16_tell_150 (by decide) ?_
            refine cV (S := U14) (nA := 1) (As := [.ref (saOf s0 "CavershamShiftModel" 340)]) (rest := []) X w hl hBU14.hv (m_J4_append_15ec4 G U14 0 kU14 (0 + wb13) mU14 (saOf s0 "CavershamShiftModel" 340) 6 hBU14 (Or.inl (cs_X16_340 G)) (by omega)) wY_J4_append_15ec4 wM_X16_332 wIn_J4_append_15ec4 wSe_J4_J4_append_15ec4 wI_J4 (by decide) rfl (by decide +kernel) rfl rfl dX16_tell_156 ⟨Nat.le_of_ble_eq_true rfl, Nat.le_of_ble_eq_true rfl⟩ (Nat.le_of_ble_eq_true rfl) (⟨Nat.le_of_ble_eq_true rfl, Nat.le_of_ble_eq_true rfl⟩) (fun v48 U47 H locs hp w => ?_)
            obtain ⟨rfl, kU47, mU47, hBU47, hkU47, hKU47⟩ := hp
            have hK_U47 : KZ (sI S 256 0 0) U47 := hK_U14.tr (kbZ hKU47)
            have h : RI ea U47 ns nj nm nt nr nq := h1.keepZ hK_U47
            have hA41 : A41 s0 U47 := hA41.kq hKU47 rfl
            have hn19 : ∀ x, 0 ≤ x → ¬ vV U47 19 x := fun x hx9 => by rw [hKU47.V (t := 19) (i := x) rfl]; exact hn19 x hx9
            have hn18 : ∀ x, 1 ≤ x → ¬ vV U47 18 x := fun x hx9 => by rw [hKU47.V (t := 18) (i := x) rfl]; exact hn18 x hx9
            refine cV (S := U47) (nA := 0) (As := []) (rest := []) X w hl hBU47.hv (m_J4_toString_0e30d G U47 0 0 kU47 ((0 + wb13) + 6) mU47 hBU47 (hn19 0 (Nat.le_refl _))) wY_J4_toString_0e30d wM_X16_342 wIn_J4_toString_0e30d wSe_J4_J4_toString_0e30d wI_J4 (by decide) rfl (by decide +kernel) rfl rfl dX16_tell_159 ⟨Nat.le_of_ble_eq_true rfl, Nat.le_of_ble_eq_true rfl⟩ (Nat.le_of_ble_eq_true rfl) (⟨Nat.le_of_ble_eq_true rfl, Nat.le_of_ble_eq_true rfl⟩) (fun v51 U49 H locs hp w => ?_)
            obtain ⟨eaa50, hSa50, h42U49, h19U49, hTU49⟩ := hp
            obtain ⟨a50, ea50⟩ : ∃ z, z = gG U49 19 0 := ⟨_, rfl⟩
            rw [← ea50] at eaa50 hSa50
            subst eaa50
            have hK_U49 : KZ (sI S 256 0 0) U49 := hK_U47.tr (ktZ hTU49)
            have h : RI ea U49 ns nj nm nt nr nq := h1.keepZ hK_U49
            have hA41 : A41 s0 U49 := hA41.kq hTU49 rfl
            have hn19 : ∀ x, 1 ≤ x → ¬ vV U49 19 x := fun x hx9 => by rw [h19U49 x (by omega)]; exact hn19 x (by omega)
            have hn18 : ∀ x, 1 ≤ x → ¬ vV U49 18 x := fun x hx9 => by rw [hTU49.V (t := 18) (i := x) rfl]; exact hn18 x hx9
            refine lv_astore (lv' := [(4, .ref a50), (3, .ref (gG (sArr (sI S 256 0 0) 41 0 q41 4) 41 0)), (2, .ref (gG (sI S 256 0 0) 15 j3)), (0, .ref (gG S 16 0)), (1, .int (nI j3))]) hx hb dX16_tell_162 hl (by decide) rfl (fun ls hl => ?_)
            refine nwO (S := U49) (t := 18) (n := 4) X w 1 (hn18 1 (Nat.le_refl _)) (Or.inl (by decide)) (by decide) rfl in_18 tyJ4 tyJ4_ok (by decide +kernel) wC_X16_329 wNew_J4 wI_J4 dX16_tell_164 rfl (Nat.le_of_ble_eq_true rfl) (Nat.le_of_ble_eq_true rfl) (fun q52 S2 H hS2 w => ?_)
            subst hS2
            have hK_N53 : KZ (sI S 256 0 0) (sNew U49 18 1 q52) := hK_U49.new rfl (by decide) (fun f z => hz18 f z) (fun f z => hz18 f z)
            have h : RI ea (sNew U49 18 1 q52) ns nj nm nt nr nq := h1.keepZ hK_N53
            have hA41 : A41 s0 (sNew U49 18 1 q52) := hA41.new
            have hn19 : ∀ x, 1 ≤ x → ¬ vV (sNew U49 18 1 q52) 19 x := fun x hx9 v => v.elim (hn19 x hx9) (fun z => absurd z.1 (by decide))
            have hn18 : ∀ x, 2 ≤ x → ¬ vV (sNew U49 18 1 q52) 18 x := fun x hx9 v => v.elim (hn18 x (by omega)) (fun z => by omega)
            have hSa50 : SA s0 (sNew U49 18 1 q52) (kU47 + 2) a50 ((0 + wb13) + 6) := SA.new18 hSa50
            refine lv_dup hx hb dX16_tell_167 rfl ?_
            refine cI (S := (sNew U49 18 1 q52)) (nA := 0) (As := []) (rest := [.ref (gG (sNew U49 18 1 q52) 18 1)]) X w hl (m_J4_init_da8c8 G (sNew U49 18 1 q52) 1 (kU47 + 2) (Or.inr ⟨rfl, rfl⟩) (nwI_0 rfl) (fun j hj9 v => v.elim (h42U49 j hj9) (fun z => absurd z.1 (by decide)))) wY_J4_init_da8c8 wM_X16_331 wIn_J4_init_da8c8 wI_J4 rfl (by decide +kernel) rfl rfl dX16_tell_168 ⟨by decide, by decide⟩ (Nat.le_of_ble_eq_true rfl) (⟨Nat.le_of_ble_eq_true rfl, Nat.le_of_ble_eq_true rfl⟩) (fun v55 U54 H locs hp w => ?_)
            obtain ⟨rfl, hB, hKU54⟩ := hp
            have hK_U54 : KZ (sI S 256 0 0) U54 := hK_N53.tr (kbZ hKU54)
            have h : RI ea U54 ns nj nm nt nr nq := h1.keepZ hK_U54
            have hA41 : A41 s0 U54 := hA41.kq hKU54 rfl
            have hn19 : ∀ x, 1 ≤ x → ¬ vV U54 19 x := fun x hx9 => by rw [hKU54.V (t := 19) (i := x) rfl]; exact hn19 x hx9
            have hn18 : ∀ x, 2 ≤ x → ¬ vV U54 18 x := fun x hx9 => by rw [hKU54.V (t := 18) (i := x) rfl]; exact hn18 x hx9
            have hSa50 := hSa50.keep hKU54 (Nat.le_refl _)
            refine lv_iload_n hx hb dX16_tell_171 rfl (lv_at hl 4 rfl) ?_
            refine rE1 ((rfl).trans ((hKU54.G (t := 18) (i := 1) rfl).trans (rfl)).symm) ?_
            refine cV (S := U54) (nA := 1) (As := [.int (nI j3)]) (rest := []) X w hl hB.hv (m_J4_append_bf812 G U54 1 (kU47 + 2) 0 16 j3 hB (by omega) (by omega)) wY_J4_append_bf812 wM_X16_346 wIn_J4_append_bf812 wSe_J4_J4_append_bf812 wI_J4 (by decide) rfl (by decide +kernel) rfl rfl dX16_tell_172 ⟨Nat.le_of_ble_eq_true rfl, Nat.le_of_ble_eq_true rfl⟩ (Nat.le_of_ble_eq_true rfl) (⟨Nat.le_of_ble_eq_true rfl, Nat.le_of_ble_eq_true rfl⟩) (fun v57 U56 H locs hp w => ?_)
            obtain ⟨rfl, kU56, mU56, dU56, hdU56, hBU56, hkU56, hKU56⟩ := hp
            have hSa50 := hSa50.keep hKU56 hkU56
            have hK_U56 : KZ (sI S 256 0 0) U56 := hK_U54.tr (kbZ hKU56)
            have h : RI ea U56 ns nj nm nt nr nq := h1.keepZ hK_U56
            have hA41 : A41 s0 U56 := hA41.kq hKU56 rfl
            have hn19 : ∀ x, 1 ≤ x → ¬ vV U56 19 x := fun x hx9 => by rw [hKU56.V (t := 19) (i := x) rfl]; exact hn19 x hx9
            have hn18 : ∀ x, 2 ≤ x → ¬ vV U56 18 x := fun x hx9 => by rw [hKU56.V (t := 18) (i := x) rfl]; exact hn18 x hx9
            refine ldS X wS9_X16_349 dX16_tell_175 ?_
            refine cV (S := U56) (nA := 1) (As := [.ref (saOf s0 "CavershamShiftModel" 349)]) (rest := []) X w hl hBU56.hv (m_J4_append_15ec4 G U56 1 kU56 (0 + dU56) mU56 (saOf s0 "CavershamShiftModel" 349) 2 hBU56 (Or.inl (cs_X16_349 G)) (by omega)) wY_J4_append_15ec4 wM_X16_332 wIn_J4_append_15ec4 wSe_J4_J4_append_15ec4 wI_J4 (by decide) rfl (by decide +kernel) rfl rfl dX16_tell_178 ⟨Nat.le_of_ble_eq_true rfl, Nat.le_of_ble_eq_true rfl⟩ (Nat.le_of_ble_eq_true rfl) (⟨Nat.le_of_ble_eq_true rfl, Nat.le_of_ble_eq_true rfl⟩) (fun v59 U58 H locs hp w => ?_)
            obtain ⟨rfl, kU58, mU58, hBU58, hkU58, hKU58⟩ := hp
            have hSa50 := hSa50.keep hKU58 hkU58
            have hK_U58 : KZ (sI S 256 0 0) U58 := hK_U56.tr (kbZ hKU58)
            have h : RI ea U58 ns nj nm nt nr nq := h1.keepZ hK_U58
            have hA41 : A41 s0 U58 := hA41.kq hKU58 rfl
            have hn19 : ∀ x, 1 ≤ x → ¬ vV U58 19 x := fun x hx9 => by rw [hKU58.V (t := 19) (i := x) rfl]; exact hn19 x hx9
            have hn18 : ∀ x, 2 ≤ x → ¬ vV U58 18 x := fun x hx9 => by rw [hKU58.V (t := 18) (i := x) rfl]; exact hn18 x hx9
            refine lv_aload_n hx hb dX16_tell_181 rfl (lv_at hl 2 rfl) ?_
            refine rE0 ((rfl).trans ((hK_U58.G (t := 15) (i := j3) rfl)).symm) ?_
            obtain ⟨g60, hlg60, heg60⟩ := h.x_ts j3 hlj3
            refine g_15_0 (S := U58) (x := (nI g60)) X w (h.e_ta j3 hlj3).2 wF_X16_104 (heg60) dX16_tell_182 ?_
            refine cV (S := U58) (nA := 1) (As := [.int (nI g60)]) (rest := []) X w hl hBU58.hv (m_J4_append_bf812 G U58 1 kU58 ((0 + dU56) + 2) mU58 g60 hBU58 (by omega) (by omega)) wY_J4_append_bf812 wM_X16_346 wIn_J4_append_bf812 wSe_J4_J4_append_bf812 wI_J4 (by decide) rfl (by decide +kernel) rfl rfl dX16_tell_185 ⟨Nat.le_of_ble_eq_true rfl, Nat.le_of_ble_eq_true rfl⟩ (Nat.le_of_ble_eq_true rfl) (⟨Nat.le_of_ble_eq_true rfl, Nat.le_of_ble_eq_true rfl⟩) (fun v62 U61 H locs hp w => ?_)
            obtain ⟨rfl, kU61, mU61, dU61, hdU61, hBU61, hkU61, hKU61⟩ := hp
            have hSa50 := hSa50.keep hKU61 hkU61
            have hK_U61 : KZ (sI S 256 0 0) U61 := hK_U58.tr (kbZ hKU61)
            have h : RI ea U61 ns nj nm nt nr nq := h1.keepZ hK_U61
            have hA41 : A41 s0 U61 := hA41.kq hKU61 rfl
            have hn19 : ∀ x, 1 ≤ x → ¬ vV U61 19 x := fun x hx9 => by rw [hKU61.V (t := 19) (i := x) rfl]; exact hn19 x hx9
            have hn18 : ∀ x, 2 ≤ x → ¬ vV U61 18 x := fun x hx9 => by rw [hKU61.V (t := 18) (i := x) rfl]; exact hn18 x hx9
            refine ldS X wS9_X16_351 dX16_tell_188 ?_
            refine cV (S := U61) (nA := 1) (As := [.ref (saOf s0 "CavershamShiftModel" 351)]) (rest := []) X w hl hBU61.hv (m_J4_append_15ec4 G U61 1 kU61 (((0 + dU56) + 2) + dU61) mU61 (saOf s0 "CavershamShiftModel" 351) 4 hBU61 (Or.inl (cs_X16_351 G)) (by omega)) wY_J4_append_15ec4 wM_X16_332 wIn_J4_append_15ec4 wSe_J4_J4_append_15ec4 wI_J4 (by decide) rfl (by decide +kernel) rfl rfl dX16_tell_191 ⟨Nat.le_of_ble_eq_true rfl, Nat.le_of_ble_eq_true rfl⟩ (Nat.le_of_ble_eq_true rfl) (⟨Nat.le_of_ble_eq_true rfl, Nat.le_of_ble_eq_true rfl⟩) (fun v64 U63 H locs hp w => ?_)
            obtain ⟨rfl, kU63, mU63, hBU63, hkU63, hKU63⟩ := hp
            have hSa50 := hSa50.keep hKU63 hkU63
            have hK_U63 : KZ (sI S 256 0 0) U63 := hK_U61.tr (kbZ hKU63)
            have h : RI ea U63 ns nj nm nt nr nq := h1.keepZ hK_U63
            have hA41 : A41 s0 U63 := hA41.kq hKU63 rfl
            have hn19 : ∀ x, 1 ≤ x → ¬ vV U63 19 x := fun x hx9 => by rw [hKU63.V (t := 19) (i := x) rfl]; exact hn19 x hx9
            have hn18 : ∀ x, 2 ≤ x → ¬ vV U63 18 x := fun x hx9 => by rw [hKU63.V (t := 18) (i := x) rfl]; exact hn18 x hx9
            refine lv_aload_n hx hb dX16_tell_194 rfl (lv_at hl 2 rfl) ?_
            refine rE0 ((rfl).trans ((hK_U63.G (t := 15) (i := j3) rfl)).symm) ?_
            obtain ⟨g65, hlg65, heg65⟩ := h.x_th j3 hlj3
            refine g_15_1 (S := U63) (x := (nI g65)) X w (h.e_ta j3 hlj3).2 wF_X16_112 (heg65) dX16_tell_195 ?_
            refine cV (S := U63) (nA := 1) (As := [.int (nI g65)]) (rest := []) X w hl hBU63.hv (m_J4_append_bf812 G U63 1 kU63 ((((0 + dU56) + 2) + dU61) + 4) mU63 g65 hBU63 (by omega) (by omega)) wY_J4_append_bf812 wM_X16_346 wIn_J4_append_bf812 wSe_J4_J4_append_bf812 wI_J4 (by decide) rfl (by decide +kernel) rfl rfl dX16_tell_198 ⟨Nat.le_of_ble_eq_true rfl, Nat.le_of_ble_eq_true rfl⟩ (Nat.le_of_ble_eq_true rfl) (⟨Nat.le_of_ble_eq_true rfl, Nat.le_of_ble_eq_true rfl⟩) (fun v67 U66 H locs hp w => ?_)
            obtain ⟨rfl, kU66, mU66, dU66, hdU66, hBU66, hkU66, hKU66⟩ := hp
            have hSa50 := hSa50.keep hKU66 hkU66
            have hK_U66 : KZ (sI S 256 0 0) U66 := hK_U63.tr (kbZ hKU66)
            have h : RI ea U66 ns nj nm nt nr nq := h1.keepZ hK_U66
            have hA41 : A41 s0 U66 := hA41.kq hKU66 rfl
            have hn19 : ∀ x, 1 ≤ x → ¬ vV U66 19 x := fun x hx9 => by rw [hKU66.V (t := 19) (i := x) rfl]; exact hn19 x hx9
            have hn18 : ∀ x, 2 ≤ x → ¬ vV U66 18 x := fun x hx9 => by rw [hKU66.V (t := 18) (i := x) rfl]; exact hn18 x hx9
            refine ldS X wS9_X16_353 dX16_tell_201 ?_
            refine cV (S := U66) (nA := 1) (As := [.ref (saOf s0 "CavershamShiftModel" 353)]) (rest := []) X w hl hBU66.hv (m_J4_append_15ec4 G U66 1 kU66 (((((0 + dU56) + 2) + dU61) + 4) + dU66) mU66 (saOf s0 "CavershamShiftModel" 353) 2 hBU66 (Or.inl (cs_X16_353 G)) (by omega)) wY_J4_append_15ec4 wM_X16_332 wIn_J4_append_15ec4 wSe_J4_J4_append_15ec4 wI_J4 (by decide) rfl (by decide +kernel) rfl rfl dX16_tell_204 ⟨Nat.le_of_ble_eq_true rfl, Nat.le_of_ble_eq_true rfl⟩ (Nat.le_of_ble_eq_true rfl) (⟨Nat.le_of_ble_eq_true rfl, Nat.le_of_ble_eq_true rfl⟩) (fun v69 U68 H locs hp w => ?_)
            obtain ⟨rfl, kU68, mU68, hBU68, hkU68, hKU68⟩ := hp
            have hSa50 := hSa50.keep hKU68 hkU68
            have hK_U68 : KZ (sI S 256 0 0) U68 := hK_U66.tr (kbZ hKU68)
            have h : RI ea U68 ns nj nm nt nr nq := h1.keepZ hK_U68
            have hA41 : A41 s0 U68 := hA41.kq hKU68 rfl
            have hn19 : ∀ x, 1 ≤ x → ¬ vV U68 19 x := fun x hx9 => by rw [hKU68.V (t := 19) (i := x) rfl]; exact hn19 x hx9
            have hn18 : ∀ x, 2 ≤ x → ¬ vV U68 18 x := fun x hx9 => by rw [hKU68.V (t := 18) (i := x) rfl]; exact hn18 x hx9
            refine lv_aload hx hb dX16_tell_207 (lv_at hl 0 rfl) ?_
            refine cV (S := U68) (nA := 1) (As := [.ref a50]) (rest := []) X w hl hBU68.hv (m_J4_append_15ec4 G U68 1 kU68 ((((((0 + dU56) + 2) + dU61) + 4) + dU66) + 2) mU68 a50 ((0 + wb13) + 6) hBU68 hSa50 (by omega)) wY_J4_append_15ec4 wM_X16_332 wIn_J4_append_15ec4 wSe_J4_J4_append_15ec4 wI_J4 (by decide) rfl (by decide +kernel) rfl rfl dX16_tell_209 ⟨Nat.le_of_ble_eq_true rfl, Nat.le_of_ble_eq_true rfl⟩ (Nat.le_of_ble_eq_true rfl) (⟨Nat.le_of_ble_eq_true rfl, Nat.le_of_ble_eq_true rfl⟩) (fun v71 U70 H locs hp w => ?_)
            obtain ⟨rfl, kU70, mU70, hBU70, hkU70, hKU70⟩ := hp
            have hSa50 := hSa50.keep hKU70 hkU70
            have hK_U70 : KZ (sI S 256 0 0) U70 := hK_U68.tr (kbZ hKU70)
            have h : RI ea U70 ns nj nm nt nr nq := h1.keepZ hK_U70
            have hA41 : A41 s0 U70 := hA41.kq hKU70 rfl
            have hn19 : ∀ x, 1 ≤ x → ¬ vV U70 19 x := fun x hx9 => by rw [hKU70.V (t := 19) (i := x) rfl]; exact hn19 x hx9
            have hn18 : ∀ x, 2 ≤ x → ¬ vV U70 18 x := fun x hx9 => by rw [hKU70.V (t := 18) (i := x) rfl]; exact hn18 x hx9
            refine cV (S := U70) (nA := 0) (As := []) (rest := []) X w hl hBU70.hv (m_J4_toString_0e30d G U70 1 1 kU70 (((((((0 + dU56) + 2) + dU61) + 4) + dU66) + 2) + ((0 + wb13) + 6)) mU70 hBU70 (hn19 1 (Nat.le_refl _))) wY_J4_toString_0e30d wM_X16_342 wIn_J4_toString_0e30d wSe_J4_J4_toString_0e30d wI_J4 (by decide) rfl (by decide +kernel) rfl rfl dX16_tell_212 ⟨Nat.le_of_ble_eq_true rfl, Nat.le_of_ble_eq_true rfl⟩ (Nat.le_of_ble_eq_true rfl) (⟨Nat.le_of_ble_eq_true rfl, Nat.le_of_ble_eq_true rfl⟩) (fun v74 U72 H locs hp w => ?_)
            obtain ⟨eaa73, hSa73, h42U72, h19U72, hTU72⟩ := hp
            obtain ⟨a73, ea73⟩ : ∃ z, z = gG U72 19 1 := ⟨_, rfl⟩
            rw [← ea73] at eaa73 hSa73
            subst eaa73
            have hK_U72 : KZ (sI S 256 0 0) U72 := hK_U70.tr (ktZ hTU72)
            have h : RI ea U72 ns nj nm nt nr nq := h1.keepZ hK_U72
            have hA41 : A41 s0 U72 := hA41.kq hTU72 rfl
            have hn19 : ∀ x, 2 ≤ x → ¬ vV U72 19 x := fun x hx9 => by rw [h19U72 x (by omega)]; exact hn19 x (by omega)
            have hn18 : ∀ x, 2 ≤ x → ¬ vV U72 18 x := fun x hx9 => by rw [hTU72.V (t := 18) (i := x) rfl]; exact hn18 x hx9
            exact rA (v := some a73) X (w.offZ hK_U72 hZs) rfl (Or.inl ⟨_, rfl⟩) dX16_tell_215 (Nat.le_of_ble_eq_true rfl) (Nat.le_of_ble_eq_true rfl) ⟨⟨_, rfl⟩, ⟨_, hea ▸ h1, hQ, hZr, hF.keepT hK1, (hK1.I (f := 257) (i := 0) rfl).trans hg⟩, kTR hK1⟩
        · refine ldS X wS9_X16_338 dX16_tell_133 ?_
          refine lv_goto (tgt := 156) hx hb dX16_tell_136 (by decide) ?_
          refine cV (S := U14) (nA := 1) (As := [.ref (saOf s0 "CavershamShiftModel" 338)]) (rest := []) X w hl hBU14.hv (m_J4_append_15ec4 G U14 0 kU14 (0 + wb13) mU14 (saOf s0 "CavershamShiftModel" 338) 6 hBU14 (Or.inl (cs_X16_338 G)) (by omega)) wY_J4_append_15ec4 wM_X16_332 wIn_J4_append_15ec4 wSe_J4_J4_append_15ec4 wI_J4 (by decide) rfl (by decide +kernel) rfl rfl dX16_tell_156 ⟨Nat.le_of_ble_eq_true rfl, Nat.le_of_ble_eq_true rfl⟩ (Nat.le_of_ble_eq_true rfl) (⟨Nat.le_of_ble_eq_true rfl, Nat.le_of_ble_eq_true rfl⟩) (fun v76 U75 H locs hp w => ?_)
          obtain ⟨rfl, kU75, mU75, hBU75, hkU75, hKU75⟩ := hp
          have hK_U75 : KZ (sI S 256 0 0) U75 := hK_U14.tr (kbZ hKU75)
          have h : RI ea U75 ns nj nm nt nr nq := h1.keepZ hK_U75
          have hA41 : A41 s0 U75 := hA41.kq hKU75 rfl
          have hn19 : ∀ x, 0 ≤ x → ¬ vV U75 19 x := fun x hx9 => by rw [hKU75.V (t := 19) (i := x) rfl]; exact hn19 x hx9
          have hn18 : ∀ x, 1 ≤ x → ¬ vV U75 18 x := fun x hx9 => by rw [hKU75.V (t := 18) (i := x) rfl]; exact hn18 x hx9
          refine cV (S := U75) (nA := 0) (As := []) (rest := []) X w hl hBU75.hv (m_J4_toString_0e30d G U75 0 0 kU75 ((0 + wb13) + 6) mU75 hBU75 (hn19 0 (Nat.le_refl _))) wY_J4_toString_0e30d wM_X16_342 wIn_J4_toString_0e30d wSe_J4_J4_toString_0e30d wI_J4 (by decide) rfl (by decide +kernel) rfl rfl dX16_tell_159 ⟨Nat.le_of_ble_eq_true rfl, Nat.le_of_ble_eq_true rfl⟩ (Nat.le_of_ble_eq_true rfl) (⟨Nat.le_of_ble_eq_true rfl, Nat.le_of_ble_eq_true rfl⟩) (fun v79 U77 H locs hp w => ?_)
          obtain ⟨eaa78, hSa78, h42U77, h19U77, hTU77⟩ := hp
          obtain ⟨a78, ea78⟩ : ∃ z, z = gG U77 19 0 := ⟨_, rfl⟩
          rw [← ea78] at eaa78 hSa78
          subst eaa78
          have hK_U77 : KZ (sI S 256 0 0) U77 := hK_U75.tr (ktZ hTU77)
          have h : RI ea U77 ns nj nm nt nr nq := h1.keepZ hK_U77
          have hA41 : A41 s0 U77 := hA41.kq hTU77 rfl
          have hn19 : ∀ x, 1 ≤ x → ¬ vV U77 19 x := fun x hx9 => by rw [h19U77 x (by omega)]; exact hn19 x (by omega)
          have hn18 : ∀ x, 1 ≤ x → ¬ vV U77 18 x := fun x hx9 => by rw [hTU77.V (t := 18) (i := x) rfl]; exact hn18 x hx9
          refine lv_astore (lv' := [(4, .ref a78), (3, .ref (gG (sArr (sI S 256 0 0) 41 0 q41 4) 41 0)), (2, .ref (gG (sI S 256 0 0) 15 j3)), (0, .ref (gG S 16 0)), (1, .int (nI j3))]) hx hb dX16_tell_162 hl (by decide) rfl (fun ls hl => ?_)
          refine nwO (S := U77) (t := 18) (n := 4) X w 1 (hn18 1 (Nat.le_refl _)) (Or.inl (by decide)) (by decide) rfl in_18 tyJ4 tyJ4_ok (by decide +kernel) wC_X16_329 wNew_J4 wI_J4 dX16_tell_164 rfl (Nat.le_of_ble_eq_true rfl) (Nat.le_of_ble_eq_true rfl) (fun q80 S2 H hS2 w => ?_)
          subst hS2
          have hK_N81 : KZ (sI S 256 0 0) (sNew U77 18 1 q80) := hK_U77.new rfl (by decide) (fun f z => hz18 f z) (fun f z => hz18 f z)
          have h : RI ea (sNew U77 18 1 q80) ns nj nm nt nr nq := h1.keepZ hK_N81
          have hA41 : A41 s0 (sNew U77 18 1 q80) := hA41.new
          have hn19 : ∀ x, 1 ≤ x → ¬ vV (sNew U77 18 1 q80) 19 x := fun x hx9 v => v.elim (hn19 x hx9) (fun z => absurd z.1 (by decide))
          have hn18 : ∀ x, 2 ≤ x → ¬ vV (sNew U77 18 1 q80) 18 x := fun x hx9 v => v.elim (hn18 x (by omega)) (fun z => by omega)
          have hSa78 : SA s0 (sNew U77 18 1 q80) (kU75 + 2) a78 ((0 + wb13) + 6) := SA.new18 hSa78
          refine lv_dup hx hb dX16_tell_167 rfl ?_
          refine cI (S := (sNew U77 18 1 q80)) (nA := 0) (As := []) (rest := [.ref (gG (sNew U77 18 1 q80) 18 1)]) X w hl (m_J4_init_da8c8 G (sNew U77 18 1 q80) 1 (kU75 + 2) (Or.inr ⟨rfl, rfl⟩) (nwI_0 rfl) (fun j hj9 v => v.elim (h42U77 j hj9) (fun z => absurd z.1 (by decide)))) wY_J4_init_da8c8 wM_X16_331 wIn_J4_init_da8c8 wI_J4 rfl (by decide +kernel) rfl rfl dX16_tell_168 ⟨by decide, by decide⟩ (Nat.le_of_ble_eq_true rfl) (⟨Nat.le_of_ble_eq_true rfl, Nat.le_of_ble_eq_true rfl⟩) (fun v83 U82 H locs hp w => ?_)
          obtain ⟨rfl, hB, hKU82⟩ := hp
          have hK_U82 : KZ (sI S 256 0 0) U82 := hK_N81.tr (kbZ hKU82)
          have h : RI ea U82 ns nj nm nt nr nq := h1.keepZ hK_U82
          have hA41 : A41 s0 U82 := hA41.kq hKU82 rfl
          have hn19 : ∀ x, 1 ≤ x → ¬ vV U82 19 x := fun x hx9 => by rw [hKU82.V (t := 19) (i := x) rfl]; exact hn19 x hx9
          have hn18 : ∀ x, 2 ≤ x → ¬ vV U82 18 x := fun x hx9 => by rw [hKU82.V (t := 18) (i := x) rfl]; exact hn18 x hx9
          have hSa78 := hSa78.keep hKU82 (Nat.le_refl _)
          refine lv_iload_n hx hb dX16_tell_171 rfl (lv_at hl 4 rfl) ?_
          refine rE1 ((rfl).trans ((hKU82.G (t := 18) (i := 1) rfl).trans (rfl)).symm) ?_
          refine cV (S := U82) (nA := 1) (As := [.int (nI j3)]) (rest := []) X w hl hB.hv (m_J4_append_bf812 G U82 1 (kU75 + 2) 0 16 j3 hB (by omega) (by omega)) wY_J4_append_bf812 wM_X16_346 wIn_J4_append_bf812 wSe_J4_J4_append_bf812 wI_J4 (by decide) rfl (by decide +kernel) rfl rfl dX16_tell_172 ⟨Nat.le_of_ble_eq_true rfl, Nat.le_of_ble_eq_true rfl⟩ (Nat.le_of_ble_eq_true rfl) (⟨Nat.le_of_ble_eq_true rfl, Nat.le_of_ble_eq_true rfl⟩) (fun v85 U84 H locs hp w => ?_)
          obtain ⟨rfl, kU84, mU84, dU84, hdU84, hBU84, hkU84, hKU84⟩ := hp
          have hSa78 := hSa78.keep hKU84 hkU84
          have hK_U84 : KZ (sI S 256 0 0) U84 := hK_U82.tr (kbZ hKU84)
          have h : RI ea U84 ns nj nm nt nr nq := h1.keepZ hK_U84
          have hA41 : A41 s0 U84 := hA41.kq hKU84 rfl
          have hn19 : ∀ x, 1 ≤ x → ¬ vV U84 19 x := fun x hx9 => by rw [hKU84.V (t := 19) (i := x) rfl]; exact hn19 x hx9
          have hn18 : ∀ x, 2 ≤ x → ¬ vV U84 18 x := fun x hx9 => by rw [hKU84.V (t := 18) (i := x) rfl]; exact hn18 x hx9
          refine ldS X wS9_X16_349 dX16_tell_175 ?_
          refine cV (S := U84) (nA := 1) (As := [.ref (saOf s0 "CavershamShiftModel" 349)]) (rest := []) X w hl hBU84.hv (m_J4_append_15ec4 G U84 1 kU84 (0 + dU84) mU84 (saOf s0 "CavershamShiftModel" 349) 2 hBU84 (Or.inl (cs_X16_349 G)) (by omega)) wY_J4_append_15ec4 wM_X16_332 wIn_J4_append_15ec4 wSe_J4_J4_append_15ec4 wI_J4 (by decide) rfl (by decide +kernel) rfl rfl dX16_tell_178 ⟨Nat.le_of_ble_eq_true rfl, Nat.le_of_ble_eq_true rfl⟩ (Nat.le_of_ble_eq_true rfl) (⟨Nat.le_of_ble_eq_true rfl, Nat.le_of_ble_eq_true rfl⟩) (fun v87 U86 H locs hp w => ?_)
          obtain ⟨rfl, kU86, mU86, hBU86, hkU86, hKU86⟩ := hp
          have hSa78 := hSa78.keep hKU86 hkU86
          have hK_U86 : KZ (sI S 256 0 0) U86 := hK_U84.tr (kbZ hKU86)
          have h : RI ea U86 ns nj nm nt nr nq := h1.keepZ hK_U86
          have hA41 : A41 s0 U86 := hA41.kq hKU86 rfl
          have hn19 : ∀ x, 1 ≤ x → ¬ vV U86 19 x := fun x hx9 => by rw [hKU86.V (t := 19) (i := x) rfl]; exact hn19 x hx9
          have hn18 : ∀ x, 2 ≤ x → ¬ vV U86 18 x := fun x hx9 => by rw [hKU86.V (t := 18) (i := x) rfl]; exact hn18 x hx9
          refine lv_aload_n hx hb dX16_tell_181 rfl (lv_at hl 2 rfl) ?_
          refine rE0 ((rfl).trans ((hK_U86.G (t := 15) (i := j3) rfl)).symm) ?_
          obtain ⟨g88, hlg88, heg88⟩ := h.x_ts j3 hlj3
          refine g_15_0 (S := U86) (x := (nI g88)) X w (h.e_ta j3 hlj3).2 wF_X16_104 (heg88) dX16_tell_182 ?_
          refine cV (S := U86) (nA := 1) (As := [.int (nI g88)]) (rest := []) X w hl hBU86.hv (m_J4_append_bf812 G U86 1 kU86 ((0 + dU84) + 2) mU86 g88 hBU86 (by omega) (by omega)) wY_J4_append_bf812 wM_X16_346 wIn_J4_append_bf812 wSe_J4_J4_append_bf812 wI_J4 (by decide) rfl (by decide +kernel) rfl rfl dX16_tell_185 ⟨Nat.le_of_ble_eq_true rfl, Nat.le_of_ble_eq_true rfl⟩ (Nat.le_of_ble_eq_true rfl) (⟨Nat.le_of_ble_eq_true rfl, Nat.le_of_ble_eq_true rfl⟩) (fun v90 U89 H locs hp w => ?_)
          obtain ⟨rfl, kU89, mU89, dU89, hdU89, hBU89, hkU89, hKU89⟩ := hp
          have hSa78 := hSa78.keep hKU89 hkU89
          have hK_U89 : KZ (sI S 256 0 0) U89 := hK_U86.tr (kbZ hKU89)
          have h : RI ea U89 ns nj nm nt nr nq := h1.keepZ hK_U89
          have hA41 : A41 s0 U89 := hA41.kq hKU89 rfl
          have hn19 : ∀ x, 1 ≤ x → ¬ vV U89 19 x := fun x hx9 => by rw [hKU89.V (t := 19) (i := x) rfl]; exact hn19 x hx9
          have hn18 : ∀ x, 2 ≤ x → ¬ vV U89 18 x := fun x hx9 => by rw [hKU89.V (t := 18) (i := x) rfl]; exact hn18 x hx9
          refine ldS X wS9_X16_351 dX16_tell_188 ?_
          refine cV (S := U89) (nA := 1) (As := [.ref (saOf s0 "CavershamShiftModel" 351)]) (rest := []) X w hl hBU89.hv (m_J4_append_15ec4 G U89 1 kU89 (((0 + dU84) + 2) + dU89) mU89 (saOf s0 "CavershamShiftModel" 351) 4 hBU89 (Or.inl (cs_X16_351 G)) (by omega)) wY_J4_append_15ec4 wM_X16_332 wIn_J4_append_15ec4 wSe_J4_J4_append_15ec4 wI_J4 (by decide) rfl (by decide +kernel) rfl rfl dX16_tell_191 ⟨Nat.le_of_ble_eq_true rfl, Nat.le_of_ble_eq_true rfl⟩ (Nat.le_of_ble_eq_true rfl) (⟨Nat.le_of_ble_eq_true rfl, Nat.le_of_ble_eq_true rfl⟩) (fun v92 U91 H locs hp w => ?_)
          obtain ⟨rfl, kU91, mU91, hBU91, hkU91, hKU91⟩ := hp
          have hSa78 := hSa78.keep hKU91 hkU91
          have hK_U91 : KZ (sI S 256 0 0) U91 := hK_U89.tr (kbZ hKU91)
          have h : RI ea U91 ns nj nm nt nr nq := h1.keepZ hK_U91
          have hA41 : A41 s0 U91 := hA41.kq hKU91 rfl
          have hn19 : ∀ x, 1 ≤ x → ¬ vV U91 19 x := fun x hx9 => by rw [hKU91.V (t := 19) (i := x) rfl]; exact hn19 x hx9
          have hn18 : ∀ x, 2 ≤ x → ¬ vV U91 18 x := fun x hx9 => by rw [hKU91.V (t := 18) (i := x) rfl]; exact hn18 x hx9
          refine lv_aload_n hx hb dX16_tell_194 rfl (lv_at hl 2 rfl) ?_
          refine rE0 ((rfl).trans ((hK_U91.G (t := 15) (i := j3) rfl)).symm) ?_
          obtain ⟨g93, hlg93, heg93⟩ := h.x_th j3 hlj3
          refine g_15_1 (S := U91) (x := (nI g93)) X w (h.e_ta j3 hlj3).2 wF_X16_112 (heg93) dX16_tell_195 ?_
          refine cV (S := U91) (nA := 1) (As := [.int (nI g93)]) (rest := []) X w hl hBU91.hv (m_J4_append_bf812 G U91 1 kU91 ((((0 + dU84) + 2) + dU89) + 4) mU91 g93 hBU91 (by omega) (by omega)) wY_J4_append_bf812 wM_X16_346 wIn_J4_append_bf812 wSe_J4_J4_append_bf812 wI_J4 (by decide) rfl (by decide +kernel) rfl rfl dX16_tell_198 ⟨Nat.le_of_ble_eq_true rfl, Nat.le_of_ble_eq_true rfl⟩ (Nat.le_of_ble_eq_true rfl) (⟨Nat.le_of_ble_eq_true rfl, Nat.le_of_ble_eq_true rfl⟩) (fun v95 U94 H locs hp w => ?_)
          obtain ⟨rfl, kU94, mU94, dU94, hdU94, hBU94, hkU94, hKU94⟩ := hp
          have hSa78 := hSa78.keep hKU94 hkU94
          have hK_U94 : KZ (sI S 256 0 0) U94 := hK_U91.tr (kbZ hKU94)
          have h : RI ea U94 ns nj nm nt nr nq := h1.keepZ hK_U94
          have hA41 : A41 s0 U94 := hA41.kq hKU94 rfl
          have hn19 : ∀ x, 1 ≤ x → ¬ vV U94 19 x := fun x hx9 => by rw [hKU94.V (t := 19) (i := x) rfl]; exact hn19 x hx9
          have hn18 : ∀ x, 2 ≤ x → ¬ vV U94 18 x := fun x hx9 => by rw [hKU94.V (t := 18) (i := x) rfl]; exact hn18 x hx9
          refine ldS X wS9_X16_353 dX16_tell_201 ?_
          refine cV (S := U94) (nA := 1) (As := [.ref (saOf s0 "CavershamShiftModel" 353)]) (rest := []) X w hl hBU94.hv (m_J4_append_15ec4 G U94 1 kU94 (((((0 + dU84) + 2) + dU89) + 4) + dU94) mU94 (saOf s0 "CavershamShiftModel" 353) 2 hBU94 (Or.inl (cs_X16_353 G)) (by omega)) wY_J4_append_15ec4 wM_X16_332 wIn_J4_append_15ec4 wSe_J4_J4_append_15ec4 wI_J4 (by decide) rfl (by decide +kernel) rfl rfl dX16_tell_204 ⟨Nat.le_of_ble_eq_true rfl, Nat.le_of_ble_eq_true rfl⟩ (Nat.le_of_ble_eq_true rfl) (⟨Nat.le_of_ble_eq_true rfl, Nat.le_of_ble_eq_true rfl⟩) (fun v97 U96 H locs hp w => ?_)
          obtain ⟨rfl, kU96, mU96, hBU96, hkU96, hKU96⟩ := hp
          have hSa78 := hSa78.keep hKU96 hkU96
          have hK_U96 : KZ (sI S 256 0 0) U96 := hK_U94.tr (kbZ hKU96)
          have h : RI ea U96 ns nj nm nt nr nq := h1.keepZ hK_U96
          have hA41 : A41 s0 U96 := hA41.kq hKU96 rfl
          have hn19 : ∀ x, 1 ≤ x → ¬ vV U96 19 x := fun x hx9 => by rw [hKU96.V (t := 19) (i := x) rfl]; exact hn19 x hx9
          have hn18 : ∀ x, 2 ≤ x → ¬ vV U96 18 x := fun x hx9 => by rw [hKU96.V (t := 18) (i := x) rfl]; exact hn18 x hx9
          refine lv_aload hx hb dX16_tell_207 (lv_at hl 0 rfl) ?_
          refine cV (S := U96) (nA := 1) (As := [.ref a78]) (rest := []) X w hl hBU96.hv (m_J4_append_15ec4 G U96 1 kU96 ((((((0 + dU84) + 2) + dU89) + 4) + dU94) + 2) mU96 a78 ((0 + wb13) + 6) hBU96 hSa78 (by omega)) wY_J4_append_15ec4 wM_X16_332 wIn_J4_append_15ec4 wSe_J4_J4_append_15ec4 wI_J4 (by decide) rfl (by decide +kernel) rfl rfl dX16_tell_209 ⟨Nat.le_of_ble_eq_true rfl, Nat.le_of_ble_eq_true rfl⟩ (Nat.le_of_ble_eq_true rfl) (⟨Nat.le_of_ble_eq_true rfl, Nat.le_of_ble_eq_true rfl⟩) (fun v99 U98 H locs hp w => ?_)
          obtain ⟨rfl, kU98, mU98, hBU98, hkU98, hKU98⟩ := hp
          have hSa78 := hSa78.keep hKU98 hkU98
          have hK_U98 : KZ (sI S 256 0 0) U98 := hK_U96.tr (kbZ hKU98)
          have h : RI ea U98 ns nj nm nt nr nq := h1.keepZ hK_U98
          have hA41 : A41 s0 U98 := hA41.kq hKU98 rfl
          have hn19 : ∀ x, 1 ≤ x → ¬ vV U98 19 x := fun x hx9 => by rw [hKU98.V (t := 19) (i := x) rfl]; exact hn19 x hx9
          have hn18 : ∀ x, 2 ≤ x → ¬ vV U98 18 x := fun x hx9 => by rw [hKU98.V (t := 18) (i := x) rfl]; exact hn18 x hx9
          refine cV (S := U98) (nA := 0) (As := []) (rest := []) X w hl hBU98.hv (m_J4_toString_0e30d G U98 1 1 kU98 (((((((0 + dU84) + 2) + dU89) + 4) + dU94) + 2) + ((0 + wb13) + 6)) mU98 hBU98 (hn19 1 (Nat.le_refl _))) wY_J4_toString_0e30d wM_X16_342 wIn_J4_toString_0e30d wSe_J4_J4_toString_0e30d wI_J4 (by decide) rfl (by decide +kernel) rfl rfl dX16_tell_212 ⟨Nat.le_of_ble_eq_true rfl, Nat.le_of_ble_eq_true rfl⟩ (Nat.le_of_ble_eq_true rfl) (⟨Nat.le_of_ble_eq_true rfl, Nat.le_of_ble_eq_true rfl⟩) (fun v102 U100 H locs hp w => ?_)
          obtain ⟨eaa101, hSa101, h42U100, h19U100, hTU100⟩ := hp
          obtain ⟨a101, ea101⟩ : ∃ z, z = gG U100 19 1 := ⟨_, rfl⟩
          rw [← ea101] at eaa101 hSa101
          subst eaa101
          have hK_U100 : KZ (sI S 256 0 0) U100 := hK_U98.tr (ktZ hTU100)
          have h : RI ea U100 ns nj nm nt nr nq := h1.keepZ hK_U100
          have hA41 : A41 s0 U100 := hA41.kq hTU100 rfl
          have hn19 : ∀ x, 2 ≤ x → ¬ vV U100 19 x := fun x hx9 => by rw [h19U100 x (by omega)]; exact hn19 x (by omega)
          have hn18 : ∀ x, 2 ≤ x → ¬ vV U100 18 x := fun x hx9 => by rw [hTU100.V (t := 18) (i := x) rfl]; exact hn18 x hx9
          exact rA (v := some a101) X (w.offZ hK_U100 hZs) rfl (Or.inl ⟨_, rfl⟩) dX16_tell_215 (Nat.le_of_ble_eq_true rfl) (Nat.le_of_ble_eq_true rfl) ⟨⟨_, rfl⟩, ⟨_, hea ▸ h1, hQ, hZr, hF.keepT hK1, (hK1.I (f := 257) (i := 0) rfl).trans hg⟩, kTR hK1⟩
      · refine ldS X wS9_X16_336 dX16_tell_119 ?_
        refine lv_goto (tgt := 156) hx hb dX16_tell_122 (by decide) ?_
        refine cV (S := U14) (nA := 1) (As := [.ref (saOf s0 "CavershamShiftModel" 336)]) (rest := []) X w hl hBU14.hv (m_J4_append_15ec4 G U14 0 kU14 (0 + wb13) mU14 (saOf s0 "CavershamShiftModel" 336) 5 hBU14 (Or.inl (cs_X16_336 G)) (by omega)) wY_J4_append_15ec4 wM_X16_332 wIn_J4_append_15ec4 wSe_J4_J4_append_15ec4 wI_J4 (by decide) rfl (by decide +kernel) rfl rfl dX16_tell_156 ⟨Nat.le_of_ble_eq_true rfl, Nat.le_of_ble_eq_true rfl⟩ (Nat.le_of_ble_eq_true rfl) (⟨Nat.le_of_ble_eq_true rfl, Nat.le_of_ble_eq_true rfl⟩) (fun v104 U103 H locs hp w => ?_)
        obtain ⟨rfl, kU103, mU103, hBU103, hkU103, hKU103⟩ := hp
        have hK_U103 : KZ (sI S 256 0 0) U103 := hK_U14.tr (kbZ hKU103)
        have h : RI ea U103 ns nj nm nt nr nq := h1.keepZ hK_U103
        have hA41 : A41 s0 U103 := hA41.kq hKU103 rfl
        have hn19 : ∀ x, 0 ≤ x → ¬ vV U103 19 x := fun x hx9 => by rw [hKU103.V (t := 19) (i := x) rfl]; exact hn19 x hx9
        have hn18 : ∀ x, 1 ≤ x → ¬ vV U103 18 x := fun x hx9 => by rw [hKU103.V (t := 18) (i := x) rfl]; exact hn18 x hx9
        refine cV (S := U103) (nA := 0) (As := []) (rest := []) X w hl hBU103.hv (m_J4_toString_0e30d G U103 0 0 kU103 ((0 + wb13) + 5) mU103 hBU103 (hn19 0 (Nat.le_refl _))) wY_J4_toString_0e30d wM_X16_342 wIn_J4_toString_0e30d wSe_J4_J4_toString_0e30d wI_J4 (by decide) rfl (by decide +kernel) rfl rfl dX16_tell_159 ⟨Nat.le_of_ble_eq_true rfl, Nat.le_of_ble_eq_true rfl⟩ (Nat.le_of_ble_eq_true rfl) (⟨Nat.le_of_ble_eq_true rfl, Nat.le_of_ble_eq_true rfl⟩) (fun v107 U105 H locs hp w => ?_)
        obtain ⟨eaa106, hSa106, h42U105, h19U105, hTU105⟩ := hp
        obtain ⟨a106, ea106⟩ : ∃ z, z = gG U105 19 0 := ⟨_, rfl⟩
        rw [← ea106] at eaa106 hSa106
        subst eaa106
        have hK_U105 : KZ (sI S 256 0 0) U105 := hK_U103.tr (ktZ hTU105)
        have h : RI ea U105 ns nj nm nt nr nq := h1.keepZ hK_U105
        have hA41 : A41 s0 U105 := hA41.kq hTU105 rfl
        have hn19 : ∀ x, 1 ≤ x → ¬ vV U105 19 x := fun x hx9 => by rw [h19U105 x (by omega)]; exact hn19 x (by omega)
        have hn18 : ∀ x, 1 ≤ x → ¬ vV U105 18 x := fun x hx9 => by rw [hTU105.V (t := 18) (i := x) rfl]; exact hn18 x hx9
        refine lv_astore (lv' := [(4, .ref a106), (3, .ref (gG (sArr (sI S 256 0 0) 41 0 q41 4) 41 0)), (2, .ref (gG (sI S 256 0 0) 15 j3)), (0, .ref (gG S 16 0)), (1, .int (nI j3))]) hx hb dX16_tell_162 hl (by decide) rfl (fun ls hl => ?_)
        refine nwO (S := U105) (t := 18) (n := 4) X w 1 (hn18 1 (Nat.le_refl _)) (Or.inl (by decide)) (by decide) rfl in_18 tyJ4 tyJ4_ok (by decide +kernel) wC_X16_329 wNew_J4 wI_J4 dX16_tell_164 rfl (Nat.le_of_ble_eq_true rfl) (Nat.le_of_ble_eq_true rfl) (fun q108 S2 H hS2 w => ?_)
        subst hS2
        have hK_N109 : KZ (sI S 256 0 0) (sNew U105 18 1 q108) := hK_U105.new rfl (by decide) (fun f z => hz18 f z) (fun f z => hz18 f z)
        have h : RI ea (sNew U105 18 1 q108) ns nj nm nt nr nq := h1.keepZ hK_N109
        have hA41 : A41 s0 (sNew U105 18 1 q108) := hA41.new
        have hn19 : ∀ x, 1 ≤ x → ¬ vV (sNew U105 18 1 q108) 19 x := fun x hx9 v => v.elim (hn19 x hx9) (fun z => absurd z.1 (by decide))
        have hn18 : ∀ x, 2 ≤ x → ¬ vV (sNew U105 18 1 q108) 18 x := fun x hx9 v => v.elim (hn18 x (by omega)) (fun z => by omega)
        have hSa106 : SA s0 (sNew U105 18 1 q108) (kU103 + 2) a106 ((0 + wb13) + 5) := SA.new18 hSa106
        refine lv_dup hx hb dX16_tell_167 rfl ?_
        refine cI (S := (sNew U105 18 1 q108)) (nA := 0) (As := []) (rest := [.ref (gG (sNew U105 18 1 q108) 18 1)]) X w hl (m_J4_init_da8c8 G (sNew U105 18 1 q108) 1 (kU103 + 2) (Or.inr ⟨rfl, rfl⟩) (nwI_0 rfl) (fun j hj9 v => v.elim (h42U105 j hj9) (fun z => absurd z.1 (by decide)))) wY_J4_init_da8c8 wM_X16_331 wIn_J4_init_da8c8 wI_J4 rfl (by decide +kernel) rfl rfl dX16_tell_168 ⟨by decide, by decide⟩ (Nat.le_of_ble_eq_true rfl) (⟨Nat.le_of_ble_eq_true rfl, Nat.le_of_ble_eq_true rfl⟩) (fun v111 U110 H locs hp w => ?_)
        obtain ⟨rfl, hB, hKU110⟩ := hp
        have hK_U110 : KZ (sI S 256 0 0) U110 := hK_N109.tr (kbZ hKU110)
        have h : RI ea U110 ns nj nm nt nr nq := h1.keepZ hK_U110
        have hA41 : A41 s0 U110 := hA41.kq hKU110 rfl
        have hn19 : ∀ x, 1 ≤ x → ¬ vV U110 19 x := fun x hx9 => by rw [hKU110.V (t := 19) (i := x) rfl]; exact hn19 x hx9
        have hn18 : ∀ x, 2 ≤ x → ¬ vV U110 18 x := fun x hx9 => by rw [hKU110.V (t := 18) (i := x) rfl]; exact hn18 x hx9
        have hSa106 := hSa106.keep hKU110 (Nat.le_refl _)
        refine lv_iload_n hx hb dX16_tell_171 rfl (lv_at hl 4 rfl) ?_
        refine rE1 ((rfl).trans ((hKU110.G (t := 18) (i := 1) rfl).trans (rfl)).symm) ?_
        refine cV (S := U110) (nA := 1) (As := [.int (nI j3)]) (rest := []) X w hl hB.hv (m_J4_append_bf812 G U110 1 (kU103 + 2) 0 16 j3 hB (by omega) (by omega)) wY_J4_append_bf812 wM_X16_346 wIn_J4_append_bf812 wSe_J4_J4_append_bf812 wI_J4 (by decide) rfl (by decide +kernel) rfl rfl dX16_tell_172 ⟨Nat.le_of_ble_eq_true rfl, Nat.le_of_ble_eq_true rfl⟩ (Nat.le_of_ble_eq_true rfl) (⟨Nat.le_of_ble_eq_true rfl, Nat.le_of_ble_eq_true rfl⟩) (fun v113 U112 H locs hp w => ?_)
        obtain ⟨rfl, kU112, mU112, dU112, hdU112, hBU112, hkU112, hKU112⟩ := hp
        have hSa106 := hSa106.keep hKU112 hkU112
        have hK_U112 : KZ (sI S 256 0 0) U112 := hK_U110.tr (kbZ hKU112)
        have h : RI ea U112 ns nj nm nt nr nq := h1.keepZ hK_U112
        have hA41 : A41 s0 U112 := hA41.kq hKU112 rfl
        have hn19 : ∀ x, 1 ≤ x → ¬ vV U112 19 x := fun x hx9 => by rw [hKU112.V (t := 19) (i := x) rfl]; exact hn19 x hx9
        have hn18 : ∀ x, 2 ≤ x → ¬ vV U112 18 x := fun x hx9 => by rw [hKU112.V (t := 18) (i := x) rfl]; exact hn18 x hx9
        refine ldS X wS9_X16_349 dX16_tell_175 ?_
        refine cV (S := U112) (nA := 1) (As := [.ref (saOf s0 "CavershamShiftModel" 349)]) (rest := []) X w hl hBU112.hv (m_J4_append_15ec4 G U112 1 kU112 (0 + dU112) mU112 (saOf s0 "CavershamShiftModel" 349) 2 hBU112 (Or.inl (cs_X16_349 G)) (by omega)) wY_J4_append_15ec4 wM_X16_332 wIn_J4_append_15ec4 wSe_J4_J4_append_15ec4 wI_J4 (by decide) rfl (by decide +kernel) rfl rfl dX16_tell_178 ⟨Nat.le_of_ble_eq_true rfl, Nat.le_of_ble_eq_true rfl⟩ (Nat.le_of_ble_eq_true rfl) (⟨Nat.le_of_ble_eq_true rfl, Nat.le_of_ble_eq_true rfl⟩) (fun v115 U114 H locs hp w => ?_)
        obtain ⟨rfl, kU114, mU114, hBU114, hkU114, hKU114⟩ := hp
        have hSa106 := hSa106.keep hKU114 hkU114
        have hK_U114 : KZ (sI S 256 0 0) U114 := hK_U112.tr (kbZ hKU114)
        have h : RI ea U114 ns nj nm nt nr nq := h1.keepZ hK_U114
        have hA41 : A41 s0 U114 := hA41.kq hKU114 rfl
        have hn19 : ∀ x, 1 ≤ x → ¬ vV U114 19 x := fun x hx9 => by rw [hKU114.V (t := 19) (i := x) rfl]; exact hn19 x hx9
        have hn18 : ∀ x, 2 ≤ x → ¬ vV U114 18 x := fun x hx9 => by rw [hKU114.V (t := 18) (i := x) rfl]; exact hn18 x hx9
        refine lv_aload_n hx hb dX16_tell_181 rfl (lv_at hl 2 rfl) ?_
        refine rE0 ((rfl).trans ((hK_U114.G (t := 15) (i := j3) rfl)).symm) ?_
        obtain ⟨g116, hlg116, heg116⟩ := h.x_ts j3 hlj3
        refine g_15_0 (S := U114) (x := (nI g116)) X w (h.e_ta j3 hlj3).2 wF_X16_104 (heg116) dX16_tell_182 ?_
        refine cV (S := U114) (nA := 1) (As := [.int (nI g116)]) (rest := []) X w hl hBU114.hv (m_J4_append_bf812 G U114 1 kU114 ((0 + dU112) + 2) mU114 g116 hBU114 (by omega) (by omega)) wY_J4_append_bf812 wM_X16_346 wIn_J4_append_bf812 wSe_J4_J4_append_bf812 wI_J4 (by decide) rfl (by decide +kernel) rfl rfl dX16_tell_185 ⟨Nat.le_of_ble_eq_true rfl, Nat.le_of_ble_eq_true rfl⟩ (Nat.le_of_ble_eq_true rfl) (⟨Nat.le_of_ble_eq_true rfl, Nat.le_of_ble_eq_true rfl⟩) (fun v118 U117 H locs hp w => ?_)
        obtain ⟨rfl, kU117, mU117, dU117, hdU117, hBU117, hkU117, hKU117⟩ := hp
        have hSa106 := hSa106.keep hKU117 hkU117
        have hK_U117 : KZ (sI S 256 0 0) U117 := hK_U114.tr (kbZ hKU117)
        have h : RI ea U117 ns nj nm nt nr nq := h1.keepZ hK_U117
        have hA41 : A41 s0 U117 := hA41.kq hKU117 rfl
        have hn19 : ∀ x, 1 ≤ x → ¬ vV U117 19 x := fun x hx9 => by rw [hKU117.V (t := 19) (i := x) rfl]; exact hn19 x hx9
        have hn18 : ∀ x, 2 ≤ x → ¬ vV U117 18 x := fun x hx9 => by rw [hKU117.V (t := 18) (i := x) rfl]; exact hn18 x hx9
        refine ldS X wS9_X16_351 dX16_tell_188 ?_
        refine cV (S := U117) (nA := 1) (As := [.ref (saOf s0 "CavershamShiftModel" 351)]) (rest := []) X w hl hBU117.hv (m_J4_append_15ec4 G U117 1 kU117 (((0 + dU112) + 2) + dU117) mU117 (saOf s0 "CavershamShiftModel" 351) 4 hBU117 (Or.inl (cs_X16_351 G)) (by omega)) wY_J4_append_15ec4 wM_X16_332 wIn_J4_append_15ec4 wSe_J4_J4_append_15ec4 wI_J4 (by decide) rfl (by decide +kernel) rfl rfl dX16_tell_191 ⟨Nat.le_of_ble_eq_true rfl, Nat.le_of_ble_eq_true rfl⟩ (Nat.le_of_ble_eq_true rfl) (⟨Nat.le_of_ble_eq_true rfl, Nat.le_of_ble_eq_true rfl⟩) (fun v120 U119 H locs hp w => ?_)
        obtain ⟨rfl, kU119, mU119, hBU119, hkU119, hKU119⟩ := hp
        have hSa106 := hSa106.keep hKU119 hkU119
        have hK_U119 : KZ (sI S 256 0 0) U119 := hK_U117.tr (kbZ hKU119)
        have h : RI ea U119 ns nj nm nt nr nq := h1.keepZ hK_U119
        have hA41 : A41 s0 U119 := hA41.kq hKU119 rfl
        have hn19 : ∀ x, 1 ≤ x → ¬ vV U119 19 x := fun x hx9 => by rw [hKU119.V (t := 19) (i := x) rfl]; exact hn19 x hx9
        have hn18 : ∀ x, 2 ≤ x → ¬ vV U119 18 x := fun x hx9 => by rw [hKU119.V (t := 18) (i := x) rfl]; exact hn18 x hx9
        refine lv_aload_n hx hb dX16_tell_194 rfl (lv_at hl 2 rfl) ?_
        refine rE0 ((rfl).trans ((hK_U119.G (t := 15) (i := j3) rfl)).symm) ?_
        obtain ⟨g121, hlg121, heg121⟩ := h.x_th j3 hlj3
        refine g_15_1 (S := U119) (x := (nI g121)) X w (h.e_ta j3 hlj3).2 wF_X16_112 (heg121) dX16_tell_195 ?_
        refine cV (S := U119) (nA := 1) (As := [.int (nI g121)]) (rest := []) X w hl hBU119.hv (m_J4_append_bf812 G U119 1 kU119 ((((0 + dU112) + 2) + dU117) + 4) mU119 g121 hBU119 (by omega) (by omega)) wY_J4_append_bf812 wM_X16_346 wIn_J4_append_bf812 wSe_J4_J4_append_bf812 wI_J4 (by decide) rfl (by decide +kernel) rfl rfl dX16_tell_198 ⟨Nat.le_of_ble_eq_true rfl, Nat.le_of_ble_eq_true rfl⟩ (Nat.le_of_ble_eq_true rfl) (⟨Nat.le_of_ble_eq_true rfl, Nat.le_of_ble_eq_true rfl⟩) (fun v123 U122 H locs hp w => ?_)
        obtain ⟨rfl, kU122, mU122, dU122, hdU122, hBU122, hkU122, hKU122⟩ := hp
        have hSa106 := hSa106.keep hKU122 hkU122
        have hK_U122 : KZ (sI S 256 0 0) U122 := hK_U119.tr (kbZ hKU122)
        have h : RI ea U122 ns nj nm nt nr nq := h1.keepZ hK_U122
        have hA41 : A41 s0 U122 := hA41.kq hKU122 rfl
        have hn19 : ∀ x, 1 ≤ x → ¬ vV U122 19 x := fun x hx9 => by rw [hKU122.V (t := 19) (i := x) rfl]; exact hn19 x hx9
        have hn18 : ∀ x, 2 ≤ x → ¬ vV U122 18 x := fun x hx9 => by rw [hKU122.V (t := 18) (i := x) rfl]; exact hn18 x hx9
        refine ldS X wS9_X16_353 dX16_tell_201 ?_
        refine cV (S := U122) (nA := 1) (As := [.ref (saOf s0 "CavershamShiftModel" 353)]) (rest := []) X w hl hBU122.hv (m_J4_append_15ec4 G U122 1 kU122 (((((0 + dU112) + 2) + dU117) + 4) + dU122) mU122 (saOf s0 "CavershamShiftModel" 353) 2 hBU122 (Or.inl (cs_X16_353 G)) (by omega)) wY_J4_append_15ec4 wM_X16_332 wIn_J4_append_15ec4 wSe_J4_J4_append_15ec4 wI_J4 (by decide) rfl (by decide +kernel) rfl rfl dX16_tell_204 ⟨Nat.le_of_ble_eq_true rfl, Nat.le_of_ble_eq_true rfl⟩ (Nat.le_of_ble_eq_true rfl) (⟨Nat.le_of_ble_eq_true rfl, Nat.le_of_ble_eq_true rfl⟩) (fun v125 U124 H locs hp w => ?_)
        obtain ⟨rfl, kU124, mU124, hBU124, hkU124, hKU124⟩ := hp
        have hSa106 := hSa106.keep hKU124 hkU124
        have hK_U124 : KZ (sI S 256 0 0) U124 := hK_U122.tr (kbZ hKU124)
        have h : RI ea U124 ns nj nm nt nr nq := h1.keepZ hK_U124
        have hA41 : A41 s0 U124 := hA41.kq hKU124 rfl
        have hn19 : ∀ x, 1 ≤ x → ¬ vV U124 19 x := fun x hx9 => by rw [hKU124.V (t := 19) (i := x) rfl]; exact hn19 x hx9
        have hn18 : ∀ x, 2 ≤ x → ¬ vV U124 18 x := fun x hx9 => by rw [hKU124.V (t := 18) (i := x) rfl]; exact hn18 x hx9
        refine lv_aload hx hb dX16_tell_207 (lv_at hl 0 rfl) ?_
        refine cV (S := U124) (nA := 1) (As := [.ref a106]) (rest := []) X w hl hBU124.hv (m_J4_append_15ec4 G U124 1 kU124 ((((((0 + dU112) + 2) + dU117) + 4) + dU122) + 2) mU124 a106 ((0 + wb13) + 5) hBU124 hSa106 (by omega)) wY_J4_append_15ec4 wM_X16_332 wIn_J4_append_15ec4 wSe_J4_J4_append_15ec4 wI_J4 (by decide) rfl (by decide +kernel) rfl rfl dX16_tell_209 ⟨Nat.le_of_ble_eq_true rfl, Nat.le_of_ble_eq_true rfl⟩ (Nat.le_of_ble_eq_true rfl) (⟨Nat.le_of_ble_eq_true rfl, Nat.le_of_ble_eq_true rfl⟩) (fun v127 U126 H locs hp w => ?_)
        obtain ⟨rfl, kU126, mU126, hBU126, hkU126, hKU126⟩ := hp
        have hSa106 := hSa106.keep hKU126 hkU126
        have hK_U126 : KZ (sI S 256 0 0) U126 := hK_U124.tr (kbZ hKU126)
        have h : RI ea U126 ns nj nm nt nr nq := h1.keepZ hK_U126
        have hA41 : A41 s0 U126 := hA41.kq hKU126 rfl
        have hn19 : ∀ x, 1 ≤ x → ¬ vV U126 19 x := fun x hx9 => by rw [hKU126.V (t := 19) (i := x) rfl]; exact hn19 x hx9
        have hn18 : ∀ x, 2 ≤ x → ¬ vV U126 18 x := fun x hx9 => by rw [hKU126.V (t := 18) (i := x) rfl]; exact hn18 x hx9
        refine cV (S := U126) (nA := 0) (As := []) (rest := []) X w hl hBU126.hv (m_J4_toString_0e30d G U126 1 1 kU126 (((((((0 + dU112) + 2) + dU117) + 4) + dU122) + 2) + ((0 + wb13) + 5)) mU126 hBU126 (hn19 1 (Nat.le_refl _))) wY_J4_toString_0e30d wM_X16_342 wIn_J4_toString_0e30d wSe_J4_J4_toString_0e30d wI_J4 (by decide) rfl (by decide +kernel) rfl rfl dX16_tell_212 ⟨Nat.le_of_ble_eq_true rfl, Nat.le_of_ble_eq_true rfl⟩ (Nat.le_of_ble_eq_true rfl) (⟨Nat.le_of_ble_eq_true rfl, Nat.le_of_ble_eq_true rfl⟩) (fun v130 U128 H locs hp w => ?_)
        obtain ⟨eaa129, hSa129, h42U128, h19U128, hTU128⟩ := hp
        obtain ⟨a129, ea129⟩ : ∃ z, z = gG U128 19 1 := ⟨_, rfl⟩
        rw [← ea129] at eaa129 hSa129
        subst eaa129
        have hK_U128 : KZ (sI S 256 0 0) U128 := hK_U126.tr (ktZ hTU128)
        have h : RI ea U128 ns nj nm nt nr nq := h1.keepZ hK_U128
        have hA41 : A41 s0 U128 := hA41.kq hTU128 rfl
        have hn19 : ∀ x, 2 ≤ x → ¬ vV U128 19 x := fun x hx9 => by rw [h19U128 x (by omega)]; exact hn19 x (by omega)
        have hn18 : ∀ x, 2 ≤ x → ¬ vV U128 18 x := fun x hx9 => by rw [hTU128.V (t := 18) (i := x) rfl]; exact hn18 x hx9
        exact rA (v := some a129) X (w.offZ hK_U128 hZs) rfl (Or.inl ⟨_, rfl⟩) dX16_tell_215 (Nat.le_of_ble_eq_true rfl) (Nat.le_of_ble_eq_true rfl) ⟨⟨_, rfl⟩, ⟨_, hea ▸ h1, hQ, hZr, hF.keepT hK1, (hK1.I (f := 257) (i := 0) rfl).trans hg⟩, kTR hK1⟩
    · refine lv_aload_n hx hb dX16_tell_72 rfl (lv_at hl 2 rfl) ?_
      refine rE0 ((rfl).trans ((hK_N5.G (t := 16) (i := 0) rfl)).symm) ?_
      refine g_16_1 (S := Sx) (x := (mI Sx 257 0)) X w h.v wF_X16_125 (rfl) dX16_tell_73 ?_
      refine lv_aload_n hx hb dX16_tell_76 rfl (lv_at hl 1 rfl) ?_
      refine rE0 ((rfl).trans ((hK_N5.G (t := 15) (i := j3) rfl)).symm) ?_
      obtain ⟨g131, hlg131, heg131⟩ := h.x_th j3 hlj3
      refine g_15_1 (S := Sx) (x := (nI g131)) X w (h.e_ta j3 hlj3).2 wF_X16_112 (heg131) dX16_tell_77 ?_
      refine lv_icmp_le (tgt := 89) hx hb dX16_tell_80 (by decide) (fun hc132 => ?_) (fun hc132 => ?_)
      · refine ldS X wS9_X16_327 dX16_tell_89 ?_
        refine lv_goto (tgt := 162) hx hb dX16_tell_92 (by decide) ?_
        refine lv_astore (lv' := [(4, .ref (saOf s0 "CavershamShiftModel" 327)), (3, .ref (gG (sArr (sI S 256 0 0) 41 0 q41 4) 41 0)), (2, .ref (gG (sI S 256 0 0) 15 j3)), (0, .ref (gG S 16 0)), (1, .int (nI j3))]) hx hb dX16_tell_162 hl (by decide) rfl (fun ls hl => ?_)
        refine nwO (S := Sx) (t := 18) (n := 4) X w 0 (hn18 0 (Nat.le_refl _)) (Or.inl (by decide)) (by decide) rfl in_18 tyJ4 tyJ4_ok (by decide +kernel) wC_X16_329 wNew_J4 wI_J4 dX16_tell_164 rfl (Nat.le_of_ble_eq_true rfl) (Nat.le_of_ble_eq_true rfl) (fun q133 S2 H hS2 w => ?_)
        subst hS2
        have hK_N134 : KZ (sI S 256 0 0) (sNew Sx 18 0 q133) := hK_N5.new rfl (by decide) (fun f z => hz18 f z) (fun f z => hz18 f z)
        have h : RI ea (sNew Sx 18 0 q133) ns nj nm nt nr nq := h1.keepZ hK_N134
        have hA41 : A41 s0 (sNew Sx 18 0 q133) := hA41.new
        have hn19 : ∀ x, 0 ≤ x → ¬ vV (sNew Sx 18 0 q133) 19 x := fun x hx9 v => v.elim (hn19 x hx9) (fun z => absurd z.1 (by decide))
        have hn18 : ∀ x, 1 ≤ x → ¬ vV (sNew Sx 18 0 q133) 18 x := fun x hx9 v => v.elim (hn18 x (by omega)) (fun z => by omega)
        refine lv_dup hx hb dX16_tell_167 rfl ?_
        refine cI (S := (sNew Sx 18 0 q133)) (nA := 0) (As := []) (rest := [.ref (gG (sNew Sx 18 0 q133) 18 0)]) X w hl (m_J4_init_da8c8 G (sNew Sx 18 0 q133) 0 0 (Or.inr ⟨rfl, rfl⟩) (nwI_0 rfl) (fun j hj9 v => v.elim (h42S j hj9) (fun z => absurd z.1 (by decide)))) wY_J4_init_da8c8 wM_X16_331 wIn_J4_init_da8c8 wI_J4 rfl (by decide +kernel) rfl rfl dX16_tell_168 ⟨by decide, by decide⟩ (Nat.le_of_ble_eq_true rfl) (⟨Nat.le_of_ble_eq_true rfl, Nat.le_of_ble_eq_true rfl⟩) (fun v136 U135 H locs hp w => ?_)
        obtain ⟨rfl, hB, hKU135⟩ := hp
        have hK_U135 : KZ (sI S 256 0 0) U135 := hK_N134.tr (kbZ hKU135)
        have h : RI ea U135 ns nj nm nt nr nq := h1.keepZ hK_U135
        have hA41 : A41 s0 U135 := hA41.kq hKU135 rfl
        have hn19 : ∀ x, 0 ≤ x → ¬ vV U135 19 x := fun x hx9 => by rw [hKU135.V (t := 19) (i := x) rfl]; exact hn19 x hx9
        have hn18 : ∀ x, 1 ≤ x → ¬ vV U135 18 x := fun x hx9 => by rw [hKU135.V (t := 18) (i := x) rfl]; exact hn18 x hx9
        refine lv_iload_n hx hb dX16_tell_171 rfl (lv_at hl 4 rfl) ?_
        refine rE1 ((rfl).trans ((hKU135.G (t := 18) (i := 0) rfl).trans (rfl)).symm) ?_
        refine cV (S := U135) (nA := 1) (As := [.int (nI j3)]) (rest := []) X w hl hB.hv (m_J4_append_bf812 G U135 0 0 0 16 j3 hB (by omega) (by omega)) wY_J4_append_bf812 wM_X16_346 wIn_J4_append_bf812 wSe_J4_J4_append_bf812 wI_J4 (by decide) rfl (by decide +kernel) rfl rfl dX16_tell_172 ⟨Nat.le_of_ble_eq_true rfl, Nat.le_of_ble_eq_true rfl⟩ (Nat.le_of_ble_eq_true rfl) (⟨Nat.le_of_ble_eq_true rfl, Nat.le_of_ble_eq_true rfl⟩) (fun v138 U137 H locs hp w => ?_)
        obtain ⟨rfl, kU137, mU137, dU137, hdU137, hBU137, hkU137, hKU137⟩ := hp
        have hK_U137 : KZ (sI S 256 0 0) U137 := hK_U135.tr (kbZ hKU137)
        have h : RI ea U137 ns nj nm nt nr nq := h1.keepZ hK_U137
        have hA41 : A41 s0 U137 := hA41.kq hKU137 rfl
        have hn19 : ∀ x, 0 ≤ x → ¬ vV U137 19 x := fun x hx9 => by rw [hKU137.V (t := 19) (i := x) rfl]; exact hn19 x hx9
        have hn18 : ∀ x, 1 ≤ x → ¬ vV U137 18 x := fun x hx9 => by rw [hKU137.V (t := 18) (i := x) rfl]; exact hn18 x hx9
        refine ldS X wS9_X16_349 dX16_tell_175 ?_
        refine cV (S := U137) (nA := 1) (As := [.ref (saOf s0 "CavershamShiftModel" 349)]) (rest := []) X w hl hBU137.hv (m_J4_append_15ec4 G U137 0 kU137 (0 + dU137) mU137 (saOf s0 "CavershamShiftModel" 349) 2 hBU137 (Or.inl (cs_X16_349 G)) (by omega)) wY_J4_append_15ec4 wM_X16_332 wIn_J4_append_15ec4 wSe_J4_J4_append_15ec4 wI_J4 (by decide) rfl (by decide +kernel) rfl rfl dX16_tell_178 ⟨Nat.le_of_ble_eq_true rfl, Nat.le_of_ble_eq_true rfl⟩ (Nat.le_of_ble_eq_true rfl) (⟨Nat.le_of_ble_eq_true rfl, Nat.le_of_ble_eq_true rfl⟩) (fun v140 U139 H locs hp w => ?_)
        obtain ⟨rfl, kU139, mU139, hBU139, hkU139, hKU139⟩ := hp
        have hK_U139 : KZ (sI S 256 0 0) U139 := hK_U137.tr (kbZ hKU139)
        have h : RI ea U139 ns nj nm nt nr nq := h1.keepZ hK_U139
        have hA41 : A41 s0 U139 := hA41.kq hKU139 rfl
        have hn19 : ∀ x, 0 ≤ x → ¬ vV U139 19 x := fun x hx9 => by rw [hKU139.V (t := 19) (i := x) rfl]; exact hn19 x hx9
        have hn18 : ∀ x, 1 ≤ x → ¬ vV U139 18 x := fun x hx9 => by rw [hKU139.V (t := 18) (i := x) rfl]; exact hn18 x hx9
        refine lv_aload_n hx hb dX16_tell_181 rfl (lv_at hl 2 rfl) ?_
        refine rE0 ((rfl).trans ((hK_U139.G (t := 15) (i := j3) rfl)).symm) ?_
        obtain ⟨g141, hlg141, heg141⟩ := h.x_ts j3 hlj3
        refine g_15_0 (S := U139) (x := (nI g141)) X w (h.e_ta j3 hlj3).2 wF_X16_104 (heg141) dX16_tell_182 ?_
        refine cV (S := U139) (nA := 1) (As := [.int (nI g141)]) (rest := []) X w hl hBU139.hv (m_J4_append_bf812 G U139 0 kU139 ((0 + dU137) + 2) mU139 g141 hBU139 (by omega) (by omega)) wY_J4_append_bf812 wM_X16_346 wIn_J4_append_bf812 wSe_J4_J4_append_bf812 wI_J4 (by decide) rfl (by decide +kernel) rfl rfl dX16_tell_185 ⟨Nat.le_of_ble_eq_true rfl, Nat.le_of_ble_eq_true rfl⟩ (Nat.le_of_ble_eq_true rfl) (⟨Nat.le_of_ble_eq_true rfl, Nat.le_of_ble_eq_true rfl⟩) (fun v143 U142 H locs hp w => ?_)
        obtain ⟨rfl, kU142, mU142, dU142, hdU142, hBU142, hkU142, hKU142⟩ := hp
        have hK_U142 : KZ (sI S 256 0 0) U142 := hK_U139.tr (kbZ hKU142)
        have h : RI ea U142 ns nj nm nt nr nq := h1.keepZ hK_U142
        have hA41 : A41 s0 U142 := hA41.kq hKU142 rfl
        have hn19 : ∀ x, 0 ≤ x → ¬ vV U142 19 x := fun x hx9 => by rw [hKU142.V (t := 19) (i := x) rfl]; exact hn19 x hx9
        have hn18 : ∀ x, 1 ≤ x → ¬ vV U142 18 x := fun x hx9 => by rw [hKU142.V (t := 18) (i := x) rfl]; exact hn18 x hx9
        refine ldS X wS9_X16_351 dX16_tell_188 ?_
        refine cV (S := U142) (nA := 1) (As := [.ref (saOf s0 "CavershamShiftModel" 351)]) (rest := []) X w hl hBU142.hv (m_J4_append_15ec4 G U142 0 kU142 (((0 + dU137) + 2) + dU142) mU142 (saOf s0 "CavershamShiftModel" 351) 4 hBU142 (Or.inl (cs_X16_351 G)) (by omega)) wY_J4_append_15ec4 wM_X16_332 wIn_J4_append_15ec4 wSe_J4_J4_append_15ec4 wI_J4 (by decide) rfl (by decide +kernel) rfl rfl dX16_tell_191 ⟨Nat.le_of_ble_eq_true rfl, Nat.le_of_ble_eq_true rfl⟩ (Nat.le_of_ble_eq_true rfl) (⟨Nat.le_of_ble_eq_true rfl, Nat.le_of_ble_eq_true rfl⟩) (fun v145 U144 H locs hp w => ?_)
        obtain ⟨rfl, kU144, mU144, hBU144, hkU144, hKU144⟩ := hp
        have hK_U144 : KZ (sI S 256 0 0) U144 := hK_U142.tr (kbZ hKU144)
        have h : RI ea U144 ns nj nm nt nr nq := h1.keepZ hK_U144
        have hA41 : A41 s0 U144 := hA41.kq hKU144 rfl
        have hn19 : ∀ x, 0 ≤ x → ¬ vV U144 19 x := fun x hx9 => by rw [hKU144.V (t := 19) (i := x) rfl]; exact hn19 x hx9
        have hn18 : ∀ x, 1 ≤ x → ¬ vV U144 18 x := fun x hx9 => by rw [hKU144.V (t := 18) (i := x) rfl]; exact hn18 x hx9
        refine lv_aload_n hx hb dX16_tell_194 rfl (lv_at hl 2 rfl) ?_
        refine rE0 ((rfl).trans ((hK_U144.G (t := 15) (i := j3) rfl)).symm) ?_
        obtain ⟨g146, hlg146, heg146⟩ := h.x_th j3 hlj3
        refine g_15_1 (S := U144) (x := (nI g146)) X w (h.e_ta j3 hlj3).2 wF_X16_112 (heg146) dX16_tell_195 ?_
        refine cV (S := U144) (nA := 1) (As := [.int (nI g146)]) (rest := []) X w hl hBU144.hv (m_J4_append_bf812 G U144 0 kU144 ((((0 + dU137) + 2) + dU142) + 4) mU144 g146 hBU144 (by omega) (by omega)) wY_J4_append_bf812 wM_X16_346 wIn_J4_append_bf812 wSe_J4_J4_append_bf812 wI_J4 (by decide) rfl (by decide +kernel) rfl rfl dX16_tell_198 ⟨Nat.le_of_ble_eq_true rfl, Nat.le_of_ble_eq_true rfl⟩ (Nat.le_of_ble_eq_true rfl) (⟨Nat.le_of_ble_eq_true rfl, Nat.le_of_ble_eq_true rfl⟩) (fun v148 U147 H locs hp w => ?_)
        obtain ⟨rfl, kU147, mU147, dU147, hdU147, hBU147, hkU147, hKU147⟩ := hp
        have hK_U147 : KZ (sI S 256 0 0) U147 := hK_U144.tr (kbZ hKU147)
        have h : RI ea U147 ns nj nm nt nr nq := h1.keepZ hK_U147
        have hA41 : A41 s0 U147 := hA41.kq hKU147 rfl
        have hn19 : ∀ x, 0 ≤ x → ¬ vV U147 19 x := fun x hx9 => by rw [hKU147.V (t := 19) (i := x) rfl]; exact hn19 x hx9
        have hn18 : ∀ x, 1 ≤ x → ¬ vV U147 18 x := fun x hx9 => by rw [hKU147.V (t := 18) (i := x) rfl]; exact hn18 x hx9
        refine ldS X wS9_X16_353 dX16_tell_201 ?_
        refine cV (S := U147) (nA := 1) (As := [.ref (saOf s0 "CavershamShiftModel" 353)]) (rest := []) X w hl hBU147.hv (m_J4_append_15ec4 G U147 0 kU147 (((((0 + dU137) + 2) + dU142) + 4) + dU147) mU147 (saOf s0 "CavershamShiftModel" 353) 2 hBU147 (Or.inl (cs_X16_353 G)) (by omega)) wY_J4_append_15ec4 wM_X16_332 wIn_J4_append_15ec4 wSe_J4_J4_append_15ec4 wI_J4 (by decide) rfl (by decide +kernel) rfl rfl dX16_tell_204 ⟨Nat.le_of_ble_eq_true rfl, Nat.le_of_ble_eq_true rfl⟩ (Nat.le_of_ble_eq_true rfl) (⟨Nat.le_of_ble_eq_true rfl, Nat.le_of_ble_eq_true rfl⟩) (fun v150 U149 H locs hp w => ?_)
        obtain ⟨rfl, kU149, mU149, hBU149, hkU149, hKU149⟩ := hp
        have hK_U149 : KZ (sI S 256 0 0) U149 := hK_U147.tr (kbZ hKU149)
        have h : RI ea U149 ns nj nm nt nr nq := h1.keepZ hK_U149
        have hA41 : A41 s0 U149 := hA41.kq hKU149 rfl
        have hn19 : ∀ x, 0 ≤ x → ¬ vV U149 19 x := fun x hx9 => by rw [hKU149.V (t := 19) (i := x) rfl]; exact hn19 x hx9
        have hn18 : ∀ x, 1 ≤ x → ¬ vV U149 18 x := fun x hx9 => by rw [hKU149.V (t := 18) (i := x) rfl]; exact hn18 x hx9
        refine lv_aload hx hb dX16_tell_207 (lv_at hl 0 rfl) ?_
        refine cV (S := U149) (nA := 1) (As := [.ref (saOf s0 "CavershamShiftModel" 327)]) (rest := []) X w hl hBU149.hv (m_J4_append_15ec4 G U149 0 kU149 ((((((0 + dU137) + 2) + dU142) + 4) + dU147) + 2) mU149 (saOf s0 "CavershamShiftModel" 327) 7 hBU149 (Or.inl (cs_X16_327 G)) (by omega)) wY_J4_append_15ec4 wM_X16_332 wIn_J4_append_15ec4 wSe_J4_J4_append_15ec4 wI_J4 (by decide) rfl (by decide +kernel) rfl rfl dX16_tell_209 ⟨Nat.le_of_ble_eq_true rfl, Nat.le_of_ble_eq_true rfl⟩ (Nat.le_of_ble_eq_true rfl) (⟨Nat.le_of_ble_eq_true rfl, Nat.le_of_ble_eq_true rfl⟩) (fun v152 U151 H locs hp w => ?_)
        obtain ⟨rfl, kU151, mU151, hBU151, hkU151, hKU151⟩ := hp
        have hK_U151 : KZ (sI S 256 0 0) U151 := hK_U149.tr (kbZ hKU151)
        have h : RI ea U151 ns nj nm nt nr nq := h1.keepZ hK_U151
        have hA41 : A41 s0 U151 := hA41.kq hKU151 rfl
        have hn19 : ∀ x, 0 ≤ x → ¬ vV U151 19 x := fun x hx9 => by rw [hKU151.V (t := 19) (i := x) rfl]; exact hn19 x hx9
        have hn18 : ∀ x, 1 ≤ x → ¬ vV U151 18 x := fun x hx9 => by rw [hKU151.V (t := 18) (i := x) rfl]; exact hn18 x hx9
        refine cV (S := U151) (nA := 0) (As := []) (rest := []) X w hl hBU151.hv (m_J4_toString_0e30d G U151 0 0 kU151 (((((((0 + dU137) + 2) + dU142) + 4) + dU147) + 2) + 7) mU151 hBU151 (hn19 0 (Nat.le_refl _))) wY_J4_toString_0e30d wM_X16_342 wIn_J4_toString_0e30d wSe_J4_J4_toString_0e30d wI_J4 (by decide) rfl (by decide +kernel) rfl rfl dX16_tell_212 ⟨Nat.le_of_ble_eq_true rfl, Nat.le_of_ble_eq_true rfl⟩ (Nat.le_of_ble_eq_true rfl) (⟨Nat.le_of_ble_eq_true rfl, Nat.le_of_ble_eq_true rfl⟩) (fun v155 U153 H locs hp w => ?_)
        obtain ⟨eaa154, hSa154, h42U153, h19U153, hTU153⟩ := hp
        obtain ⟨a154, ea154⟩ : ∃ z, z = gG U153 19 0 := ⟨_, rfl⟩
        rw [← ea154] at eaa154 hSa154
        subst eaa154
        have hK_U153 : KZ (sI S 256 0 0) U153 := hK_U151.tr (ktZ hTU153)
        have h : RI ea U153 ns nj nm nt nr nq := h1.keepZ hK_U153
        have hA41 : A41 s0 U153 := hA41.kq hTU153 rfl
        have hn19 : ∀ x, 1 ≤ x → ¬ vV U153 19 x := fun x hx9 => by rw [h19U153 x (by omega)]; exact hn19 x (by omega)
        have hn18 : ∀ x, 1 ≤ x → ¬ vV U153 18 x := fun x hx9 => by rw [hTU153.V (t := 18) (i := x) rfl]; exact hn18 x hx9
        exact rA (v := some a154) X (w.offZ hK_U153 hZs) rfl (Or.inl ⟨_, rfl⟩) dX16_tell_215 (Nat.le_of_ble_eq_true rfl) (Nat.le_of_ble_eq_true rfl) ⟨⟨_, rfl⟩, ⟨_, hea ▸ h1, hQ, hZr, hF.keepT hK1, (hK1.I (f := 257) (i := 0) rfl).trans hg⟩, kTR hK1⟩
      · refine ldS X wS9_X16_325 dX16_tell_83 ?_
        refine lv_goto (tgt := 162) hx hb dX16_tell_86 (by decide) ?_
        refine lv_astore (lv' := [(4, .ref (saOf s0 "CavershamShiftModel" 325)), (3, .ref (gG (sArr (sI S 256 0 0) 41 0 q41 4) 41 0)), (2, .ref (gG (sI S 256 0 0) 15 j3)), (0, .ref (gG S 16 0)), (1, .int (nI j3))]) hx hb dX16_tell_162 hl (by decide) rfl (fun ls hl => ?_)
        refine nwO (S := Sx) (t := 18) (n := 4) X w 0 (hn18 0 (Nat.le_refl _)) (Or.inl (by decide)) (by decide) rfl in_18 tyJ4 tyJ4_ok (by decide +kernel) wC_X16_329 wNew_J4 wI_J4 dX16_tell_164 rfl (Nat.le_of_ble_eq_true rfl) (Nat.le_of_ble_eq_true rfl) (fun q156 S2 H hS2 w => ?_)
        subst hS2
        have hK_N157 : KZ (sI S 256 0 0) (sNew Sx 18 0 q156) := hK_N5.new rfl (by decide) (fun f z => hz18 f z) (fun f z => hz18 f z)
        have h : RI ea (sNew Sx 18 0 q156) ns nj nm nt nr nq := h1.keepZ hK_N157
        have hA41 : A41 s0 (sNew Sx 18 0 q156) := hA41.new
        have hn19 : ∀ x, 0 ≤ x → ¬ vV (sNew Sx 18 0 q156) 19 x := fun x hx9 v => v.elim (hn19 x hx9) (fun z => absurd z.1 (by decide))
        have hn18 : ∀ x, 1 ≤ x → ¬ vV (sNew Sx 18 0 q156) 18 x := fun x hx9 v => v.elim (hn18 x (by omega)) (fun z => by omega)
        refine lv_dup hx hb dX16_tell_167 rfl ?_
        refine cI (S := (sNew Sx 18 0 q156)) (nA := 0) (As := []) (rest := [.ref (gG (sNew Sx 18 0 q156) 18 0)]) X w hl (m_J4_init_da8c8 G (sNew Sx 18 0 q156) 0 0 (Or.inr ⟨rfl, rfl⟩) (nwI_0 rfl) (fun j hj9 v => v.elim (h42S j hj9) (fun z => absurd z.1 (by decide)))) wY_J4_init_da8c8 wM_X16_331 wIn_J4_init_da8c8 wI_J4 rfl (by decide +kernel) rfl rfl dX16_tell_168 ⟨by decide, by decide⟩ (Nat.le_of_ble_eq_true rfl) (⟨Nat.le_of_ble_eq_true rfl, Nat.le_of_ble_eq_true rfl⟩) (fun v159 U158 H locs hp w => ?_)
        obtain ⟨rfl, hB, hKU158⟩ := hp
        have hK_U158 : KZ (sI S 256 0 0) U158 := hK_N157.tr (kbZ hKU158)
        have h : RI ea U158 ns nj nm nt nr nq := h1.keepZ hK_U158
        have hA41 : A41 s0 U158 := hA41.kq hKU158 rfl
        have hn19 : ∀ x, 0 ≤ x → ¬ vV U158 19 x := fun x hx9 => by rw [hKU158.V (t := 19) (i := x) rfl]; exact hn19 x hx9
        have hn18 : ∀ x, 1 ≤ x → ¬ vV U158 18 x := fun x hx9 => by rw [hKU158.V (t := 18) (i := x) rfl]; exact hn18 x hx9
        refine lv_iload_n hx hb dX16_tell_171 rfl (lv_at hl 4 rfl) ?_
        refine rE1 ((rfl).trans ((hKU158.G (t := 18) (i := 0) rfl).trans (rfl)).symm) ?_
        refine cV (S := U158) (nA := 1) (As := [.int (nI j3)]) (rest := []) X w hl hB.hv (m_J4_append_bf812 G U158 0 0 0 16 j3 hB (by omega) (by omega)) wY_J4_append_bf812 wM_X16_346 wIn_J4_append_bf812 wSe_J4_J4_append_bf812 wI_J4 (by decide) rfl (by decide +kernel) rfl rfl dX16_tell_172 ⟨Nat.le_of_ble_eq_true rfl, Nat.le_of_ble_eq_true rfl⟩ (Nat.le_of_ble_eq_true rfl) (⟨Nat.le_of_ble_eq_true rfl, Nat.le_of_ble_eq_true rfl⟩) (fun v161 U160 H locs hp w => ?_)
        obtain ⟨rfl, kU160, mU160, dU160, hdU160, hBU160, hkU160, hKU160⟩ := hp
        have hK_U160 : KZ (sI S 256 0 0) U160 := hK_U158.tr (kbZ hKU160)
        have h : RI ea U160 ns nj nm nt nr nq := h1.keepZ hK_U160
        have hA41 : A41 s0 U160 := hA41.kq hKU160 rfl
        have hn19 : ∀ x, 0 ≤ x → ¬ vV U160 19 x := fun x hx9 => by rw [hKU160.V (t := 19) (i := x) rfl]; exact hn19 x hx9
        have hn18 : ∀ x, 1 ≤ x → ¬ vV U160 18 x := fun x hx9 => by rw [hKU160.V (t := 18) (i := x) rfl]; exact hn18 x hx9
        refine ldS X wS9_X16_349 dX16_tell_175 ?_
        refine cV (S := U160) (nA := 1) (As := [.ref (saOf s0 "CavershamShiftModel" 349)]) (rest := []) X w hl hBU160.hv (m_J4_append_15ec4 G U160 0 kU160 (0 + dU160) mU160 (saOf s0 "CavershamShiftModel" 349) 2 hBU160 (Or.inl (cs_X16_349 G)) (by omega)) wY_J4_append_15ec4 wM_X16_332 wIn_J4_append_15ec4 wSe_J4_J4_append_15ec4 wI_J4 (by decide) rfl (by decide +kernel) rfl rfl dX16_tell_178 ⟨Nat.le_of_ble_eq_true rfl, Nat.le_of_ble_eq_true rfl⟩ (Nat.le_of_ble_eq_true rfl) (⟨Nat.le_of_ble_eq_true rfl, Nat.le_of_ble_eq_true rfl⟩) (fun v163 U162 H locs hp w => ?_)
        obtain ⟨rfl, kU162, mU162, hBU162, hkU162, hKU162⟩ := hp
        have hK_U162 : KZ (sI S 256 0 0) U162 := hK_U160.tr (kbZ hKU162)
        have h : RI ea U162 ns nj nm nt nr nq := h1.keepZ hK_U162
        have hA41 : A41 s0 U162 := hA41.kq hKU162 rfl
        have hn19 : ∀ x, 0 ≤ x → ¬ vV U162 19 x := fun x hx9 => by rw [hKU162.V (t := 19) (i := x) rfl]; exact hn19 x hx9
        have hn18 : ∀ x, 1 ≤ x → ¬ vV U162 18 x := fun x hx9 => by rw [hKU162.V (t := 18) (i := x) rfl]; exact hn18 x hx9
        refine lv_aload_n hx hb dX16_tell_181 rfl (lv_at hl 2 rfl) ?_
        refine rE0 ((rfl).trans ((hK_U162.G (t := 15) (i := j3) rfl)).symm) ?_
        obtain ⟨g164, hlg164, heg164⟩ := h.x_ts j3 hlj3
        refine g_15_0 (S := U162) (x := (nI g164)) X w (h.e_ta j3 hlj3).2 wF_X16_104 (heg164) dX16_tell_182 ?_
        refine cV (S := U162) (nA := 1) (As := [.int (nI g164)]) (rest := []) X w hl hBU162.hv (m_J4_append_bf812 G U162 0 kU162 ((0 + dU160) + 2) mU162 g164 hBU162 (by omega) (by omega)) wY_J4_append_bf812 wM_X16_346 wIn_J4_append_bf812 wSe_J4_J4_append_bf812 wI_J4 (by decide) rfl (by decide +kernel) rfl rfl dX16_tell_185 ⟨Nat.le_of_ble_eq_true rfl, Nat.le_of_ble_eq_true rfl⟩ (Nat.le_of_ble_eq_true rfl) (⟨Nat.le_of_ble_eq_true rfl, Nat.le_of_ble_eq_true rfl⟩) (fun v166 U165 H locs hp w => ?_)
        obtain ⟨rfl, kU165, mU165, dU165, hdU165, hBU165, hkU165, hKU165⟩ := hp
        have hK_U165 : KZ (sI S 256 0 0) U165 := hK_U162.tr (kbZ hKU165)
        have h : RI ea U165 ns nj nm nt nr nq := h1.keepZ hK_U165
        have hA41 : A41 s0 U165 := hA41.kq hKU165 rfl
        have hn19 : ∀ x, 0 ≤ x → ¬ vV U165 19 x := fun x hx9 => by rw [hKU165.V (t := 19) (i := x) rfl]; exact hn19 x hx9
        have hn18 : ∀ x, 1 ≤ x → ¬ vV U165 18 x := fun x hx9 => by rw [hKU165.V (t := 18) (i := x) rfl]; exact hn18 x hx9
        refine ldS X wS9_X16_351 dX16_tell_188 ?_
        refine cV (S := U165) (nA := 1) (As := [.ref (saOf s0 "CavershamShiftModel" 351)]) (rest := []) X w hl hBU165.hv (m_J4_append_15ec4 G U165 0 kU165 (((0 + dU160) + 2) + dU165) mU165 (saOf s0 "CavershamShiftModel" 351) 4 hBU165 (Or.inl (cs_X16_351 G)) (by omega)) wY_J4_append_15ec4 wM_X16_332 wIn_J4_append_15ec4 wSe_J4_J4_append_15ec4 wI_J4 (by decide) rfl (by decide +kernel) rfl rfl dX16_tell_191 ⟨Nat.le_of_ble_eq_true rfl, Nat.le_of_ble_eq_true rfl⟩ (Nat.le_of_ble_eq_true rfl) (⟨Nat.le_of_ble_eq_true rfl, Nat.le_of_ble_eq_true rfl⟩) (fun v168 U167 H locs hp w => ?_)
        obtain ⟨rfl, kU167, mU167, hBU167, hkU167, hKU167⟩ := hp
        have hK_U167 : KZ (sI S 256 0 0) U167 := hK_U165.tr (kbZ hKU167)
        have h : RI ea U167 ns nj nm nt nr nq := h1.keepZ hK_U167
        have hA41 : A41 s0 U167 := hA41.kq hKU167 rfl
        have hn19 : ∀ x, 0 ≤ x → ¬ vV U167 19 x := fun x hx9 => by rw [hKU167.V (t := 19) (i := x) rfl]; exact hn19 x hx9
        have hn18 : ∀ x, 1 ≤ x → ¬ vV U167 18 x := fun x hx9 => by rw [hKU167.V (t := 18) (i := x) rfl]; exact hn18 x hx9
        refine lv_aload_n hx hb dX16_tell_194 rfl (lv_at hl 2 rfl) ?_
        refine rE0 ((rfl).trans ((hK_U167.G (t := 15) (i := j3) rfl)).symm) ?_
        obtain ⟨g169, hlg169, heg169⟩ := h.x_th j3 hlj3
        refine g_15_1 (S := U167) (x := (nI g169)) X w (h.e_ta j3 hlj3).2 wF_X16_112 (heg169) dX16_tell_195 ?_
        refine cV (S := U167) (nA := 1) (As := [.int (nI g169)]) (rest := []) X w hl hBU167.hv (m_J4_append_bf812 G U167 0 kU167 ((((0 + dU160) + 2) + dU165) + 4) mU167 g169 hBU167 (by omega) (by omega)) wY_J4_append_bf812 wM_X16_346 wIn_J4_append_bf812 wSe_J4_J4_append_bf812 wI_J4 (by decide) rfl (by decide +kernel) rfl rfl dX16_tell_198 ⟨Nat.le_of_ble_eq_true rfl, Nat.le_of_ble_eq_true rfl⟩ (Nat.le_of_ble_eq_true rfl) (⟨Nat.le_of_ble_eq_true rfl, Nat.le_of_ble_eq_true rfl⟩) (fun v171 U170 H locs hp w => ?_)
        obtain ⟨rfl, kU170, mU170, dU170, hdU170, hBU170, hkU170, hKU170⟩ := hp
        have hK_U170 : KZ (sI S 256 0 0) U170 := hK_U167.tr (kbZ hKU170)
        have h : RI ea U170 ns nj nm nt nr nq := h1.keepZ hK_U170
        have hA41 : A41 s0 U170 := hA41.kq hKU170 rfl
        have hn19 : ∀ x, 0 ≤ x → ¬ vV U170 19 x := fun x hx9 => by rw [hKU170.V (t := 19) (i := x) rfl]; exact hn19 x hx9
        have hn18 : ∀ x, 1 ≤ x → ¬ vV U170 18 x := fun x hx9 => by rw [hKU170.V (t := 18) (i := x) rfl]; exact hn18 x hx9
        refine ldS X wS9_X16_353 dX16_tell_201 ?_
        refine cV (S := U170) (nA := 1) (As := [.ref (saOf s0 "CavershamShiftModel" 353)]) (rest := []) X w hl hBU170.hv (m_J4_append_15ec4 G U170 0 kU170 (((((0 + dU160) + 2) + dU165) + 4) + dU170) mU170 (saOf s0 "CavershamShiftModel" 353) 2 hBU170 (Or.inl (cs_X16_353 G)) (by omega)) wY_J4_append_15ec4 wM_X16_332 wIn_J4_append_15ec4 wSe_J4_J4_append_15ec4 wI_J4 (by decide) rfl (by decide +kernel) rfl rfl dX16_tell_204 ⟨Nat.le_of_ble_eq_true rfl, Nat.le_of_ble_eq_true rfl⟩ (Nat.le_of_ble_eq_true rfl) (⟨Nat.le_of_ble_eq_true rfl, Nat.le_of_ble_eq_true rfl⟩) (fun v173 U172 H locs hp w => ?_)
        obtain ⟨rfl, kU172, mU172, hBU172, hkU172, hKU172⟩ := hp
        have hK_U172 : KZ (sI S 256 0 0) U172 := hK_U170.tr (kbZ hKU172)
        have h : RI ea U172 ns nj nm nt nr nq := h1.keepZ hK_U172
        have hA41 : A41 s0 U172 := hA41.kq hKU172 rfl
        have hn19 : ∀ x, 0 ≤ x → ¬ vV U172 19 x := fun x hx9 => by rw [hKU172.V (t := 19) (i := x) rfl]; exact hn19 x hx9
        have hn18 : ∀ x, 1 ≤ x → ¬ vV U172 18 x := fun x hx9 => by rw [hKU172.V (t := 18) (i := x) rfl]; exact hn18 x hx9
        refine lv_aload hx hb dX16_tell_207 (lv_at hl 0 rfl) ?_
        refine cV (S := U172) (nA := 1) (As := [.ref (saOf s0 "CavershamShiftModel" 325)]) (rest := []) X w hl hBU172.hv (m_J4_append_15ec4 G U172 0 kU172 ((((((0 + dU160) + 2) + dU165) + 4) + dU170) + 2) mU172 (saOf s0 "CavershamShiftModel" 325) 6 hBU172 (Or.inl (cs_X16_325 G)) (by omega)) wY_J4_append_15ec4 wM_X16_332 wIn_J4_append_15ec4 wSe_J4_J4_append_15ec4 wI_J4 (by decide) rfl (by decide +kernel) rfl rfl dX16_tell_209 ⟨Nat.le_of_ble_eq_true rfl, Nat.le_of_ble_eq_true rfl⟩ (Nat.le_of_ble_eq_true rfl) (⟨Nat.le_of_ble_eq_true rfl, Nat.le_of_ble_eq_true rfl⟩) (fun v175 U174 H locs hp w => ?_)
        obtain ⟨rfl, kU174, mU174, hBU174, hkU174, hKU174⟩ := hp
        have hK_U174 : KZ (sI S 256 0 0) U174 := hK_U172.tr (kbZ hKU174)
        have h : RI ea U174 ns nj nm nt nr nq := h1.keepZ hK_U174
        have hA41 : A41 s0 U174 := hA41.kq hKU174 rfl
        have hn19 : ∀ x, 0 ≤ x → ¬ vV U174 19 x := fun x hx9 => by rw [hKU174.V (t := 19) (i := x) rfl]; exact hn19 x hx9
        have hn18 : ∀ x, 1 ≤ x → ¬ vV U174 18 x := fun x hx9 => by rw [hKU174.V (t := 18) (i := x) rfl]; exact hn18 x hx9
        refine cV (S := U174) (nA := 0) (As := []) (rest := []) X w hl hBU174.hv (m_J4_toString_0e30d G U174 0 0 kU174 (((((((0 + dU160) + 2) + dU165) + 4) + dU170) + 2) + 6) mU174 hBU174 (hn19 0 (Nat.le_refl _))) wY_J4_toString_0e30d wM_X16_342 wIn_J4_toString_0e30d wSe_J4_J4_toString_0e30d wI_J4 (by decide) rfl (by decide +kernel) rfl rfl dX16_tell_212 ⟨Nat.le_of_ble_eq_true rfl, Nat.le_of_ble_eq_true rfl⟩ (Nat.le_of_ble_eq_true rfl) (⟨Nat.le_of_ble_eq_true rfl, Nat.le_of_ble_eq_true rfl⟩) (fun v178 U176 H locs hp w => ?_)
        obtain ⟨eaa177, hSa177, h42U176, h19U176, hTU176⟩ := hp
        obtain ⟨a177, ea177⟩ : ∃ z, z = gG U176 19 0 := ⟨_, rfl⟩
        rw [← ea177] at eaa177 hSa177
        subst eaa177
        have hK_U176 : KZ (sI S 256 0 0) U176 := hK_U174.tr (ktZ hTU176)
        have h : RI ea U176 ns nj nm nt nr nq := h1.keepZ hK_U176
        have hA41 : A41 s0 U176 := hA41.kq hTU176 rfl
        have hn19 : ∀ x, 1 ≤ x → ¬ vV U176 19 x := fun x hx9 => by rw [h19U176 x (by omega)]; exact hn19 x (by omega)
        have hn18 : ∀ x, 1 ≤ x → ¬ vV U176 18 x := fun x hx9 => by rw [hTU176.V (t := 18) (i := x) rfl]; exact hn18 x hx9
        exact rA (v := some a177) X (w.offZ hK_U176 hZs) rfl (Or.inl ⟨_, rfl⟩) dX16_tell_215 (Nat.le_of_ble_eq_true rfl) (Nat.le_of_ble_eq_true rfl) ⟨⟨_, rfl⟩, ⟨_, hea ▸ h1, hQ, hZr, hF.keepT hK1, (hK1.I (f := 257) (i := 0) rfl).trans hg⟩, kTR hK1⟩
  · refine lv_aload_n hx hb dX16_tell_13 rfl (lv_at hl 0 rfl) ?_
    refine lv_iconst (v := 1) hx hb dX16_tell_14 (by decide) ?_
    refine rE1 ((rfl).trans (rfl).symm) ?_
    refine p_16_0 (S := (sI S 256 0 0)) (x := 1) X w h.v wF_X16_43 dX16_tell_15 (fun H locs w => ?_)
    have h : RI ea (sI (sI S 256 0 0) 256 0 1) ns nj nm nt nr nq := h.stI (by decide)
    have hK : Kq hvTm hiTm hrTm S (sI (sI S 256 0 0) 256 0 1) := hK.sI rfl
    refine ldS X wS9_X16_313 dX16_tell_18 ?_
    exact rA (v := some (saOf s0 "CavershamShiftModel" 313)) X w rfl (Or.inl ⟨_, rfl⟩) dX16_tell_21 (by decide) (by decide) ⟨⟨_, rfl⟩, ⟨_, hea ▸ h, hQ, hZr, hF.keepT hK, (hK.I (f := 257) (i := 0) rfl).trans hg⟩, kTR hK⟩

