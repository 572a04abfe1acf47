/-! the Integers of the cache -/
def cacheT : Term := .static "java/lang/Integer$IntegerCache" "cache" "[Ljava/lang/Integer;"
def highT : Term := .static "java/lang/Integer$IntegerCache" "high" "I"
def icA (s0 : State) (k : Nat) : Nat := match (Term.elem cacheT (.int (Int32.ofNat k))).eval #[] s0 none [] s0 with
  | some (.ref a) => a
  | _ => 0
def icT (s0 : State) : Nat := match cacheT.eval #[] s0 none [] s0 with
  | some (.ref a) => a
  | _ => 0
/-- where the Integer of j lies -/
def iq (s0 : State) (j : Nat) : Nat := icA s0 (j + 128)
def IcP (s0 s : State) (H : Heap) : Prop := vb_C (icA s0) (A0 s0) s H ∧ va_Z "java/lang/Integer$IntegerCache" "cache" "[Ljava/lang/Integer;" (.ref (icT s0)) (A0 s0) s H ∧ va_T (.object "java/lang/Integer") (icT s0) 256 (fun j => .ref (icA s0 j)) (A0 s0) s H ∧ va_Z "java/lang/Integer$IntegerCache" "high" "I" (.int 127) (A0 s0) s H
theorem G_ic {s0 : State} {l : Launch} {D : va_G} {cy : Nat → ClassId} (G : Gl s0 l D cy) : IcP s0 s0 s0.heap := by
  obtain ⟨-, -, b, hts, hgv⟩ := G
  have hs := flat_of_before _ hgv
  have harr : (Cond.arrayOf cacheT (.object "java/lang/Integer")).before #[.ref b] s0 = true := hs _ (by decide +kernel)
  have hlen : (Cond.eq (.length cacheT) (.int 256)).before #[.ref b] s0 = true := hs _ (by decide +kernel)
  have hall : (Cond.all cacheT (.and (.exactly (.elem cacheT (.index 0)) "java/lang/Integer") (.eq (.field (.elem cacheT (.index 0)) "java/lang/Integer" "value" "I") (.sub (.index 0) (.int 128))))).before #[.ref b] s0 = true := hs _ (by decide +kernel)
  have hhi : (Cond.eq highT (.int 127)).before #[.ref b] s0 = true := hs _ (by decide +kernel)
  have hA : ∀ a : Nat, a < s0.heap.size → ¬ A0 s0 a := fun a ha => Nat.not_le.mpr ha
  obtain ⟨ad, hC, hel⟩ := vb_Cof (A := A0 s0) (st := cacheT) rfl (va_eqt hlen) hall hA
  have e : ∀ k, k < 256 → ad k = icA s0 k := fun k hk => by
    unfold icA
    rw [show (Term.elem cacheT (.int (Int32.ofNat k))).eval #[] s0 none [] s0 = (Term.elem cacheT (.int (Int32.ofNat k))).eval #[Value.ref b] s0 none [] s0 from rfl, hel k hk]
  obtain ⟨t, ht, hT⟩ := va_Tof (N := 256) (f := fun j => .ref (icA s0 j)) (A := A0 s0) (by decide) harr (va_eqt hlen) (fun j hj => by rw [hel j hj, e j hj]) hA
  have e2 : icT s0 = t := by
    unfold icT
    rw [show cacheT.eval #[] s0 none [] s0 = cacheT.eval #[Value.ref b] s0 none [] s0 from rfl, ht]
  refine ⟨⟨fun k hk => by rw [← e k hk]; exact hC.1 k hk, fun k hk => by rw [← e k hk]; exact hC.2 k hk⟩, ?_, ?_, ?_⟩
  · rw [e2]; exact va_Zof (hts _ wLS_Jxabbfe_cache) (hts _ (List.mem_filter.mp wI_Jxabbfe).1) ht hA
  · rw [e2]; exact hT
  · exact va_Zof (hts _ wLS_Jxabbfe_high) (hts _ (List.mem_filter.mp wI_Jxabbfe).1) (va_eqt hhi) hA
theorem X_ic {s0 s : State} {l : Launch} {D : va_G} {cy : Nat → ClassId} (G : Gl s0 l D cy) (h : Bs s0 s) : IcP s0 s s.heap :=
  ⟨((G_ic G).1.moved h.1).kept h.same, ((G_ic G).2.1.moved h.1).kept h.same, ((G_ic G).2.2.1.moved h.1).kept h.same, ((G_ic G).2.2.2.moved h.1).kept h.same⟩
theorem vb_j (j : Nat) : nI j = vb_c (j + 128) := by
  have h := pk_sub (a := j + 128) (b := 128) (by omega)
  rw [Nat.add_sub_cancel] at h
  exact h.symm
theorem EL.iq {s0 : State} {l : Launch} {D : va_G} {cy : Nat → ClassId} (G : Gl s0 l D cy) {S : HS} {j : Nat} (hj : j < 40) : EL s0 S (iq s0 j) := by
  obtain ⟨cell, h1, h2, h3, h4⟩ := (G_ic G).1.1 (j + 128) (by omega)
  refine Or.inr (Or.inr ⟨(Array.getElem?_eq_some_iff.mp h1).1, fun s hB => ?_⟩)
  obtain ⟨cell, h1, h2, h3, h4⟩ := ((G_ic G).1.1 (j + 128) (by omega)).moved hB.1
  obtain ⟨kC, hkC, -⟩ := Vm.findClass_spec h3
  refine ⟨cell, h1, h2, ⟨kC, hkC⟩, fun comp hc => ?_⟩
  obtain ⟨c9, t9, f1, f2, f3⟩ := Cond.castable_spec (va_Nw.use (A := #[]) rfl (hB.2.2.2.1 _ wCa_J6_java_lang_Object))
  cases f1.symm.trans h3
  cases f2.symm.trans hc
  exact f3
section CVX
variable {p : Program} {l : Launch} {e : Env} {R : Room} {s : State} {m : MethodId} {args : Array Value} {below : List Frame} {meth : Method} {c : Code} {H : Heap} {locs : List Loc} {cells slots : Nat} {Q : State → Prop} {cc : ByteArray} {pc nL : Nat} {ls : Array Slot} {rest : List Value} {s0 : State} {D : va_G} {cy : Nat → ClassId} {S S' : HS} {own : String} {ret : Option FieldType} {post : Option Value → HS → Prop}
variable {y : MethodName} {ccy : ByteArray} {ny nA index : Nat} {rety : Option FieldType} {rm : Room} {As st : List Value} {lv : List (Nat × Value)}
theorem recI {j : Nat} (X : Cx s0 l D cy p s m args meth c cc nL own ret) (w : Wd s0 D cy S s.heap H locs) (hj : j < 40) : ∃ cell : Cell, H[iq s0 j]? = some cell ∧ cell.vm.isStatics = false ∧ s.vm.findClass "java/lang/Integer" = some cell.cls := by
  obtain ⟨cell, h1, h2, h3, -⟩ := ((X_ic X.2.2.2.2.2.2.2.2.2 X.2.2.2.2.2.2.2.2.1).1.1 (j + 128) (by omega)).kept w.2.2.1
  exact ⟨cell, h1, h2, h3⟩
theorem cVx {a : Nat} {C : String} (X : Cx s0 l D cy p s m args meth c cc nL own ret) (w : Wd s0 D cy S s.heap H locs) (hl : lv_has ls nL lv) (hrec : ∃ cell : Cell, H[a]? = some cell ∧ cell.vm.isStatics = false ∧ s.vm.findClass C = some cell.cls) (hM : Ctr s0 l D cy y ccy ny rety rm S (.ref a :: As) post) (hY : Cond.code y ccy ny rety ∈ ALLW) (hL : Cond.methodLink own index y ∈ ALLW) (hIn : Cond.instanceMethod y ∈ ALLW) (hSe : Cond.selects C y y ∈ ALLW) (hI : Cond.initialized y.cls ∈ ALLW) (hd : okY y nA = true) (hn : As.length = nA) (hst : st = As.reverse ++ .ref a :: rest) (hdg : decode cc pc = .ok (.invokevirtual index, 3)) (hR : rm.frames + 1 ≤ R.frames ∧ 8 + (ny + 11) + rm.locals ≤ R.locals) (hcat : (rest.map fun v => v.category).sum ≤ 8) (hf : cells + rm.cells ≤ R.cells ∧ slots + rm.slots ≤ R.slots)
    (kk : ∀ (v : Option Value) (S' : HS) (H1 : Heap) (locs1 : List Loc), post v S' → Wd s0 D cy S' s.heap H1 locs1 → W p l e R s m args below meth c H1 locs1 (cells + rm.cells) (slots + rm.slots) Q (F0 m (pc + 3) ls (v.toList ++ rest))) : W p l e R s m args below meth c H locs cells slots Q (F0 m pc ls st) :=
  callG (va_runV (C := C) (Ts := ALLW) (own := own) (As := As) (rest := rest) ⟨X.1, X.2.1, X.2.2.1, X.2.2.2.1, X.2.2.2.2.1⟩ hM ⟨callB_of nA X.2.2.2.2.1 (gIn hY) rfl rfl rfl (X.2.2.2.2.1 _ hI) (X.2.2.2.2.1 _ hL) (okY_of hd) hR, X.2.2.2.2.1 _ hIn, X.2.2.2.2.1 _ hSe⟩ ⟨blindG, hrec, preU X.2.2.2.2.2.2.2.2.1 w⟩ rfl hn hl.1 hst (lv_room hcat) hdg hf) X.2.2.2.2.2.2.2.2.1.2.1 w.2 kk
theorem ckIn {j : Nat} (X : Cx s0 l D cy p s m args meth c cc nL own ret) (w : Wd s0 D cy S s.heap H locs) (hj : j < 40) (hl : Cond.classLink own index "java/lang/Integer" ∈ ALLW) (hdg : decode cc pc = .ok (.checkcast index, 3))
    (kk : W p l e R s m args below meth c H locs cells slots Q (F0 m (pc + 3) ls (.ref (iq s0 j) :: rest))) : W p l e R s m args below meth c H locs cells slots Q (F0 m pc ls (.ref (iq s0 j) :: rest)) :=
  va_castS X.1 X.2.1 X.2.2.2.1 (X.2.2.2.2.1 _ hl) (X.2.2.2.2.2.2.2.1.1 20 _ rfl).2 (recI X w hj) hdg kk
end CVX

theorem dJ6_valueOf_2dffe_0 : decode cJ6_valueOf_2dffe 0 = .ok (.iload_n 0, 1) := by decide +kernel
theorem dJ6_valueOf_2dffe_1 : decode cJ6_valueOf_2dffe 1 = .ok (.bipush (-128), 2) := by decide +kernel
theorem dJ6_valueOf_2dffe_3 : decode cJ6_valueOf_2dffe 3 = .ok (.if_icmp .lt 20, 3) := by decide +kernel
theorem dJ6_valueOf_2dffe_6 : decode cJ6_valueOf_2dffe 6 = .ok (.iload_n 0, 1) := by decide +kernel
theorem dJ6_valueOf_2dffe_7 : decode cJ6_valueOf_2dffe 7 = .ok (.getstatic 191, 3) := by decide +kernel
theorem dJ6_valueOf_2dffe_10 : decode cJ6_valueOf_2dffe 10 = .ok (.if_icmp .gt 13, 3) := by decide +kernel
theorem dJ6_valueOf_2dffe_13 : decode cJ6_valueOf_2dffe 13 = .ok (.getstatic 195, 3) := by decide +kernel
theorem dJ6_valueOf_2dffe_16 : decode cJ6_valueOf_2dffe 16 = .ok (.iload_n 0, 1) := by decide +kernel
theorem dJ6_valueOf_2dffe_17 : decode cJ6_valueOf_2dffe 17 = .ok (.sipush 128, 3) := by decide +kernel
theorem dJ6_valueOf_2dffe_20 : decode cJ6_valueOf_2dffe 20 = .ok (.iadd, 1) := by decide +kernel
theorem dJ6_valueOf_2dffe_21 : decode cJ6_valueOf_2dffe 21 = .ok (.aaload, 1) := by decide +kernel
theorem dJ6_valueOf_2dffe_22 : decode cJ6_valueOf_2dffe 22 = .ok (.areturn, 1) := by decide +kernel
abbrev rm_m_J6_valueOf_2dffe : Room := { frames := 0, cells := 0, slots := 0, locals := 0 }
set_option maxHeartbeats 4000000 in
set_option maxRecDepth 100000 in
theorem m_J6_valueOf_2dffe {s0 : State} {l : Launch} {D : va_G} {cy : Nat → ClassId} (G : Gl s0 l D cy) (S : HS) (j : Nat) (hj : j < 40) : Ctr s0 l D cy yJ6_valueOf_2dffe cJ6_valueOf_2dffe 1 (some (.object "java/lang/Integer")) rm_m_J6_valueOf_2dffe S [.int (nI j)] (PU S (some (va_rf (some (iq s0 j))))) := by
  refine pro "java/lang/Integer" G rfl rfl (Nat.le_of_ble_eq_true rfl) (fun p e s m below meth c ls X w hnm hl => ?_)
  have hx := X.1
  have hb := X.2.1
  have hown := X.2.2.2.1
  have hts := X.2.2.2.2.1
  have hl : lv_has ls 1 [(0, .int (nI j))] := hl
  refine lv_iload_n hx hb dJ6_valueOf_2dffe_0 rfl (lv_at hl 0 rfl) ?_
  refine lv_bipush (v := (-128)) hx hb dJ6_valueOf_2dffe_1 (by decide) ?_
  refine lv_icmp_lt (tgt := 23) hx hb dJ6_valueOf_2dffe_3 (by decide) (fun hc1 => ?_) (fun hc1 => ?_)
  · exact absurd hc1 (fun z => nI_pos (n := j) (by omega) (Int32.lt_trans z (by decide)))
  · refine lv_iload_n hx hb dJ6_valueOf_2dffe_6 rfl (lv_at hl 0 rfl) ?_
    refine va_gets hx hb (X_ic G X.2.2.2.2.2.2.2.2.1).2.2.2 w.2 hown (hts _ wF_J6_191) (fun _ h => h) dJ6_valueOf_2dffe_7 ?_
    refine lv_icmp_gt (tgt := 23) hx hb dJ6_valueOf_2dffe_10 (by decide) (fun hc2 => ?_) (fun hc2 => ?_)
    · exact absurd hc2 (fun z => absurd ((nI_ltI (a := 127) (b := j) (by decide) (by omega)).mp z) (by omega))
    · refine va_gets hx hb (X_ic G X.2.2.2.2.2.2.2.2.1).2.1 w.2 hown (hts _ wF_J6_195) (fun _ h => h) dJ6_valueOf_2dffe_13 ?_
      refine lv_iload_n hx hb dJ6_valueOf_2dffe_16 rfl (lv_at hl 0 rfl) ?_
      refine lv_sipush (v := 128) hx hb dJ6_valueOf_2dffe_17 (by decide) ?_
      refine lv_iadd hx hb dJ6_valueOf_2dffe_20 ?_
      refine lv_topi (fun z3 ez3 => ?_)
      obtain rfl : z3 = nI (j + 128) := ez3.trans (nI_add j 128)
      refine vb_tq hx hb (X_ic G X.2.2.2.2.2.2.2.2.1).2.2.1 w.2 (nI_vp (j := j + 128) (by omega) (by decide)) (v := .ref (iq s0 j)) (congrArg (fun q => Value.ref (icA s0 q)) (cl_nI (n := 256) (j := j + 128) (by omega) (by decide))) dJ6_valueOf_2dffe_21 ?_
      exact rA (v := (some (iq s0 j))) X w rfl (Or.inl ⟨_, rfl⟩) dJ6_valueOf_2dffe_22 (by decide) (by decide) (pu_a rfl)

theorem dJ6_intValue_8abf5_0 : decode cJ6_intValue_8abf5 0 = .ok (.aload_n 0, 1) := by decide +kernel
theorem dJ6_intValue_8abf5_1 : decode cJ6_intValue_8abf5 1 = .ok (.getfield 205, 3) := by decide +kernel
theorem dJ6_intValue_8abf5_4 : decode cJ6_intValue_8abf5 4 = .ok (.ireturn, 1) := by decide +kernel
abbrev rm_m_J6_intValue_8abf5 : Room := { frames := 0, cells := 0, slots := 0, locals := 0 }
set_option maxHeartbeats 4000000 in
set_option maxRecDepth 100000 in
theorem m_J6_intValue_8abf5 {s0 : State} {l : Launch} {D : va_G} {cy : Nat → ClassId} (G : Gl s0 l D cy) (S : HS) (j : Nat) (hj : j < 40) : Ctr s0 l D cy yJ6_intValue_8abf5 cJ6_intValue_8abf5 1 (some .int) rm_m_J6_intValue_8abf5 S [.ref (iq s0 j)] (PU S (some (.int (nI j)))) := by
  refine pro "java/lang/Integer" G rfl rfl (Nat.le_of_ble_eq_true rfl) (fun p e s m below meth c ls X w hnm hl => ?_)
  have hx := X.1
  have hb := X.2.1
  have hown := X.2.2.2.1
  have hts := X.2.2.2.2.1
  have hl : lv_has ls 1 [(0, .ref (iq s0 j))] := hl
  refine lv_aload_n hx hb dJ6_intValue_8abf5_0 rfl (lv_at hl 0 rfl) ?_
  refine va_getX (i := j + 128) (v := fun k => .int (vb_c k)) hx hb (X_ic G X.2.2.2.2.2.2.2.2.1).1.2 (by omega) w.2 hown (hts _ wF_J6_205) (fun _ h => h) dJ6_intValue_8abf5_1 ?_
  exact rI X w rfl dJ6_intValue_8abf5_4 (by decide) (by decide) (pu_i (vb_j j))

