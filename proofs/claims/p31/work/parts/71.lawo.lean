/-! the calls of the law, one by one -/
def cLw (k gC gR : Nat) : Nat := 74 + 945 * k + 80 * gC + 12 * gR
def sLw (k gC gR : Nat) : Nat := 488 + 9756 * k + 2480 * gC + 455 * gR
theorem so_48 {b : Int32} (h : sOut b 1 48 = false) : ∃ t, 1 ≤ t ∧ t ≤ 48 ∧ b = nI t := by
  unfold sOut at h
  rw [Bool.or_eq_false_iff] at h
  have h1 : ¬ b < 1 := of_decide_eq_false h.1
  have h2 : ¬ 48 < b := of_decide_eq_false h.2
  have h0 : ¬ b < 0 := fun z => h1 (Int32.lt_trans z (by decide))
  obtain ⟨t, ht, rfl⟩ := nI_of h0
  refine ⟨t, Nat.le_of_not_lt (fun z => h1 ?_), Nat.le_of_not_lt (fun z => h2 ((nI_ltI (a := 48) (b := t) (by decide) ht).mpr z)), rfl⟩
  exact (nI_ltI (a := t) (b := 1) ht (by decide)).mpr z
theorem CX.v10 {ea : Nat} {S : HS} {cn : Cn} (h : CX ea S cn) : vV S 10 0 := by
  obtain ⟨nc, h, -⟩ := h
  exact h.v10
theorem RX.v16 {s0 : State} {S : HS} {cn : Cn} (h : RX s0 S cn) : vV S 16 0 := by
  obtain ⟨nq, h, -⟩ := h
  exact h.v
theorem RX.s165 {s0 : State} {S : HS} {cn : Cn} {x : Int32} (h : RX s0 S cn) : RX s0 (sI S 165 0 x) cn := by
  obtain ⟨nq, h, q, z, e, g⟩ := h
  exact ⟨nq, h, q, z, RF.oI e rfl, g⟩

theorem lcmp_0 (x : Int64) : lg_cmp x x = 0 := by
  unfold lg_cmp
  rw [if_neg Int64.lt_irrefl, if_pos rfl]
theorem psK_a {h a : Int32} (z : psK h a = 0) : sOut a 1 48 = false ∧ ¬ 720 < h + a := by
  cases e : sOut a 1 48 with
  | true => rw [psK_1 e] at z; exact absurd z (by decide)
  | false => exact ⟨rfl, fun y => by rw [psK_2 e y] at z; exact absurd z (by decide)⟩

theorem CtrH.post {s0 : State} {l : Launch} {D : va_G} {cy : Nat → ClassId} {y : MethodName} {cc : ByteArray} {n : Nat} {hh : List (Nat × Nat × Nat × Nat)} {ret : Option FieldType} {rm : Room} {S : HS} {As : List Value} {post post' : Option Value → HS → Prop} (h : CtrH s0 l D cy y cc n hh ret rm S As post) (hp : ∀ v S', post v S' → post' v S') : CtrH s0 l D cy y cc n hh ret rm S As post' := by
  unfold CtrH Met at h ⊢
  exact MetFree.mono h (fun _ _ x => x) (fun _ _ _ _ _ x => x) (fun a s o t _ ⟨⟨⟨v, S', h1, h2, h3⟩, h4⟩, h5⟩ => ⟨⟨⟨v, S', h1, hp v S' h2, h3⟩, h4⟩, h5⟩)
theorem StpL.rf {s0 : State} {cn : Cn} {S : HS} : StpL s0 cn S S := fun _ _ _ _ h => h
theorem StpL.ofCB {s0 : State} {cn : Cn} {S T S' : HS} (hC : CX (eaOf s0) T cn) (k : KeepB S T) (o : OutW T S') : StpL s0 cn S S' := fun gC ax am ao h => (h.ofC hC k).out o
theorem StpL.ofRB {s0 : State} {cn : Cn} {S T : HS} (hR : RX s0 T cn) (k : KeepRB S T) : StpL s0 cn S T := fun gC ax am ao h => h.ofR hR k
theorem PF.stp {s0 : State} {S S' : HS} {cn : Cn} {K : Nat} {F : Int32} {v : Option Value} (h : PF s0 S cn K F cn v S') : (∃ x : Int32, some (.int x) = v) ∧ StpL s0 cn S S' := by
  rcases h with ⟨-, ⟨x, rfl⟩, hX, hk, -⟩ | ⟨-, rfl, hX, hB, -⟩
  · exact ⟨⟨x, rfl⟩, StpL.ofR hX hk⟩
  · exact ⟨⟨_, rfl⟩, StpL.ofRB hX hB⟩
theorem PFd.stp {s0 : State} {S S' : HS} {cn : Cn} {K : Nat} {F : UInt64} {v : Option Value} (h : PFd s0 S cn K F cn v S') : (∃ x : UInt64, some (.double x) = v) ∧ StpL s0 cn S S' := by
  rcases h with ⟨-, ⟨x, rfl⟩, hX, hk, -⟩ | ⟨-, rfl, hX, hB, -⟩
  · exact ⟨⟨x, rfl⟩, StpL.ofR hX hk⟩
  · exact ⟨⟨_, rfl⟩, StpL.ofRB hX hB⟩

theorem dL_law_196 : decode cL_law 196 = .ok (.aload_n 1, 1) := by decide +kernel
theorem dL_law_197 : decode cL_law 197 = .ok (.aload_n 0, 1) := by decide +kernel
theorem dL_law_198 : decode cL_law 198 = .ok (.iload 4, 2) := by decide +kernel
theorem dL_law_200 : decode cL_law 200 = .ok (.iconst 1, 1) := by decide +kernel
theorem dL_law_201 : decode cL_law 201 = .ok (.iadd, 1) := by decide +kernel
theorem dL_law_202 : decode cL_law 202 = .ok (.iaload, 1) := by decide +kernel
theorem dL_law_203 : decode cL_law 203 = .ok (.aload_n 0, 1) := by decide +kernel
theorem dL_law_204 : decode cL_law 204 = .ok (.iload 4, 2) := by decide +kernel
theorem dL_law_206 : decode cL_law 206 = .ok (.iconst 2, 1) := by decide +kernel
theorem dL_law_207 : decode cL_law 207 = .ok (.iadd, 1) := by decide +kernel
theorem dL_law_208 : decode cL_law 208 = .ok (.iaload, 1) := by decide +kernel
theorem dL_law_209 : decode cL_law 209 = .ok (.aload_n 0, 1) := by decide +kernel
theorem dL_law_210 : decode cL_law 210 = .ok (.iload 4, 2) := by decide +kernel
theorem dL_law_212 : decode cL_law 212 = .ok (.iconst 3, 1) := by decide +kernel
theorem dL_law_213 : decode cL_law 213 = .ok (.iadd, 1) := by decide +kernel
theorem dL_law_214 : decode cL_law 214 = .ok (.iaload, 1) := by decide +kernel
theorem dL_law_215 : decode cL_law 215 = .ok (.aload_n 0, 1) := by decide +kernel
theorem dL_law_216 : decode cL_law 216 = .ok (.iload 4, 2) := by decide +kernel
theorem dL_law_218 : decode cL_law 218 = .ok (.iconst 4, 1) := by decide +kernel
theorem dL_law_219 : decode cL_law 219 = .ok (.iadd, 1) := by decide +kernel
theorem dL_law_220 : decode cL_law 220 = .ok (.iaload, 1) := by decide +kernel
theorem dL_law_221 : decode cL_law 221 = .ok (.aload_n 0, 1) := by decide +kernel
theorem dL_law_222 : decode cL_law 222 = .ok (.iload 4, 2) := by decide +kernel
theorem dL_law_224 : decode cL_law 224 = .ok (.iconst 5, 1) := by decide +kernel
theorem dL_law_225 : decode cL_law 225 = .ok (.iadd, 1) := by decide +kernel
theorem dL_law_226 : decode cL_law 226 = .ok (.iaload, 1) := by decide +kernel
theorem dL_law_227 : decode cL_law 227 = .ok (.aload_n 0, 1) := by decide +kernel
theorem dL_law_228 : decode cL_law 228 = .ok (.iload 4, 2) := by decide +kernel
theorem dL_law_230 : decode cL_law 230 = .ok (.bipush 6, 2) := by decide +kernel
theorem dL_law_232 : decode cL_law 232 = .ok (.iadd, 1) := by decide +kernel
theorem dL_law_233 : decode cL_law 233 = .ok (.iaload, 1) := by decide +kernel
theorem dL_law_234 : decode cL_law 234 = .ok (.aload_n 3, 1) := by decide +kernel
theorem dL_law_235 : decode cL_law 235 = .ok (.invokestatic 132, 3) := by decide +kernel
theorem dL_law_238 : decode cL_law 238 = .ok (.istore 5, 2) := by decide +kernel
theorem dL_law_240 : decode cL_law 240 = .ok (.aload_n 2, 1) := by decide +kernel
theorem dL_law_241 : decode cL_law 241 = .ok (.aload_n 0, 1) := by decide +kernel
theorem dL_law_242 : decode cL_law 242 = .ok (.iload 4, 2) := by decide +kernel
theorem dL_law_244 : decode cL_law 244 = .ok (.iconst 1, 1) := by decide +kernel
theorem dL_law_245 : decode cL_law 245 = .ok (.iadd, 1) := by decide +kernel
theorem dL_law_246 : decode cL_law 246 = .ok (.iaload, 1) := by decide +kernel
theorem dL_law_247 : decode cL_law 247 = .ok (.aload_n 0, 1) := by decide +kernel
theorem dL_law_248 : decode cL_law 248 = .ok (.iload 4, 2) := by decide +kernel
theorem dL_law_250 : decode cL_law 250 = .ok (.iconst 2, 1) := by decide +kernel
theorem dL_law_251 : decode cL_law 251 = .ok (.iadd, 1) := by decide +kernel
theorem dL_law_252 : decode cL_law 252 = .ok (.iaload, 1) := by decide +kernel
theorem dL_law_253 : decode cL_law 253 = .ok (.aload_n 0, 1) := by decide +kernel
theorem dL_law_254 : decode cL_law 254 = .ok (.iload 4, 2) := by decide +kernel
theorem dL_law_256 : decode cL_law 256 = .ok (.iconst 3, 1) := by decide +kernel
theorem dL_law_257 : decode cL_law 257 = .ok (.iadd, 1) := by decide +kernel
theorem dL_law_258 : decode cL_law 258 = .ok (.iaload, 1) := by decide +kernel
theorem dL_law_259 : decode cL_law 259 = .ok (.aload_n 0, 1) := by decide +kernel
theorem dL_law_260 : decode cL_law 260 = .ok (.iload 4, 2) := by decide +kernel
theorem dL_law_262 : decode cL_law 262 = .ok (.iconst 4, 1) := by decide +kernel
theorem dL_law_263 : decode cL_law 263 = .ok (.iadd, 1) := by decide +kernel
theorem dL_law_264 : decode cL_law 264 = .ok (.iaload, 1) := by decide +kernel
theorem dL_law_265 : decode cL_law 265 = .ok (.aload_n 0, 1) := by decide +kernel
theorem dL_law_266 : decode cL_law 266 = .ok (.iload 4, 2) := by decide +kernel
theorem dL_law_268 : decode cL_law 268 = .ok (.iconst 5, 1) := by decide +kernel
theorem dL_law_269 : decode cL_law 269 = .ok (.iadd, 1) := by decide +kernel
theorem dL_law_270 : decode cL_law 270 = .ok (.iaload, 1) := by decide +kernel
theorem dL_law_271 : decode cL_law 271 = .ok (.aload_n 0, 1) := by decide +kernel
theorem dL_law_272 : decode cL_law 272 = .ok (.iload 4, 2) := by decide +kernel
theorem dL_law_274 : decode cL_law 274 = .ok (.bipush 6, 2) := by decide +kernel
theorem dL_law_276 : decode cL_law 276 = .ok (.iadd, 1) := by decide +kernel
theorem dL_law_277 : decode cL_law 277 = .ok (.iaload, 1) := by decide +kernel
theorem dL_law_278 : decode cL_law 278 = .ok (.invokevirtual 137, 3) := by decide +kernel
theorem dL_law_281 : decode cL_law 281 = .ok (.istore 6, 2) := by decide +kernel
theorem dL_law_283 : decode cL_law 283 = .ok (.goto 1302, 3) := by decide +kernel
theorem dL_law_1585 : decode cL_law 1585 = .ok (.iinc 4 7, 3) := by decide +kernel
set_option maxHeartbeats 4000000 in
set_option maxRecDepth 100000 in
theorem lo_0 {s : State} {l : Launch} {D : va_G} {cy : Nat → ClassId} (G : Gl s l D cy) {p : Program} {e : Env} {m : MethodId} {below : List Frame} {meth : Method} {c : Code} {ret9 : Option FieldType} {b L : Nat} {xs : Nat → Int32} (X : Cx s l D cy p s m #[Value.ref b] meth c cL_law 8 "CavershamShiftLaw" ret9) (hX : va_X b L xs s s.heap) (hbl : b < s.heap.size) {S : HS} {H : Heap} {locs : List Loc} {ls : Array Slot} {ii k gC : Nat} {cn : Cn} {ax am ao : Nat} {Q : State → Prop} (w : Wd s D cy S s.heap H locs) (hl : lv_has ls 8 [(0, .ref b), (1, .ref ax), (2, .ref am), (3, .ref ao), (4, .int (nI ii))]) (hLI : LI s S gC cn ax am ao) (hi : ii + 7 ≤ L) (hL9 : L ≤ 3584) (hk : k ≤ 511) (K : ∀ (U : HS) (gC1 : Nat) (cn1 : Cn) (H : Heap) (locs : List Loc) (ls : Array Slot), LI s U gC1 cn1 ax am ao → Wd s D cy U s.heap H locs → lv_has ls 8 [(0, .ref b), (1, .ref ax), (2, .ref am), (3, .ref ao), (4, .int (nI ii))] → W p l e room_1 s m #[Value.ref b] below meth c H locs (cLw (k + 1) gC1 gC1) (sLw (k + 1) gC1 gC1) Q (F0 m 1585 ls [])) : W p l e room_1 s m #[Value.ref b] below meth c H locs (cLw k gC gC) (sLw k gC gC) Q (F0 m 196 ls []) := by
  have hx := X.1
  have hb := X.2.1
  have hown := X.2.2.2.1
  have hts := X.2.2.2.2.1
  obtain ⟨hC, hR, hE, hO, hZs, hgC, eX, eM, eO⟩ := id hLI
  rw [← eX, ← eM, ← eO] at hl
  refine lv_aload_n hx hb dL_law_196 rfl (lv_at hl 1 rfl) ?_
  refine lv_aload_n hx hb dL_law_197 rfl (lv_at hl 0 rfl) ?_
  refine lv_iload hx hb dL_law_198 (lv_at hl 4 rfl) ?_
  refine lv_iconst (v := 1) hx hb dL_law_200 (by decide) ?_
  refine lv_iadd hx hb dL_law_201 ?_
  refine va_sld hx hb hX hbl (Nat.not_le.mpr hbl) w.2 (i := ((nI ii) + 1)) (by rw [show nI ii + 1 = nI (ii + 1) from nI_add ii 1]; exact nI_vp (by omega) (by omega)) dL_law_202 ?_
  refine lv_topi (fun z1 ez1 => ?_)
  refine lv_aload_n hx hb dL_law_203 rfl (lv_at hl 0 rfl) ?_
  refine lv_iload hx hb dL_law_204 (lv_at hl 4 rfl) ?_
  refine lv_iconst (v := 2) hx hb dL_law_206 (by decide) ?_
  refine lv_iadd hx hb dL_law_207 ?_
  refine va_sld hx hb hX hbl (Nat.not_le.mpr hbl) w.2 (i := ((nI ii) + 2)) (by rw [show nI ii + 2 = nI (ii + 2) from nI_add ii 2]; exact nI_vp (by omega) (by omega)) dL_law_208 ?_
  refine lv_topi (fun z2 ez2 => ?_)
  refine lv_aload_n hx hb dL_law_209 rfl (lv_at hl 0 rfl) ?_
  refine lv_iload hx hb dL_law_210 (lv_at hl 4 rfl) ?_
  refine lv_iconst (v := 3) hx hb dL_law_212 (by decide) ?_
  refine lv_iadd hx hb dL_law_213 ?_
  refine va_sld hx hb hX hbl (Nat.not_le.mpr hbl) w.2 (i := ((nI ii) + 3)) (by rw [show nI ii + 3 = nI (ii + 3) from nI_add ii 3]; exact nI_vp (by omega) (by omega)) dL_law_214 ?_
  refine lv_topi (fun z3 ez3 => ?_)
  refine lv_aload_n hx hb dL_law_215 rfl (lv_at hl 0 rfl) ?_
  refine lv_iload hx hb dL_law_216 (lv_at hl 4 rfl) ?_
  refine lv_iconst (v := 4) hx hb dL_law_218 (by decide) ?_
  refine lv_iadd hx hb dL_law_219 ?_
  refine va_sld hx hb hX hbl (Nat.not_le.mpr hbl) w.2 (i := ((nI ii) + 4)) (by rw [show nI ii + 4 = nI (ii + 4) from nI_add ii 4]; exact nI_vp (by omega) (by omega)) dL_law_220 ?_
  refine lv_topi (fun z4 ez4 => ?_)
  refine lv_aload_n hx hb dL_law_221 rfl (lv_at hl 0 rfl) ?_
  refine lv_iload hx hb dL_law_222 (lv_at hl 4 rfl) ?_
  refine lv_iconst (v := 5) hx hb dL_law_224 (by decide) ?_
  refine lv_iadd hx hb dL_law_225 ?_
  refine va_sld hx hb hX hbl (Nat.not_le.mpr hbl) w.2 (i := ((nI ii) + 5)) (by rw [show nI ii + 5 = nI (ii + 5) from nI_add ii 5]; exact nI_vp (by omega) (by omega)) dL_law_226 ?_
  refine lv_topi (fun z5 ez5 => ?_)
  refine lv_aload_n hx hb dL_law_227 rfl (lv_at hl 0 rfl) ?_
  refine lv_iload hx hb dL_law_228 (lv_at hl 4 rfl) ?_
  refine lv_bipush (v := 6) hx hb dL_law_230 (by decide) ?_
  refine lv_iadd hx hb dL_law_232 ?_
  refine va_sld hx hb hX hbl (Nat.not_le.mpr hbl) w.2 (i := ((nI ii) + 6)) (by rw [show nI ii + 6 = nI (ii + 6) from nI_add ii 6]; exact nI_vp (by omega) (by omega)) dL_law_233 ?_
  refine lv_topi (fun z6 ez6 => ?_)
  refine lv_aload_n hx hb dL_law_234 rfl (lv_at hl 3 rfl) ?_
  refine cSW (S := S) (nA := 8) (As := [.ref (gG S 10 0), .int z1, .int z2, .int z3, .int z4, .int z5, .int z6, .ref (gG S 11 0)]) (rest := []) X w hl ((w_L_station G S hC hO hC.v10 z1 z2 z3 z4 z5 z6).post (post' := fun v S9 => (¬ stK cn.1 z1 z2 z3 z4 z5 z6 = 0 ∧ (∃ k9 : Int32, some (.int k9) = v) ∧ S = S9) ∨ (stK cn.1 z1 z2 z3 z4 z5 z6 = 0 ∧ some (.int 0) = v ∧ ∃ S1 : HS, CX (eaOf s) S1 (cn.1 + 1, cn.2.1, cn.2.2.1, cn.2.2.2.1, cn.2.2.2.2.1, cn.2.2.2.2.2.1, stA cn.2.2.2.2.2.2 cn.1 z1 z2 z3 z4 z5 z6) ∧ KeepB S S1 ∧ S9 = (sL S1 176 (Int32.toInt64 (nI cn.1))))) (fun v S9 h9 => by rcases h9 with ⟨e9, rfl, rfl⟩ | ⟨e9, rfl, rfl⟩ | h9 <;> first | exact Or.inr h9 | exact Or.inl ⟨by rw [e9]; decide, ⟨_, rfl⟩, rfl⟩)) wYW_L_station wM_L_132 wSt_L_station wI_L (by decide +kernel) rfl rfl dL_law_235 ⟨Nat.le_of_ble_eq_true rfl, Nat.le_of_ble_eq_true rfl⟩ (Nat.le_of_ble_eq_true rfl) (⟨by have := hgC.2; show cLw k gC gC + 2 ≤ 601024; unfold cLw; omega, by have := hgC.2; show sLw k gC gC + 56 ≤ 7293034; unfold sLw; omega⟩) (fun v U1 H locs hp w => ?_)
  rcases hp with ⟨hkC, ⟨k9, rfl⟩, rfl⟩ | ⟨hkC, rfl, S9, hC9, hB9, rfl⟩
  · refine lv_istore (lv' := [(5, .int k9), (0, .ref b), (1, .ref (gG S 10 0)), (2, .ref (gG S 16 0)), (3, .ref (gG S 11 0)), (4, .int (nI ii))]) hx hb dL_law_238 hl (by decide) rfl (fun ls hl => ?_)
    refine lv_aload_n hx hb dL_law_240 rfl (lv_at hl 3 rfl) ?_
    refine lv_aload_n hx hb dL_law_241 rfl (lv_at hl 1 rfl) ?_
    refine lv_iload hx hb dL_law_242 (lv_at hl 5 rfl) ?_
    refine lv_iconst (v := 1) hx hb dL_law_244 (by decide) ?_
    refine lv_iadd hx hb dL_law_245 ?_
    refine va_sld hx hb hX hbl (Nat.not_le.mpr hbl) w.2 (i := ((nI ii) + 1)) (by rw [show nI ii + 1 = nI (ii + 1) from nI_add ii 1]; exact nI_vp (by omega) (by omega)) dL_law_246 ?_
    refine lv_topi (fun z7 ez7 => ?_)
    refine lv_aload_n hx hb dL_law_247 rfl (lv_at hl 1 rfl) ?_
    refine lv_iload hx hb dL_law_248 (lv_at hl 5 rfl) ?_
    refine lv_iconst (v := 2) hx hb dL_law_250 (by decide) ?_
    refine lv_iadd hx hb dL_law_251 ?_
    refine va_sld hx hb hX hbl (Nat.not_le.mpr hbl) w.2 (i := ((nI ii) + 2)) (by rw [show nI ii + 2 = nI (ii + 2) from nI_add ii 2]; exact nI_vp (by omega) (by omega)) dL_law_252 ?_
    refine lv_topi (fun z8 ez8 => ?_)
    refine lv_aload_n hx hb dL_law_253 rfl (lv_at hl 1 rfl) ?_
    refine lv_iload hx hb dL_law_254 (lv_at hl 5 rfl) ?_
    refine lv_iconst (v := 3) hx hb dL_law_256 (by decide) ?_
    refine lv_iadd hx hb dL_law_257 ?_
    refine va_sld hx hb hX hbl (Nat.not_le.mpr hbl) w.2 (i := ((nI ii) + 3)) (by rw [show nI ii + 3 = nI (ii + 3) from nI_add ii 3]; exact nI_vp (by omega) (by omega)) dL_law_258 ?_
    refine lv_topi (fun z9 ez9 => ?_)
    refine lv_aload_n hx hb dL_law_259 rfl (lv_at hl 1 rfl) ?_
    refine lv_iload hx hb dL_law_260 (lv_at hl 5 rfl) ?_
    refine lv_iconst (v := 4) hx hb dL_law_262 (by decide) ?_
    refine lv_iadd hx hb dL_law_263 ?_
    refine va_sld hx hb hX hbl (Nat.not_le.mpr hbl) w.2 (i := ((nI ii) + 4)) (by rw [show nI ii + 4 = nI (ii + 4) from nI_add ii 4]; exact nI_vp (by omega) (by omega)) dL_law_264 ?_
    refine lv_topi (fun z10 ez10 => ?_)
    refine lv_aload_n hx hb dL_law_265 rfl (lv_at hl 1 rfl) ?_
    refine lv_iload hx hb dL_law_266 (lv_at hl 5 rfl) ?_
    refine lv_iconst (v := 5) hx hb dL_law_268 (by decide) ?_
    refine lv_iadd hx hb dL_law_269 ?_
    refine va_sld hx hb hX hbl (Nat.not_le.mpr hbl) w.2 (i := ((nI ii) + 5)) (by rw [show nI ii + 5 = nI (ii + 5) from nI_add ii 5]; exact nI_vp (by omega) (by omega)) dL_law_270 ?_
    refine lv_topi (fun z11 ez11 => ?_)
    refine lv_aload_n hx hb dL_law_271 rfl (lv_at hl 1 rfl) ?_
    refine lv_iload hx hb dL_law_272 (lv_at hl 5 rfl) ?_
    refine lv_bipush (v := 6) hx hb dL_law_274 (by decide) ?_
    refine lv_iadd hx hb dL_law_276 ?_
    refine va_sld hx hb hX hbl (Nat.not_le.mpr hbl) w.2 (i := ((nI ii) + 6)) (by rw [show nI ii + 6 = nI (ii + 6) from nI_add ii 6]; exact nI_vp (by omega) (by omega)) dL_law_277 ?_
    refine lv_topi (fun z12 ez12 => ?_)
    obtain rfl : z1 = z7 := ez1.trans ez7.symm
    obtain rfl : z2 = z8 := ez2.trans ez8.symm
    obtain rfl : z3 = z9 := ez3.trans ez9.symm
    obtain rfl : z4 = z10 := ez4.trans ez10.symm
    obtain rfl : z5 = z11 := ez5.trans ez11.symm
    obtain rfl : z6 = z12 := ez6.trans ez12.symm
    refine cV (S := S) (nA := 6) (As := [.int z1, .int z2, .int z3, .int z4, .int z5, .int z6]) (rest := []) X w hl hR.v16 (k_X16_station G S hR z1 z2 z3 z4 z5 z6) wY_X16_station wM_L_137 wIn_X16_station wSe_X16_X16_station wI_X16 (by decide) rfl (by decide +kernel) rfl rfl dL_law_278 ⟨Nat.le_of_ble_eq_true rfl, Nat.le_of_ble_eq_true rfl⟩ (Nat.le_of_ble_eq_true rfl) (⟨by have := hgC.2; show cLw k gC gC + 4 ≤ 601024; unfold cLw; omega, by have := hgC.2; show sLw k gC gC + 111 ≤ 7293034; unfold sLw; omega⟩) (fun v U2 H locs hp w => ?_)
    rcases hp with ⟨hkR, ⟨y9, rfl⟩, hX9, hk9, e256⟩ | ⟨hkR, -⟩
    · have hs : StpL s cn S U2 := StpL.ofR hX9 hk9
      rw [eX, eM, eO] at hl
      have hLI := hs _ _ _ _ hLI
      obtain ⟨hC, hR, hE, hO, hZs, hgC, eX, eM, eO⟩ := id hLI
      rw [← eX, ← eM, ← eO] at hl
      refine lv_istore (lv' := [(6, .int y9), (5, .int k9), (0, .ref b), (1, .ref (gG U2 10 0)), (2, .ref (gG U2 16 0)), (3, .ref (gG U2 11 0)), (4, .int (nI ii))]) hx hb dL_law_281 hl (by decide) rfl (fun ls hl => ?_)
      refine lv_goto (tgt := 1585) hx hb dL_law_283 (by decide) ?_
      refine W.widen (k := cLw (k + 1) gC gC) (n := sLw (k + 1) gC gC) (by show cLw k gC gC + 4 ≤ _; unfold cLw; omega) (by show sLw k gC gC + 111 ≤ _; unfold sLw; omega) ?_
      rw [eX, eM, eO] at hl
      exact K _ _ _ H locs _ hLI w (lv_sub hl [2, 3, 4, 5, 6] rfl)
    · exact absurd hkR hkC
  · obtain ⟨hR9, eX9, eM9, eO9⟩ := hLI.mid (Int32.toInt64 (nI cn.1)) hB9
    rw [eX, eM, eO] at hl
    rw [← eX9, ← eM9, ← eO9] at hl
    refine lv_istore (lv' := [(5, .int 0), (0, .ref b), (1, .ref (gG (sL S9 176 (Int32.toInt64 (nI cn.1))) 10 0)), (2, .ref (gG (sL S9 176 (Int32.toInt64 (nI cn.1))) 16 0)), (3, .ref (gG (sL S9 176 (Int32.toInt64 (nI cn.1))) 11 0)), (4, .int (nI ii))]) hx hb dL_law_238 hl (by decide) rfl (fun ls hl => ?_)
    refine lv_aload_n hx hb dL_law_240 rfl (lv_at hl 3 rfl) ?_
    refine lv_aload_n hx hb dL_law_241 rfl (lv_at hl 1 rfl) ?_
    refine lv_iload hx hb dL_law_242 (lv_at hl 5 rfl) ?_
    refine lv_iconst (v := 1) hx hb dL_law_244 (by decide) ?_
    refine lv_iadd hx hb dL_law_245 ?_
    refine va_sld hx hb hX hbl (Nat.not_le.mpr hbl) w.2 (i := ((nI ii) + 1)) (by rw [show nI ii + 1 = nI (ii + 1) from nI_add ii 1]; exact nI_vp (by omega) (by omega)) dL_law_246 ?_
    refine lv_topi (fun z13 ez13 => ?_)
    refine lv_aload_n hx hb dL_law_247 rfl (lv_at hl 1 rfl) ?_
    refine lv_iload hx hb dL_law_248 (lv_at hl 5 rfl) ?_
    refine lv_iconst (v := 2) hx hb dL_law_250 (by decide) ?_
    refine lv_iadd hx hb dL_law_251 ?_
    refine va_sld hx hb hX hbl (Nat.not_le.mpr hbl) w.2 (i := ((nI ii) + 2)) (by rw [show nI ii + 2 = nI (ii + 2) from nI_add ii 2]; exact nI_vp (by omega) (by omega)) dL_law_252 ?_
    refine lv_topi (fun z14 ez14 => ?_)
    refine lv_aload_n hx hb dL_law_253 rfl (lv_at hl 1 rfl) ?_
    refine lv_iload hx hb dL_law_254 (lv_at hl 5 rfl) ?_
    refine lv_iconst (v := 3) hx hb dL_law_256 (by decide) ?_
    refine lv_iadd hx hb dL_law_257 ?_
    refine va_sld hx hb hX hbl (Nat.not_le.mpr hbl) w.2 (i := ((nI ii) + 3)) (by rw [show nI ii + 3 = nI (ii + 3) from nI_add ii 3]; exact nI_vp (by omega) (by omega)) dL_law_258 ?_
    refine lv_topi (fun z15 ez15 => ?_)
    refine lv_aload_n hx hb dL_law_259 rfl (lv_at hl 1 rfl) ?_
    refine lv_iload hx hb dL_law_260 (lv_at hl 5 rfl) ?_
    refine lv_iconst (v := 4) hx hb dL_law_262 (by decide) ?_
    refine lv_iadd hx hb dL_law_263 ?_
    refine va_sld hx hb hX hbl (Nat.not_le.mpr hbl) w.2 (i := ((nI ii) + 4)) (by rw [show nI ii + 4 = nI (ii + 4) from nI_add ii 4]; exact nI_vp (by omega) (by omega)) dL_law_264 ?_
    refine lv_topi (fun z16 ez16 => ?_)
    refine lv_aload_n hx hb dL_law_265 rfl (lv_at hl 1 rfl) ?_
    refine lv_iload hx hb dL_law_266 (lv_at hl 5 rfl) ?_
    refine lv_iconst (v := 5) hx hb dL_law_268 (by decide) ?_
    refine lv_iadd hx hb dL_law_269 ?_
    refine va_sld hx hb hX hbl (Nat.not_le.mpr hbl) w.2 (i := ((nI ii) + 5)) (by rw [show nI ii + 5 = nI (ii + 5) from nI_add ii 5]; exact nI_vp (by omega) (by omega)) dL_law_270 ?_
    refine lv_topi (fun z17 ez17 => ?_)
    refine lv_aload_n hx hb dL_law_271 rfl (lv_at hl 1 rfl) ?_
    refine lv_iload hx hb dL_law_272 (lv_at hl 5 rfl) ?_
    refine lv_bipush (v := 6) hx hb dL_law_274 (by decide) ?_
    refine lv_iadd hx hb dL_law_276 ?_
    refine va_sld hx hb hX hbl (Nat.not_le.mpr hbl) w.2 (i := ((nI ii) + 6)) (by rw [show nI ii + 6 = nI (ii + 6) from nI_add ii 6]; exact nI_vp (by omega) (by omega)) dL_law_277 ?_
    refine lv_topi (fun z18 ez18 => ?_)
    obtain rfl : z1 = z13 := ez1.trans ez13.symm
    obtain rfl : z2 = z14 := ez2.trans ez14.symm
    obtain rfl : z3 = z15 := ez3.trans ez15.symm
    obtain rfl : z4 = z16 := ez4.trans ez16.symm
    obtain rfl : z5 = z17 := ez5.trans ez17.symm
    obtain rfl : z6 = z18 := ez6.trans ez18.symm
    refine cV (S := (sL S9 176 (Int32.toInt64 (nI cn.1)))) (nA := 6) (As := [.int z1, .int z2, .int z3, .int z4, .int z5, .int z6]) (rest := []) X w hl hR9.v16 (k_X16_station G (sL S9 176 (Int32.toInt64 (nI cn.1))) hR9 z1 z2 z3 z4 z5 z6) wY_X16_station wM_L_137 wIn_X16_station wSe_X16_X16_station wI_X16 (by decide) rfl (by decide +kernel) rfl rfl dL_law_278 ⟨Nat.le_of_ble_eq_true rfl, Nat.le_of_ble_eq_true rfl⟩ (Nat.le_of_ble_eq_true rfl) (⟨by have := hgC.2; show cLw k gC gC + 4 ≤ 601024; unfold cLw; omega, by have := hgC.2; show sLw k gC gC + 111 ≤ 7293034; unfold sLw; omega⟩) (fun v U2 H locs hp w => ?_)
    rcases hp with ⟨hkR, -⟩ | ⟨hkR, rfl, hX8, hB8, e256⟩
    · exact absurd hkC hkR
    · obtain ⟨hLI, eL9⟩ := hLI.told (gN := gC) hC9 hB9 hX8 hB8 hgC
      rw [eX9, eM9, eO9] at hl
      obtain ⟨hC, hR, hE, hO, hZs, hgC, eX, eM, eO⟩ := id hLI
      rw [← eX, ← eM, ← eO] at hl
      refine lv_istore (lv' := [(6, .int (nI cn.1)), (5, .int 0), (0, .ref b), (1, .ref (gG U2 10 0)), (2, .ref (gG U2 16 0)), (3, .ref (gG U2 11 0)), (4, .int (nI ii))]) hx hb dL_law_281 hl (by decide) rfl (fun ls hl => ?_)
      refine lv_goto (tgt := 1585) hx hb dL_law_283 (by decide) ?_
      refine W.widen (k := cLw (k + 1) gC gC) (n := sLw (k + 1) gC gC) (by show cLw k gC gC + 4 ≤ _; unfold cLw; omega) (by show sLw k gC gC + 111 ≤ _; unfold sLw; omega) ?_
      rw [eX, eM, eO] at hl
      exact K _ _ _ H locs _ hLI w (lv_sub hl [2, 3, 4, 5, 6] rfl)

theorem dL_law_286 : decode cL_law 286 = .ok (.aload_n 1, 1) := by decide +kernel
theorem dL_law_287 : decode cL_law 287 = .ok (.aload_n 0, 1) := by decide +kernel
theorem dL_law_288 : decode cL_law 288 = .ok (.iload 4, 2) := by decide +kernel
theorem dL_law_290 : decode cL_law 290 = .ok (.iconst 1, 1) := by decide +kernel
theorem dL_law_291 : decode cL_law 291 = .ok (.iadd, 1) := by decide +kernel
theorem dL_law_292 : decode cL_law 292 = .ok (.iaload, 1) := by decide +kernel
theorem dL_law_293 : decode cL_law 293 = .ok (.aload_n 0, 1) := by decide +kernel
theorem dL_law_294 : decode cL_law 294 = .ok (.iload 4, 2) := by decide +kernel
theorem dL_law_296 : decode cL_law 296 = .ok (.iconst 2, 1) := by decide +kernel
theorem dL_law_297 : decode cL_law 297 = .ok (.iadd, 1) := by decide +kernel
theorem dL_law_298 : decode cL_law 298 = .ok (.iaload, 1) := by decide +kernel
theorem dL_law_299 : decode cL_law 299 = .ok (.aload_n 3, 1) := by decide +kernel
theorem dL_law_300 : decode cL_law 300 = .ok (.invokestatic 138, 3) := by decide +kernel
theorem dL_law_303 : decode cL_law 303 = .ok (.istore 5, 2) := by decide +kernel
theorem dL_law_305 : decode cL_law 305 = .ok (.aload_n 2, 1) := by decide +kernel
theorem dL_law_306 : decode cL_law 306 = .ok (.aload_n 0, 1) := by decide +kernel
theorem dL_law_307 : decode cL_law 307 = .ok (.iload 4, 2) := by decide +kernel
theorem dL_law_309 : decode cL_law 309 = .ok (.iconst 1, 1) := by decide +kernel
theorem dL_law_310 : decode cL_law 310 = .ok (.iadd, 1) := by decide +kernel
theorem dL_law_311 : decode cL_law 311 = .ok (.iaload, 1) := by decide +kernel
theorem dL_law_312 : decode cL_law 312 = .ok (.aload_n 0, 1) := by decide +kernel
theorem dL_law_313 : decode cL_law 313 = .ok (.iload 4, 2) := by decide +kernel
theorem dL_law_315 : decode cL_law 315 = .ok (.iconst 2, 1) := by decide +kernel
theorem dL_law_316 : decode cL_law 316 = .ok (.iadd, 1) := by decide +kernel
theorem dL_law_317 : decode cL_law 317 = .ok (.iaload, 1) := by decide +kernel
theorem dL_law_318 : decode cL_law 318 = .ok (.invokevirtual 141, 3) := by decide +kernel
theorem dL_law_321 : decode cL_law 321 = .ok (.istore 6, 2) := by decide +kernel
theorem dL_law_323 : decode cL_law 323 = .ok (.goto 1262, 3) := by decide +kernel
set_option maxHeartbeats 4000000 in
set_option maxRecDepth 100000 in
theorem lo_1 {s : State} {l : Launch} {D : va_G} {cy : Nat → ClassId} (G : Gl s l D cy) {p : Program} {e : Env} {m : MethodId} {below : List Frame} {meth : Method} {c : Code} {ret9 : Option FieldType} {b L : Nat} {xs : Nat → Int32} (X : Cx s l D cy p s m #[Value.ref b] meth c cL_law 8 "CavershamShiftLaw" ret9) (hX : va_X b L xs s s.heap) (hbl : b < s.heap.size) {S : HS} {H : Heap} {locs : List Loc} {ls : Array Slot} {ii k gC : Nat} {cn : Cn} {ax am ao : Nat} {Q : State → Prop} (w : Wd s D cy S s.heap H locs) (hl : lv_has ls 8 [(0, .ref b), (1, .ref ax), (2, .ref am), (3, .ref ao), (4, .int (nI ii))]) (hLI : LI s S gC cn ax am ao) (hi : ii + 7 ≤ L) (hL9 : L ≤ 3584) (hk : k ≤ 511) (K : ∀ (U : HS) (gC1 : Nat) (cn1 : Cn) (H : Heap) (locs : List Loc) (ls : Array Slot), LI s U gC1 cn1 ax am ao → Wd s D cy U s.heap H locs → lv_has ls 8 [(0, .ref b), (1, .ref ax), (2, .ref am), (3, .ref ao), (4, .int (nI ii))] → W p l e room_1 s m #[Value.ref b] below meth c H locs (cLw (k + 1) gC1 gC1) (sLw (k + 1) gC1 gC1) Q (F0 m 1585 ls [])) : W p l e room_1 s m #[Value.ref b] below meth c H locs (cLw k gC gC) (sLw k gC gC) Q (F0 m 286 ls []) := by
  have hx := X.1
  have hb := X.2.1
  have hown := X.2.2.2.1
  have hts := X.2.2.2.2.1
  obtain ⟨hC, hR, hE, hO, hZs, hgC, eX, eM, eO⟩ := id hLI
  rw [← eX, ← eM, ← eO] at hl
  refine lv_aload_n hx hb dL_law_286 rfl (lv_at hl 1 rfl) ?_
  refine lv_aload_n hx hb dL_law_287 rfl (lv_at hl 0 rfl) ?_
  refine lv_iload hx hb dL_law_288 (lv_at hl 4 rfl) ?_
  refine lv_iconst (v := 1) hx hb dL_law_290 (by decide) ?_
  refine lv_iadd hx hb dL_law_291 ?_
  refine va_sld hx hb hX hbl (Nat.not_le.mpr hbl) w.2 (i := ((nI ii) + 1)) (by rw [show nI ii + 1 = nI (ii + 1) from nI_add ii 1]; exact nI_vp (by omega) (by omega)) dL_law_292 ?_
  refine lv_topi (fun z1 ez1 => ?_)
  refine lv_aload_n hx hb dL_law_293 rfl (lv_at hl 0 rfl) ?_
  refine lv_iload hx hb dL_law_294 (lv_at hl 4 rfl) ?_
  refine lv_iconst (v := 2) hx hb dL_law_296 (by decide) ?_
  refine lv_iadd hx hb dL_law_297 ?_
  refine va_sld hx hb hX hbl (Nat.not_le.mpr hbl) w.2 (i := ((nI ii) + 2)) (by rw [show nI ii + 2 = nI (ii + 2) from nI_add ii 2]; exact nI_vp (by omega) (by omega)) dL_law_298 ?_
  refine lv_topi (fun z2 ez2 => ?_)
  refine lv_aload_n hx hb dL_law_299 rfl (lv_at hl 3 rfl) ?_
  refine cSW (S := S) (nA := 4) (As := [.ref (gG S 10 0), .int z1, .int z2, .ref (gG S 11 0)]) (rest := []) X w hl ((w_L_drift G S hC hO hC.v10 z1 z2).post (post' := fun v S9 => (¬ dK cn.1 99 z1 z2 = 0 ∧ (∃ k9 : Int32, some (.int k9) = v) ∧ S = S9) ∨ (dK cn.1 99 z1 z2 = 0 ∧ some (.int 0) = v ∧ ∃ S1 : HS, CX (eaOf s) S1 (cn.1, cn.2.1, cn.2.2.1, cn.2.2.2.1, cn.2.2.2.2.1, cn.2.2.2.2.2.1, sI cn.2.2.2.2.2.2 229 z1.toNatClampNeg z2) ∧ KeepB S S1 ∧ S9 = (sL S1 176 (Int32.toInt64 (mI cn.2.2.2.2.2.2 229 z1.toNatClampNeg))))) (fun v S9 h9 => by rcases h9 with ⟨e9, rfl, rfl⟩ | ⟨e9, rfl, rfl⟩ | h9 <;> first | exact Or.inr h9 | exact Or.inl ⟨by rw [e9]; decide, ⟨_, rfl⟩, rfl⟩)) wYW_L_drift wM_L_138 wSt_L_drift wI_L (by decide +kernel) rfl rfl dL_law_300 ⟨Nat.le_of_ble_eq_true rfl, Nat.le_of_ble_eq_true rfl⟩ (Nat.le_of_ble_eq_true rfl) (⟨by have := hgC.2; show cLw k gC gC + 1 ≤ 601024; unfold cLw; omega, by have := hgC.2; show sLw k gC gC + 6 ≤ 7293034; unfold sLw; omega⟩) (fun v U1 H locs hp w => ?_)
  rcases hp with ⟨hkC, ⟨k9, rfl⟩, rfl⟩ | ⟨hkC, rfl, S9, hC9, hB9, rfl⟩
  · refine lv_istore (lv' := [(5, .int k9), (0, .ref b), (1, .ref (gG S 10 0)), (2, .ref (gG S 16 0)), (3, .ref (gG S 11 0)), (4, .int (nI ii))]) hx hb dL_law_303 hl (by decide) rfl (fun ls hl => ?_)
    refine lv_aload_n hx hb dL_law_305 rfl (lv_at hl 3 rfl) ?_
    refine lv_aload_n hx hb dL_law_306 rfl (lv_at hl 1 rfl) ?_
    refine lv_iload hx hb dL_law_307 (lv_at hl 5 rfl) ?_
    refine lv_iconst (v := 1) hx hb dL_law_309 (by decide) ?_
    refine lv_iadd hx hb dL_law_310 ?_
    refine va_sld hx hb hX hbl (Nat.not_le.mpr hbl) w.2 (i := ((nI ii) + 1)) (by rw [show nI ii + 1 = nI (ii + 1) from nI_add ii 1]; exact nI_vp (by omega) (by omega)) dL_law_311 ?_
    refine lv_topi (fun z3 ez3 => ?_)
    refine lv_aload_n hx hb dL_law_312 rfl (lv_at hl 1 rfl) ?_
    refine lv_iload hx hb dL_law_313 (lv_at hl 5 rfl) ?_
    refine lv_iconst (v := 2) hx hb dL_law_315 (by decide) ?_
    refine lv_iadd hx hb dL_law_316 ?_
    refine va_sld hx hb hX hbl (Nat.not_le.mpr hbl) w.2 (i := ((nI ii) + 2)) (by rw [show nI ii + 2 = nI (ii + 2) from nI_add ii 2]; exact nI_vp (by omega) (by omega)) dL_law_317 ?_
    refine lv_topi (fun z4 ez4 => ?_)
    obtain rfl : z1 = z3 := ez1.trans ez3.symm
    obtain rfl : z2 = z4 := ez2.trans ez4.symm
    refine cV (S := S) (nA := 2) (As := [.int z1, .int z2]) (rest := []) X w hl hR.v16 (k_X16_drift G S hR z1 z2) wY_X16_drift wM_L_141 wIn_X16_drift wSe_X16_X16_drift wI_X16 (by decide) rfl (by decide +kernel) rfl rfl dL_law_318 ⟨Nat.le_of_ble_eq_true rfl, Nat.le_of_ble_eq_true rfl⟩ (Nat.le_of_ble_eq_true rfl) (⟨by have := hgC.2; show cLw k gC gC + 1 ≤ 601024; unfold cLw; omega, by have := hgC.2; show sLw k gC gC + 6 ≤ 7293034; unfold sLw; omega⟩) (fun v U2 H locs hp w => ?_)
    rcases hp with ⟨hkR, ⟨y9, rfl⟩, hX9, hk9, e256⟩ | ⟨hkR, -⟩
    · have hs : StpL s cn S U2 := StpL.ofR hX9 hk9
      rw [eX, eM, eO] at hl
      have hLI := hs _ _ _ _ hLI
      obtain ⟨hC, hR, hE, hO, hZs, hgC, eX, eM, eO⟩ := id hLI
      rw [← eX, ← eM, ← eO] at hl
      refine lv_istore (lv' := [(6, .int y9), (5, .int k9), (0, .ref b), (1, .ref (gG U2 10 0)), (2, .ref (gG U2 16 0)), (3, .ref (gG U2 11 0)), (4, .int (nI ii))]) hx hb dL_law_321 hl (by decide) rfl (fun ls hl => ?_)
      refine lv_goto (tgt := 1585) hx hb dL_law_323 (by decide) ?_
      refine W.widen (k := cLw (k + 1) gC gC) (n := sLw (k + 1) gC gC) (by show cLw k gC gC + 1 ≤ _; unfold cLw; omega) (by show sLw k gC gC + 6 ≤ _; unfold sLw; omega) ?_
      rw [eX, eM, eO] at hl
      exact K _ _ _ H locs _ hLI w (lv_sub hl [2, 3, 4, 5, 6] rfl)
    · exact absurd hkR hkC
  · obtain ⟨hR9, eX9, eM9, eO9⟩ := hLI.mid (Int32.toInt64 (mI cn.2.2.2.2.2.2 229 z1.toNatClampNeg)) hB9
    rw [eX, eM, eO] at hl
    rw [← eX9, ← eM9, ← eO9] at hl
    refine lv_istore (lv' := [(5, .int 0), (0, .ref b), (1, .ref (gG (sL S9 176 (Int32.toInt64 (mI cn.2.2.2.2.2.2 229 z1.toNatClampNeg))) 10 0)), (2, .ref (gG (sL S9 176 (Int32.toInt64 (mI cn.2.2.2.2.2.2 229 z1.toNatClampNeg))) 16 0)), (3, .ref (gG (sL S9 176 (Int32.toInt64 (mI cn.2.2.2.2.2.2 229 z1.toNatClampNeg))) 11 0)), (4, .int (nI ii))]) hx hb dL_law_303 hl (by decide) rfl (fun ls hl => ?_)
    refine lv_aload_n hx hb dL_law_305 rfl (lv_at hl 3 rfl) ?_
    refine lv_aload_n hx hb dL_law_306 rfl (lv_at hl 1 rfl) ?_
    refine lv_iload hx hb dL_law_307 (lv_at hl 5 rfl) ?_
    refine lv_iconst (v := 1) hx hb dL_law_309 (by decide) ?_
    refine lv_iadd hx hb dL_law_310 ?_
    refine va_sld hx hb hX hbl (Nat.not_le.mpr hbl) w.2 (i := ((nI ii) + 1)) (by rw [show nI ii + 1 = nI (ii + 1) from nI_add ii 1]; exact nI_vp (by omega) (by omega)) dL_law_311 ?_
    refine lv_topi (fun z5 ez5 => ?_)
    refine lv_aload_n hx hb dL_law_312 rfl (lv_at hl 1 rfl) ?_
    refine lv_iload hx hb dL_law_313 (lv_at hl 5 rfl) ?_
    refine lv_iconst (v := 2) hx hb dL_law_315 (by decide) ?_
    refine lv_iadd hx hb dL_law_316 ?_
    refine va_sld hx hb hX hbl (Nat.not_le.mpr hbl) w.2 (i := ((nI ii) + 2)) (by rw [show nI ii + 2 = nI (ii + 2) from nI_add ii 2]; exact nI_vp (by omega) (by omega)) dL_law_317 ?_
    refine lv_topi (fun z6 ez6 => ?_)
    obtain rfl : z1 = z5 := ez1.trans ez5.symm
    obtain rfl : z2 = z6 := ez2.trans ez6.symm
    refine cV (S := (sL S9 176 (Int32.toInt64 (mI cn.2.2.2.2.2.2 229 z1.toNatClampNeg)))) (nA := 2) (As := [.int z1, .int z2]) (rest := []) X w hl hR9.v16 (k_X16_drift G (sL S9 176 (Int32.toInt64 (mI cn.2.2.2.2.2.2 229 z1.toNatClampNeg))) hR9 z1 z2) wY_X16_drift wM_L_141 wIn_X16_drift wSe_X16_X16_drift wI_X16 (by decide) rfl (by decide +kernel) rfl rfl dL_law_318 ⟨Nat.le_of_ble_eq_true rfl, Nat.le_of_ble_eq_true rfl⟩ (Nat.le_of_ble_eq_true rfl) (⟨by have := hgC.2; show cLw k gC gC + 1 ≤ 601024; unfold cLw; omega, by have := hgC.2; show sLw k gC gC + 6 ≤ 7293034; unfold sLw; omega⟩) (fun v U2 H locs hp w => ?_)
    rcases hp with ⟨hkR, -⟩ | ⟨hkR, rfl, hX8, hB8, e256⟩
    · exact absurd hkC hkR
    · obtain ⟨hLI, eL9⟩ := hLI.told (gN := gC) hC9 hB9 hX8 hB8 hgC
      rw [eX9, eM9, eO9] at hl
      obtain ⟨hC, hR, hE, hO, hZs, hgC, eX, eM, eO⟩ := id hLI
      rw [← eX, ← eM, ← eO] at hl
      refine lv_istore (lv' := [(6, .int (mI cn.2.2.2.2.2.2 229 z1.toNatClampNeg)), (5, .int 0), (0, .ref b), (1, .ref (gG U2 10 0)), (2, .ref (gG U2 16 0)), (3, .ref (gG U2 11 0)), (4, .int (nI ii))]) hx hb dL_law_321 hl (by decide) rfl (fun ls hl => ?_)
      refine lv_goto (tgt := 1585) hx hb dL_law_323 (by decide) ?_
      refine W.widen (k := cLw (k + 1) gC gC) (n := sLw (k + 1) gC gC) (by show cLw k gC gC + 1 ≤ _; unfold cLw; omega) (by show sLw k gC gC + 6 ≤ _; unfold sLw; omega) ?_
      rw [eX, eM, eO] at hl
      exact K _ _ _ H locs _ hLI w (lv_sub hl [2, 3, 4, 5, 6] rfl)

theorem dL_law_326 : decode cL_law 326 = .ok (.aload_n 1, 1) := by decide +kernel
theorem dL_law_327 : decode cL_law 327 = .ok (.aload_n 0, 1) := by decide +kernel
theorem dL_law_328 : decode cL_law 328 = .ok (.iload 4, 2) := by decide +kernel
theorem dL_law_330 : decode cL_law 330 = .ok (.iconst 1, 1) := by decide +kernel
theorem dL_law_331 : decode cL_law 331 = .ok (.iadd, 1) := by decide +kernel
theorem dL_law_332 : decode cL_law 332 = .ok (.iaload, 1) := by decide +kernel
theorem dL_law_333 : decode cL_law 333 = .ok (.aload_n 0, 1) := by decide +kernel
theorem dL_law_334 : decode cL_law 334 = .ok (.iload 4, 2) := by decide +kernel
theorem dL_law_336 : decode cL_law 336 = .ok (.iconst 2, 1) := by decide +kernel
theorem dL_law_337 : decode cL_law 337 = .ok (.iadd, 1) := by decide +kernel
theorem dL_law_338 : decode cL_law 338 = .ok (.iaload, 1) := by decide +kernel
theorem dL_law_339 : decode cL_law 339 = .ok (.aload_n 3, 1) := by decide +kernel
theorem dL_law_340 : decode cL_law 340 = .ok (.invokestatic 142, 3) := by decide +kernel
theorem dL_law_343 : decode cL_law 343 = .ok (.istore 5, 2) := by decide +kernel
theorem dL_law_345 : decode cL_law 345 = .ok (.aload_n 2, 1) := by decide +kernel
theorem dL_law_346 : decode cL_law 346 = .ok (.aload_n 0, 1) := by decide +kernel
theorem dL_law_347 : decode cL_law 347 = .ok (.iload 4, 2) := by decide +kernel
theorem dL_law_349 : decode cL_law 349 = .ok (.iconst 1, 1) := by decide +kernel
theorem dL_law_350 : decode cL_law 350 = .ok (.iadd, 1) := by decide +kernel
theorem dL_law_351 : decode cL_law 351 = .ok (.iaload, 1) := by decide +kernel
theorem dL_law_352 : decode cL_law 352 = .ok (.aload_n 0, 1) := by decide +kernel
theorem dL_law_353 : decode cL_law 353 = .ok (.iload 4, 2) := by decide +kernel
theorem dL_law_355 : decode cL_law 355 = .ok (.iconst 2, 1) := by decide +kernel
theorem dL_law_356 : decode cL_law 356 = .ok (.iadd, 1) := by decide +kernel
theorem dL_law_357 : decode cL_law 357 = .ok (.iaload, 1) := by decide +kernel
theorem dL_law_358 : decode cL_law 358 = .ok (.invokevirtual 144, 3) := by decide +kernel
theorem dL_law_361 : decode cL_law 361 = .ok (.istore 6, 2) := by decide +kernel
theorem dL_law_363 : decode cL_law 363 = .ok (.goto 1222, 3) := by decide +kernel
set_option maxHeartbeats 4000000 in
set_option maxRecDepth 100000 in
theorem lo_2 {s : State} {l : Launch} {D : va_G} {cy : Nat → ClassId} (G : Gl s l D cy) {p : Program} {e : Env} {m : MethodId} {below : List Frame} {meth : Method} {c : Code} {ret9 : Option FieldType} {b L : Nat} {xs : Nat → Int32} (X : Cx s l D cy p s m #[Value.ref b] meth c cL_law 8 "CavershamShiftLaw" ret9) (hX : va_X b L xs s s.heap) (hbl : b < s.heap.size) {S : HS} {H : Heap} {locs : List Loc} {ls : Array Slot} {ii k gC : Nat} {cn : Cn} {ax am ao : Nat} {Q : State → Prop} (w : Wd s D cy S s.heap H locs) (hl : lv_has ls 8 [(0, .ref b), (1, .ref ax), (2, .ref am), (3, .ref ao), (4, .int (nI ii))]) (hLI : LI s S gC cn ax am ao) (hi : ii + 7 ≤ L) (hL9 : L ≤ 3584) (hk : k ≤ 511) (K : ∀ (U : HS) (gC1 : Nat) (cn1 : Cn) (H : Heap) (locs : List Loc) (ls : Array Slot), LI s U gC1 cn1 ax am ao → Wd s D cy U s.heap H locs → lv_has ls 8 [(0, .ref b), (1, .ref ax), (2, .ref am), (3, .ref ao), (4, .int (nI ii))] → W p l e room_1 s m #[Value.ref b] below meth c H locs (cLw (k + 1) gC1 gC1) (sLw (k + 1) gC1 gC1) Q (F0 m 1585 ls [])) : W p l e room_1 s m #[Value.ref b] below meth c H locs (cLw k gC gC) (sLw k gC gC) Q (F0 m 326 ls []) := by
  have hx := X.1
  have hb := X.2.1
  have hown := X.2.2.2.1
  have hts := X.2.2.2.2.1
  obtain ⟨hC, hR, hE, hO, hZs, hgC, eX, eM, eO⟩ := id hLI
  rw [← eX, ← eM, ← eO] at hl
  refine lv_aload_n hx hb dL_law_326 rfl (lv_at hl 1 rfl) ?_
  refine lv_aload_n hx hb dL_law_327 rfl (lv_at hl 0 rfl) ?_
  refine lv_iload hx hb dL_law_328 (lv_at hl 4 rfl) ?_
  refine lv_iconst (v := 1) hx hb dL_law_330 (by decide) ?_
  refine lv_iadd hx hb dL_law_331 ?_
  refine va_sld hx hb hX hbl (Nat.not_le.mpr hbl) w.2 (i := ((nI ii) + 1)) (by rw [show nI ii + 1 = nI (ii + 1) from nI_add ii 1]; exact nI_vp (by omega) (by omega)) dL_law_332 ?_
  refine lv_topi (fun z1 ez1 => ?_)
  refine lv_aload_n hx hb dL_law_333 rfl (lv_at hl 0 rfl) ?_
  refine lv_iload hx hb dL_law_334 (lv_at hl 4 rfl) ?_
  refine lv_iconst (v := 2) hx hb dL_law_336 (by decide) ?_
  refine lv_iadd hx hb dL_law_337 ?_
  refine va_sld hx hb hX hbl (Nat.not_le.mpr hbl) w.2 (i := ((nI ii) + 2)) (by rw [show nI ii + 2 = nI (ii + 2) from nI_add ii 2]; exact nI_vp (by omega) (by omega)) dL_law_338 ?_
  refine lv_topi (fun z2 ez2 => ?_)
  refine lv_aload_n hx hb dL_law_339 rfl (lv_at hl 3 rfl) ?_
  refine cSW (S := S) (nA := 4) (As := [.ref (gG S 10 0), .int z1, .int z2, .ref (gG S 11 0)]) (rest := []) X w hl ((w_L_jammer G S hC hO hC.v10 z1 z2).post (post' := fun v S9 => (¬ jmK cn.2.1 z1 z2 = 0 ∧ (∃ k9 : Int32, some (.int k9) = v) ∧ S = S9) ∨ (jmK cn.2.1 z1 z2 = 0 ∧ some (.int 0) = v ∧ ∃ S1 : HS, CX (eaOf s) S1 (cn.1, cn.2.1 + 1, cn.2.2.1, cn.2.2.2.1, cn.2.2.2.2.1, cn.2.2.2.2.2.1, jmA cn.2.2.2.2.2.2 cn.2.1 z1 z2) ∧ KeepB S S1 ∧ S9 = (sL S1 176 (Int32.toInt64 (nI cn.2.1))))) (fun v S9 h9 => by rcases h9 with ⟨e9, rfl, rfl⟩ | ⟨e9, rfl, rfl⟩ | h9 <;> first | exact Or.inr h9 | exact Or.inl ⟨by rw [e9]; decide, ⟨_, rfl⟩, rfl⟩)) wYW_L_jammer wM_L_142 wSt_L_jammer wI_L (by decide +kernel) rfl rfl dL_law_340 ⟨Nat.le_of_ble_eq_true rfl, Nat.le_of_ble_eq_true rfl⟩ (Nat.le_of_ble_eq_true rfl) (⟨by have := hgC.2; show cLw k gC gC + 2 ≤ 601024; unfold cLw; omega, by have := hgC.2; show sLw k gC gC + 51 ≤ 7293034; unfold sLw; omega⟩) (fun v U1 H locs hp w => ?_)
  rcases hp with ⟨hkC, ⟨k9, rfl⟩, rfl⟩ | ⟨hkC, rfl, S9, hC9, hB9, rfl⟩
  · refine lv_istore (lv' := [(5, .int k9), (0, .ref b), (1, .ref (gG S 10 0)), (2, .ref (gG S 16 0)), (3, .ref (gG S 11 0)), (4, .int (nI ii))]) hx hb dL_law_343 hl (by decide) rfl (fun ls hl => ?_)
    refine lv_aload_n hx hb dL_law_345 rfl (lv_at hl 3 rfl) ?_
    refine lv_aload_n hx hb dL_law_346 rfl (lv_at hl 1 rfl) ?_
    refine lv_iload hx hb dL_law_347 (lv_at hl 5 rfl) ?_
    refine lv_iconst (v := 1) hx hb dL_law_349 (by decide) ?_
    refine lv_iadd hx hb dL_law_350 ?_
    refine va_sld hx hb hX hbl (Nat.not_le.mpr hbl) w.2 (i := ((nI ii) + 1)) (by rw [show nI ii + 1 = nI (ii + 1) from nI_add ii 1]; exact nI_vp (by omega) (by omega)) dL_law_351 ?_
    refine lv_topi (fun z3 ez3 => ?_)
    refine lv_aload_n hx hb dL_law_352 rfl (lv_at hl 1 rfl) ?_
    refine lv_iload hx hb dL_law_353 (lv_at hl 5 rfl) ?_
    refine lv_iconst (v := 2) hx hb dL_law_355 (by decide) ?_
    refine lv_iadd hx hb dL_law_356 ?_
    refine va_sld hx hb hX hbl (Nat.not_le.mpr hbl) w.2 (i := ((nI ii) + 2)) (by rw [show nI ii + 2 = nI (ii + 2) from nI_add ii 2]; exact nI_vp (by omega) (by omega)) dL_law_357 ?_
    refine lv_topi (fun z4 ez4 => ?_)
    obtain rfl : z1 = z3 := ez1.trans ez3.symm
    obtain rfl : z2 = z4 := ez2.trans ez4.symm
    refine cV (S := S) (nA := 2) (As := [.int z1, .int z2]) (rest := []) X w hl hR.v16 (k_X16_jammer G S hR z1 z2) wY_X16_jammer wM_L_144 wIn_X16_jammer wSe_X16_X16_jammer wI_X16 (by decide) rfl (by decide +kernel) rfl rfl dL_law_358 ⟨Nat.le_of_ble_eq_true rfl, Nat.le_of_ble_eq_true rfl⟩ (Nat.le_of_ble_eq_true rfl) (⟨by have := hgC.2; show cLw k gC gC + 4 ≤ 601024; unfold cLw; omega, by have := hgC.2; show sLw k gC gC + 102 ≤ 7293034; unfold sLw; omega⟩) (fun v U2 H locs hp w => ?_)
    rcases hp with ⟨hkR, ⟨y9, rfl⟩, hX9, hk9, e256⟩ | ⟨hkR, -⟩
    · have hs : StpL s cn S U2 := StpL.ofR hX9 hk9
      rw [eX, eM, eO] at hl
      have hLI := hs _ _ _ _ hLI
      obtain ⟨hC, hR, hE, hO, hZs, hgC, eX, eM, eO⟩ := id hLI
      rw [← eX, ← eM, ← eO] at hl
      refine lv_istore (lv' := [(6, .int y9), (5, .int k9), (0, .ref b), (1, .ref (gG U2 10 0)), (2, .ref (gG U2 16 0)), (3, .ref (gG U2 11 0)), (4, .int (nI ii))]) hx hb dL_law_361 hl (by decide) rfl (fun ls hl => ?_)
      refine lv_goto (tgt := 1585) hx hb dL_law_363 (by decide) ?_
      refine W.widen (k := cLw (k + 1) gC gC) (n := sLw (k + 1) gC gC) (by show cLw k gC gC + 4 ≤ _; unfold cLw; omega) (by show sLw k gC gC + 102 ≤ _; unfold sLw; omega) ?_
      rw [eX, eM, eO] at hl
      exact K _ _ _ H locs _ hLI w (lv_sub hl [2, 3, 4, 5, 6] rfl)
    · exact absurd hkR hkC
  · obtain ⟨hR9, eX9, eM9, eO9⟩ := hLI.mid (Int32.toInt64 (nI cn.2.1)) hB9
    rw [eX, eM, eO] at hl
    rw [← eX9, ← eM9, ← eO9] at hl
    refine lv_istore (lv' := [(5, .int 0), (0, .ref b), (1, .ref (gG (sL S9 176 (Int32.toInt64 (nI cn.2.1))) 10 0)), (2, .ref (gG (sL S9 176 (Int32.toInt64 (nI cn.2.1))) 16 0)), (3, .ref (gG (sL S9 176 (Int32.toInt64 (nI cn.2.1))) 11 0)), (4, .int (nI ii))]) hx hb dL_law_343 hl (by decide) rfl (fun ls hl => ?_)
    refine lv_aload_n hx hb dL_law_345 rfl (lv_at hl 3 rfl) ?_
    refine lv_aload_n hx hb dL_law_346 rfl (lv_at hl 1 rfl) ?_
    refine lv_iload hx hb dL_law_347 (lv_at hl 5 rfl) ?_
    refine lv_iconst (v := 1) hx hb dL_law_349 (by decide) ?_
    refine lv_iadd hx hb dL_law_350 ?_
    refine va_sld hx hb hX hbl (Nat.not_le.mpr hbl) w.2 (i := ((nI ii) + 1)) (by rw [show nI ii + 1 = nI (ii + 1) from nI_add ii 1]; exact nI_vp (by omega) (by omega)) dL_law_351 ?_
    refine lv_topi (fun z5 ez5 => ?_)
    refine lv_aload_n hx hb dL_law_352 rfl (lv_at hl 1 rfl) ?_
    refine lv_iload hx hb dL_law_353 (lv_at hl 5 rfl) ?_
    refine lv_iconst (v := 2) hx hb dL_law_355 (by decide) ?_
    refine lv_iadd hx hb dL_law_356 ?_
    refine va_sld hx hb hX hbl (Nat.not_le.mpr hbl) w.2 (i := ((nI ii) + 2)) (by rw [show nI ii + 2 = nI (ii + 2) from nI_add ii 2]; exact nI_vp (by omega) (by omega)) dL_law_357 ?_
    refine lv_topi (fun z6 ez6 => ?_)
    obtain rfl : z1 = z5 := ez1.trans ez5.symm
    obtain rfl : z2 = z6 := ez2.trans ez6.symm
    refine cV (S := (sL S9 176 (Int32.toInt64 (nI cn.2.1)))) (nA := 2) (As := [.int z1, .int z2]) (rest := []) X w hl hR9.v16 (k_X16_jammer G (sL S9 176 (Int32.toInt64 (nI cn.2.1))) hR9 z1 z2) wY_X16_jammer wM_L_144 wIn_X16_jammer wSe_X16_X16_jammer wI_X16 (by decide) rfl (by decide +kernel) rfl rfl dL_law_358 ⟨Nat.le_of_ble_eq_true rfl, Nat.le_of_ble_eq_true rfl⟩ (Nat.le_of_ble_eq_true rfl) (⟨by have := hgC.2; show cLw k gC gC + 4 ≤ 601024; unfold cLw; omega, by have := hgC.2; show sLw k gC gC + 102 ≤ 7293034; unfold sLw; omega⟩) (fun v U2 H locs hp w => ?_)
    rcases hp with ⟨hkR, -⟩ | ⟨hkR, rfl, hX8, hB8, e256⟩
    · exact absurd hkC hkR
    · obtain ⟨hLI, eL9⟩ := hLI.told (gN := gC) hC9 hB9 hX8 hB8 hgC
      rw [eX9, eM9, eO9] at hl
      obtain ⟨hC, hR, hE, hO, hZs, hgC, eX, eM, eO⟩ := id hLI
      rw [← eX, ← eM, ← eO] at hl
      refine lv_istore (lv' := [(6, .int (nI cn.2.1)), (5, .int 0), (0, .ref b), (1, .ref (gG U2 10 0)), (2, .ref (gG U2 16 0)), (3, .ref (gG U2 11 0)), (4, .int (nI ii))]) hx hb dL_law_361 hl (by decide) rfl (fun ls hl => ?_)
      refine lv_goto (tgt := 1585) hx hb dL_law_363 (by decide) ?_
      refine W.widen (k := cLw (k + 1) gC gC) (n := sLw (k + 1) gC gC) (by show cLw k gC gC + 4 ≤ _; unfold cLw; omega) (by show sLw k gC gC + 102 ≤ _; unfold sLw; omega) ?_
      rw [eX, eM, eO] at hl
      exact K _ _ _ H locs _ hLI w (lv_sub hl [2, 3, 4, 5, 6] rfl)

theorem dL_law_366 : decode cL_law 366 = .ok (.aload_n 1, 1) := by decide +kernel
theorem dL_law_367 : decode cL_law 367 = .ok (.aload_n 0, 1) := by decide +kernel
theorem dL_law_368 : decode cL_law 368 = .ok (.iload 4, 2) := by decide +kernel
theorem dL_law_370 : decode cL_law 370 = .ok (.iconst 1, 1) := by decide +kernel
theorem dL_law_371 : decode cL_law 371 = .ok (.iadd, 1) := by decide +kernel
theorem dL_law_372 : decode cL_law 372 = .ok (.iaload, 1) := by decide +kernel
theorem dL_law_373 : decode cL_law 373 = .ok (.aload_n 0, 1) := by decide +kernel
theorem dL_law_374 : decode cL_law 374 = .ok (.iload 4, 2) := by decide +kernel
theorem dL_law_376 : decode cL_law 376 = .ok (.iconst 2, 1) := by decide +kernel
theorem dL_law_377 : decode cL_law 377 = .ok (.iadd, 1) := by decide +kernel
theorem dL_law_378 : decode cL_law 378 = .ok (.iaload, 1) := by decide +kernel
theorem dL_law_379 : decode cL_law 379 = .ok (.aload_n 3, 1) := by decide +kernel
theorem dL_law_380 : decode cL_law 380 = .ok (.invokestatic 145, 3) := by decide +kernel
theorem dL_law_383 : decode cL_law 383 = .ok (.istore 5, 2) := by decide +kernel
theorem dL_law_385 : decode cL_law 385 = .ok (.aload_n 2, 1) := by decide +kernel
theorem dL_law_386 : decode cL_law 386 = .ok (.aload_n 0, 1) := by decide +kernel
theorem dL_law_387 : decode cL_law 387 = .ok (.iload 4, 2) := by decide +kernel
theorem dL_law_389 : decode cL_law 389 = .ok (.iconst 1, 1) := by decide +kernel
theorem dL_law_390 : decode cL_law 390 = .ok (.iadd, 1) := by decide +kernel
theorem dL_law_391 : decode cL_law 391 = .ok (.iaload, 1) := by decide +kernel
theorem dL_law_392 : decode cL_law 392 = .ok (.aload_n 0, 1) := by decide +kernel
theorem dL_law_393 : decode cL_law 393 = .ok (.iload 4, 2) := by decide +kernel
theorem dL_law_395 : decode cL_law 395 = .ok (.iconst 2, 1) := by decide +kernel
theorem dL_law_396 : decode cL_law 396 = .ok (.iadd, 1) := by decide +kernel
theorem dL_law_397 : decode cL_law 397 = .ok (.iaload, 1) := by decide +kernel
theorem dL_law_398 : decode cL_law 398 = .ok (.invokevirtual 147, 3) := by decide +kernel
theorem dL_law_401 : decode cL_law 401 = .ok (.istore 6, 2) := by decide +kernel
theorem dL_law_403 : decode cL_law 403 = .ok (.goto 1182, 3) := by decide +kernel
set_option maxHeartbeats 4000000 in
set_option maxRecDepth 100000 in
theorem lo_3 {s : State} {l : Launch} {D : va_G} {cy : Nat → ClassId} (G : Gl s l D cy) {p : Program} {e : Env} {m : MethodId} {below : List Frame} {meth : Method} {c : Code} {ret9 : Option FieldType} {b L : Nat} {xs : Nat → Int32} (X : Cx s l D cy p s m #[Value.ref b] meth c cL_law 8 "CavershamShiftLaw" ret9) (hX : va_X b L xs s s.heap) (hbl : b < s.heap.size) {S : HS} {H : Heap} {locs : List Loc} {ls : Array Slot} {ii k gC : Nat} {cn : Cn} {ax am ao : Nat} {Q : State → Prop} (w : Wd s D cy S s.heap H locs) (hl : lv_has ls 8 [(0, .ref b), (1, .ref ax), (2, .ref am), (3, .ref ao), (4, .int (nI ii))]) (hLI : LI s S gC cn ax am ao) (hi : ii + 7 ≤ L) (hL9 : L ≤ 3584) (hk : k ≤ 511) (K : ∀ (U : HS) (gC1 : Nat) (cn1 : Cn) (H : Heap) (locs : List Loc) (ls : Array Slot), LI s U gC1 cn1 ax am ao → Wd s D cy U s.heap H locs → lv_has ls 8 [(0, .ref b), (1, .ref ax), (2, .ref am), (3, .ref ao), (4, .int (nI ii))] → W p l e room_1 s m #[Value.ref b] below meth c H locs (cLw (k + 1) gC1 gC1) (sLw (k + 1) gC1 gC1) Q (F0 m 1585 ls [])) : W p l e room_1 s m #[Value.ref b] below meth c H locs (cLw k gC gC) (sLw k gC gC) Q (F0 m 366 ls []) := by
  have hx := X.1
  have hb := X.2.1
  have hown := X.2.2.2.1
  have hts := X.2.2.2.2.1
  obtain ⟨hC, hR, hE, hO, hZs, hgC, eX, eM, eO⟩ := id hLI
  rw [← eX, ← eM, ← eO] at hl
  refine lv_aload_n hx hb dL_law_366 rfl (lv_at hl 1 rfl) ?_
  refine lv_aload_n hx hb dL_law_367 rfl (lv_at hl 0 rfl) ?_
  refine lv_iload hx hb dL_law_368 (lv_at hl 4 rfl) ?_
  refine lv_iconst (v := 1) hx hb dL_law_370 (by decide) ?_
  refine lv_iadd hx hb dL_law_371 ?_
  refine va_sld hx hb hX hbl (Nat.not_le.mpr hbl) w.2 (i := ((nI ii) + 1)) (by rw [show nI ii + 1 = nI (ii + 1) from nI_add ii 1]; exact nI_vp (by omega) (by omega)) dL_law_372 ?_
  refine lv_topi (fun z1 ez1 => ?_)
  refine lv_aload_n hx hb dL_law_373 rfl (lv_at hl 0 rfl) ?_
  refine lv_iload hx hb dL_law_374 (lv_at hl 4 rfl) ?_
  refine lv_iconst (v := 2) hx hb dL_law_376 (by decide) ?_
  refine lv_iadd hx hb dL_law_377 ?_
  refine va_sld hx hb hX hbl (Nat.not_le.mpr hbl) w.2 (i := ((nI ii) + 2)) (by rw [show nI ii + 2 = nI (ii + 2) from nI_add ii 2]; exact nI_vp (by omega) (by omega)) dL_law_378 ?_
  refine lv_topi (fun z2 ez2 => ?_)
  refine lv_aload_n hx hb dL_law_379 rfl (lv_at hl 3 rfl) ?_
  refine cSW (S := S) (nA := 4) (As := [.ref (gG S 10 0), .int z1, .int z2, .ref (gG S 11 0)]) (rest := []) X w hl ((w_L_jam G S hC hO hC.v10 z1 z2).post (post' := fun v S9 => (¬ dK cn.2.1 9 z1 z2 = 0 ∧ (∃ k9 : Int32, some (.int k9) = v) ∧ S = S9) ∨ (dK cn.2.1 9 z1 z2 = 0 ∧ some (.int 0) = v ∧ ∃ S1 : HS, CX (eaOf s) S1 (cn.1, cn.2.1, cn.2.2.1, cn.2.2.2.1, cn.2.2.2.2.1, cn.2.2.2.2.2.1, jaA cn.2.2.2.2.2.2 z1.toNatClampNeg z2) ∧ KeepB S S1 ∧ S9 = (sL S1 176 (Int32.toInt64 (mA cn.2.2.2.2.2.2 33 z1.toNatClampNeg 1))))) (fun v S9 h9 => by rcases h9 with ⟨e9, rfl, rfl⟩ | ⟨e9, rfl, rfl⟩ | h9 <;> first | exact Or.inr h9 | exact Or.inl ⟨by rw [e9]; decide, ⟨_, rfl⟩, rfl⟩)) wYW_L_jam wM_L_145 wSt_L_jam wI_L (by decide +kernel) rfl rfl dL_law_380 ⟨Nat.le_of_ble_eq_true rfl, Nat.le_of_ble_eq_true rfl⟩ (Nat.le_of_ble_eq_true rfl) (⟨by have := hgC.2; show cLw k gC gC + 1 ≤ 601024; unfold cLw; omega, by have := hgC.2; show sLw k gC gC + 6 ≤ 7293034; unfold sLw; omega⟩) (fun v U1 H locs hp w => ?_)
  rcases hp with ⟨hkC, ⟨k9, rfl⟩, rfl⟩ | ⟨hkC, rfl, S9, hC9, hB9, rfl⟩
  · refine lv_istore (lv' := [(5, .int k9), (0, .ref b), (1, .ref (gG S 10 0)), (2, .ref (gG S 16 0)), (3, .ref (gG S 11 0)), (4, .int (nI ii))]) hx hb dL_law_383 hl (by decide) rfl (fun ls hl => ?_)
    refine lv_aload_n hx hb dL_law_385 rfl (lv_at hl 3 rfl) ?_
    refine lv_aload_n hx hb dL_law_386 rfl (lv_at hl 1 rfl) ?_
    refine lv_iload hx hb dL_law_387 (lv_at hl 5 rfl) ?_
    refine lv_iconst (v := 1) hx hb dL_law_389 (by decide) ?_
    refine lv_iadd hx hb dL_law_390 ?_
    refine va_sld hx hb hX hbl (Nat.not_le.mpr hbl) w.2 (i := ((nI ii) + 1)) (by rw [show nI ii + 1 = nI (ii + 1) from nI_add ii 1]; exact nI_vp (by omega) (by omega)) dL_law_391 ?_
    refine lv_topi (fun z3 ez3 => ?_)
    refine lv_aload_n hx hb dL_law_392 rfl (lv_at hl 1 rfl) ?_
    refine lv_iload hx hb dL_law_393 (lv_at hl 5 rfl) ?_
    refine lv_iconst (v := 2) hx hb dL_law_395 (by decide) ?_
    refine lv_iadd hx hb dL_law_396 ?_
    refine va_sld hx hb hX hbl (Nat.not_le.mpr hbl) w.2 (i := ((nI ii) + 2)) (by rw [show nI ii + 2 = nI (ii + 2) from nI_add ii 2]; exact nI_vp (by omega) (by omega)) dL_law_397 ?_
    refine lv_topi (fun z4 ez4 => ?_)
    obtain rfl : z1 = z3 := ez1.trans ez3.symm
    obtain rfl : z2 = z4 := ez2.trans ez4.symm
    refine cV (S := S) (nA := 2) (As := [.int z1, .int z2]) (rest := []) X w hl hR.v16 (k_X16_jam G S hR z1 z2) wY_X16_jam wM_L_147 wIn_X16_jam wSe_X16_X16_jam wI_X16 (by decide) rfl (by decide +kernel) rfl rfl dL_law_398 ⟨Nat.le_of_ble_eq_true rfl, Nat.le_of_ble_eq_true rfl⟩ (Nat.le_of_ble_eq_true rfl) (⟨by have := hgC.2; show cLw k gC gC + 1 ≤ 601024; unfold cLw; omega, by have := hgC.2; show sLw k gC gC + 6 ≤ 7293034; unfold sLw; omega⟩) (fun v U2 H locs hp w => ?_)
    rcases hp with ⟨hkR, ⟨y9, rfl⟩, hX9, hk9, e256⟩ | ⟨hkR, -⟩
    · have hs : StpL s cn S U2 := StpL.ofR hX9 hk9
      rw [eX, eM, eO] at hl
      have hLI := hs _ _ _ _ hLI
      obtain ⟨hC, hR, hE, hO, hZs, hgC, eX, eM, eO⟩ := id hLI
      rw [← eX, ← eM, ← eO] at hl
      refine lv_istore (lv' := [(6, .int y9), (5, .int k9), (0, .ref b), (1, .ref (gG U2 10 0)), (2, .ref (gG U2 16 0)), (3, .ref (gG U2 11 0)), (4, .int (nI ii))]) hx hb dL_law_401 hl (by decide) rfl (fun ls hl => ?_)
      refine lv_goto (tgt := 1585) hx hb dL_law_403 (by decide) ?_
      refine W.widen (k := cLw (k + 1) gC gC) (n := sLw (k + 1) gC gC) (by show cLw k gC gC + 1 ≤ _; unfold cLw; omega) (by show sLw k gC gC + 6 ≤ _; unfold sLw; omega) ?_
      rw [eX, eM, eO] at hl
      exact K _ _ _ H locs _ hLI w (lv_sub hl [2, 3, 4, 5, 6] rfl)
    · exact absurd hkR hkC
  · obtain ⟨hR9, eX9, eM9, eO9⟩ := hLI.mid (Int32.toInt64 (mA cn.2.2.2.2.2.2 33 z1.toNatClampNeg 1)) hB9
    rw [eX, eM, eO] at hl
    rw [← eX9, ← eM9, ← eO9] at hl
    refine lv_istore (lv' := [(5, .int 0), (0, .ref b), (1, .ref (gG (sL S9 176 (Int32.toInt64 (mA cn.2.2.2.2.2.2 33 z1.toNatClampNeg 1))) 10 0)), (2, .ref (gG (sL S9 176 (Int32.toInt64 (mA cn.2.2.2.2.2.2 33 z1.toNatClampNeg 1))) 16 0)), (3, .ref (gG (sL S9 176 (Int32.toInt64 (mA cn.2.2.2.2.2.2 33 z1.toNatClampNeg 1))) 11 0)), (4, .int (nI ii))]) hx hb dL_law_383 hl (by decide) rfl (fun ls hl => ?_)
    refine lv_aload_n hx hb dL_law_385 rfl (lv_at hl 3 rfl) ?_
    refine lv_aload_n hx hb dL_law_386 rfl (lv_at hl 1 rfl) ?_
    refine lv_iload hx hb dL_law_387 (lv_at hl 5 rfl) ?_
    refine lv_iconst (v := 1) hx hb dL_law_389 (by decide) ?_
    refine lv_iadd hx hb dL_law_390 ?_
    refine va_sld hx hb hX hbl (Nat.not_le.mpr hbl) w.2 (i := ((nI ii) + 1)) (by rw [show nI ii + 1 = nI (ii + 1) from nI_add ii 1]; exact nI_vp (by omega) (by omega)) dL_law_391 ?_
    refine lv_topi (fun z5 ez5 => ?_)
    refine lv_aload_n hx hb dL_law_392 rfl (lv_at hl 1 rfl) ?_
    refine lv_iload hx hb dL_law_393 (lv_at hl 5 rfl) ?_
    refine lv_iconst (v := 2) hx hb dL_law_395 (by decide) ?_
    refine lv_iadd hx hb dL_law_396 ?_
    refine va_sld hx hb hX hbl (Nat.not_le.mpr hbl) w.2 (i := ((nI ii) + 2)) (by rw [show nI ii + 2 = nI (ii + 2) from nI_add ii 2]; exact nI_vp (by omega) (by omega)) dL_law_397 ?_
    refine lv_topi (fun z6 ez6 => ?_)
    obtain rfl : z1 = z5 := ez1.trans ez5.symm
    obtain rfl : z2 = z6 := ez2.trans ez6.symm
    refine cV (S := (sL S9 176 (Int32.toInt64 (mA cn.2.2.2.2.2.2 33 z1.toNatClampNeg 1)))) (nA := 2) (As := [.int z1, .int z2]) (rest := []) X w hl hR9.v16 (k_X16_jam G (sL S9 176 (Int32.toInt64 (mA cn.2.2.2.2.2.2 33 z1.toNatClampNeg 1))) hR9 z1 z2) wY_X16_jam wM_L_147 wIn_X16_jam wSe_X16_X16_jam wI_X16 (by decide) rfl (by decide +kernel) rfl rfl dL_law_398 ⟨Nat.le_of_ble_eq_true rfl, Nat.le_of_ble_eq_true rfl⟩ (Nat.le_of_ble_eq_true rfl) (⟨by have := hgC.2; show cLw k gC gC + 1 ≤ 601024; unfold cLw; omega, by have := hgC.2; show sLw k gC gC + 6 ≤ 7293034; unfold sLw; omega⟩) (fun v U2 H locs hp w => ?_)
    rcases hp with ⟨hkR, -⟩ | ⟨hkR, rfl, hX8, hB8, e256⟩
    · exact absurd hkC hkR
    · obtain ⟨hLI, eL9⟩ := hLI.told (gN := gC) hC9 hB9 hX8 hB8 hgC
      rw [eX9, eM9, eO9] at hl
      obtain ⟨hC, hR, hE, hO, hZs, hgC, eX, eM, eO⟩ := id hLI
      rw [← eX, ← eM, ← eO] at hl
      refine lv_istore (lv' := [(6, .int (mA cn.2.2.2.2.2.2 33 z1.toNatClampNeg 1)), (5, .int 0), (0, .ref b), (1, .ref (gG U2 10 0)), (2, .ref (gG U2 16 0)), (3, .ref (gG U2 11 0)), (4, .int (nI ii))]) hx hb dL_law_401 hl (by decide) rfl (fun ls hl => ?_)
      refine lv_goto (tgt := 1585) hx hb dL_law_403 (by decide) ?_
      refine W.widen (k := cLw (k + 1) gC gC) (n := sLw (k + 1) gC gC) (by show cLw k gC gC + 1 ≤ _; unfold cLw; omega) (by show sLw k gC gC + 6 ≤ _; unfold sLw; omega) ?_
      rw [eX, eM, eO] at hl
      exact K _ _ _ H locs _ hLI w (lv_sub hl [2, 3, 4, 5, 6] rfl)

theorem dL_law_406 : decode cL_law 406 = .ok (.aload_n 1, 1) := by decide +kernel
theorem dL_law_407 : decode cL_law 407 = .ok (.aload_n 0, 1) := by decide +kernel
theorem dL_law_408 : decode cL_law 408 = .ok (.iload 4, 2) := by decide +kernel
theorem dL_law_410 : decode cL_law 410 = .ok (.iconst 1, 1) := by decide +kernel
theorem dL_law_411 : decode cL_law 411 = .ok (.iadd, 1) := by decide +kernel
theorem dL_law_412 : decode cL_law 412 = .ok (.iaload, 1) := by decide +kernel
theorem dL_law_413 : decode cL_law 413 = .ok (.aload_n 3, 1) := by decide +kernel
theorem dL_law_414 : decode cL_law 414 = .ok (.invokestatic 148, 3) := by decide +kernel
theorem dL_law_417 : decode cL_law 417 = .ok (.istore 5, 2) := by decide +kernel
theorem dL_law_419 : decode cL_law 419 = .ok (.aload_n 2, 1) := by decide +kernel
theorem dL_law_420 : decode cL_law 420 = .ok (.aload_n 0, 1) := by decide +kernel
theorem dL_law_421 : decode cL_law 421 = .ok (.iload 4, 2) := by decide +kernel
theorem dL_law_423 : decode cL_law 423 = .ok (.iconst 1, 1) := by decide +kernel
theorem dL_law_424 : decode cL_law 424 = .ok (.iadd, 1) := by decide +kernel
theorem dL_law_425 : decode cL_law 425 = .ok (.iaload, 1) := by decide +kernel
theorem dL_law_426 : decode cL_law 426 = .ok (.invokevirtual 151, 3) := by decide +kernel
theorem dL_law_429 : decode cL_law 429 = .ok (.istore 6, 2) := by decide +kernel
theorem dL_law_431 : decode cL_law 431 = .ok (.goto 1154, 3) := by decide +kernel
set_option maxHeartbeats 4000000 in
set_option maxRecDepth 100000 in
theorem lo_4 {s : State} {l : Launch} {D : va_G} {cy : Nat → ClassId} (G : Gl s l D cy) {p : Program} {e : Env} {m : MethodId} {below : List Frame} {meth : Method} {c : Code} {ret9 : Option FieldType} {b L : Nat} {xs : Nat → Int32} (X : Cx s l D cy p s m #[Value.ref b] meth c cL_law 8 "CavershamShiftLaw" ret9) (hX : va_X b L xs s s.heap) (hbl : b < s.heap.size) {S : HS} {H : Heap} {locs : List Loc} {ls : Array Slot} {ii k gC : Nat} {cn : Cn} {ax am ao : Nat} {Q : State → Prop} (w : Wd s D cy S s.heap H locs) (hl : lv_has ls 8 [(0, .ref b), (1, .ref ax), (2, .ref am), (3, .ref ao), (4, .int (nI ii))]) (hLI : LI s S gC cn ax am ao) (hi : ii + 7 ≤ L) (hL9 : L ≤ 3584) (hk : k ≤ 511) (K : ∀ (U : HS) (gC1 : Nat) (cn1 : Cn) (H : Heap) (locs : List Loc) (ls : Array Slot), LI s U gC1 cn1 ax am ao → Wd s D cy U s.heap H locs → lv_has ls 8 [(0, .ref b), (1, .ref ax), (2, .ref am), (3, .ref ao), (4, .int (nI ii))] → W p l e room_1 s m #[Value.ref b] below meth c H locs (cLw (k + 1) gC1 gC1) (sLw (k + 1) gC1 gC1) Q (F0 m 1585 ls [])) : W p l e room_1 s m #[Value.ref b] below meth c H locs (cLw k gC gC) (sLw k gC gC) Q (F0 m 406 ls []) := by
  have hx := X.1
  have hb := X.2.1
  have hown := X.2.2.2.1
  have hts := X.2.2.2.2.1
  obtain ⟨hC, hR, hE, hO, hZs, hgC, eX, eM, eO⟩ := id hLI
  rw [← eX, ← eM, ← eO] at hl
  refine lv_aload_n hx hb dL_law_406 rfl (lv_at hl 1 rfl) ?_
  refine lv_aload_n hx hb dL_law_407 rfl (lv_at hl 0 rfl) ?_
  refine lv_iload hx hb dL_law_408 (lv_at hl 4 rfl) ?_
  refine lv_iconst (v := 1) hx hb dL_law_410 (by decide) ?_
  refine lv_iadd hx hb dL_law_411 ?_
  refine va_sld hx hb hX hbl (Nat.not_le.mpr hbl) w.2 (i := ((nI ii) + 1)) (by rw [show nI ii + 1 = nI (ii + 1) from nI_add ii 1]; exact nI_vp (by omega) (by omega)) dL_law_412 ?_
  refine lv_topi (fun z1 ez1 => ?_)
  refine lv_aload_n hx hb dL_law_413 rfl (lv_at hl 3 rfl) ?_
  refine cSW (S := S) (nA := 3) (As := [.ref (gG S 10 0), .int z1, .ref (gG S 11 0)]) (rest := []) X w hl ((w_L_monitor G S hC hO hC.v10 z1).post (post' := fun v S9 => (¬ moK cn.2.2.1 z1 = 0 ∧ (∃ k9 : Int32, some (.int k9) = v) ∧ S = S9) ∨ (moK cn.2.2.1 z1 = 0 ∧ some (.int 0) = v ∧ ∃ S1 : HS, CX (eaOf s) S1 (cn.1, cn.2.1, cn.2.2.1 + 1, cn.2.2.2.1, cn.2.2.2.2.1, cn.2.2.2.2.2.1, moC cn.2.2.2.2.2.2 cn.2.2.1 z1) ∧ KeepB S S1 ∧ S9 = (sL S1 176 (Int32.toInt64 (nI cn.2.2.1))))) (fun v S9 h9 => by rcases h9 with ⟨e9, rfl, rfl⟩ | ⟨e9, rfl, rfl⟩ | h9 <;> first | exact Or.inr h9 | exact Or.inl ⟨by rw [e9]; decide, ⟨_, rfl⟩, rfl⟩)) wYW_L_monitor wM_L_148 wSt_L_monitor wI_L (by decide +kernel) rfl rfl dL_law_414 ⟨Nat.le_of_ble_eq_true rfl, Nat.le_of_ble_eq_true rfl⟩ (Nat.le_of_ble_eq_true rfl) (⟨by have := hgC.2; show cLw k gC gC + 2 ≤ 601024; unfold cLw; omega, by have := hgC.2; show sLw k gC gC + 53 ≤ 7293034; unfold sLw; omega⟩) (fun v U1 H locs hp w => ?_)
  rcases hp with ⟨hkC, ⟨k9, rfl⟩, rfl⟩ | ⟨hkC, rfl, S9, hC9, hB9, rfl⟩
  · refine lv_istore (lv' := [(5, .int k9), (0, .ref b), (1, .ref (gG S 10 0)), (2, .ref (gG S 16 0)), (3, .ref (gG S 11 0)), (4, .int (nI ii))]) hx hb dL_law_417 hl (by decide) rfl (fun ls hl => ?_)
    refine lv_aload_n hx hb dL_law_419 rfl (lv_at hl 3 rfl) ?_
    refine lv_aload_n hx hb dL_law_420 rfl (lv_at hl 1 rfl) ?_
    refine lv_iload hx hb dL_law_421 (lv_at hl 5 rfl) ?_
    refine lv_iconst (v := 1) hx hb dL_law_423 (by decide) ?_
    refine lv_iadd hx hb dL_law_424 ?_
    refine va_sld hx hb hX hbl (Nat.not_le.mpr hbl) w.2 (i := ((nI ii) + 1)) (by rw [show nI ii + 1 = nI (ii + 1) from nI_add ii 1]; exact nI_vp (by omega) (by omega)) dL_law_425 ?_
    refine lv_topi (fun z2 ez2 => ?_)
    obtain rfl : z1 = z2 := ez1.trans ez2.symm
    refine cV (S := S) (nA := 1) (As := [.int z1]) (rest := []) X w hl hR.v16 (k_X16_monitor G S hR z1) wY_X16_monitor wM_L_151 wIn_X16_monitor wSe_X16_X16_monitor wI_X16 (by decide) rfl (by decide +kernel) rfl rfl dL_law_426 ⟨Nat.le_of_ble_eq_true rfl, Nat.le_of_ble_eq_true rfl⟩ (Nat.le_of_ble_eq_true rfl) (⟨by have := hgC.2; show cLw k gC gC + 5 ≤ 601024; unfold cLw; omega, by have := hgC.2; show sLw k gC gC + 111 ≤ 7293034; unfold sLw; omega⟩) (fun v U2 H locs hp w => ?_)
    rcases hp with ⟨hkR, ⟨y9, rfl⟩, hX9, hk9, e256⟩ | ⟨hkR, -⟩
    · have hs : StpL s cn S U2 := StpL.ofR hX9 hk9
      rw [eX, eM, eO] at hl
      have hLI := hs _ _ _ _ hLI
      obtain ⟨hC, hR, hE, hO, hZs, hgC, eX, eM, eO⟩ := id hLI
      rw [← eX, ← eM, ← eO] at hl
      refine lv_istore (lv' := [(6, .int y9), (5, .int k9), (0, .ref b), (1, .ref (gG U2 10 0)), (2, .ref (gG U2 16 0)), (3, .ref (gG U2 11 0)), (4, .int (nI ii))]) hx hb dL_law_429 hl (by decide) rfl (fun ls hl => ?_)
      refine lv_goto (tgt := 1585) hx hb dL_law_431 (by decide) ?_
      refine W.widen (k := cLw (k + 1) gC gC) (n := sLw (k + 1) gC gC) (by show cLw k gC gC + 5 ≤ _; unfold cLw; omega) (by show sLw k gC gC + 111 ≤ _; unfold sLw; omega) ?_
      rw [eX, eM, eO] at hl
      exact K _ _ _ H locs _ hLI w (lv_sub hl [2, 3, 4, 5, 6] rfl)
    · exact absurd hkR hkC
  · obtain ⟨hR9, eX9, eM9, eO9⟩ := hLI.mid (Int32.toInt64 (nI cn.2.2.1)) hB9
    rw [eX, eM, eO] at hl
    rw [← eX9, ← eM9, ← eO9] at hl
    refine lv_istore (lv' := [(5, .int 0), (0, .ref b), (1, .ref (gG (sL S9 176 (Int32.toInt64 (nI cn.2.2.1))) 10 0)), (2, .ref (gG (sL S9 176 (Int32.toInt64 (nI cn.2.2.1))) 16 0)), (3, .ref (gG (sL S9 176 (Int32.toInt64 (nI cn.2.2.1))) 11 0)), (4, .int (nI ii))]) hx hb dL_law_417 hl (by decide) rfl (fun ls hl => ?_)
    refine lv_aload_n hx hb dL_law_419 rfl (lv_at hl 3 rfl) ?_
    refine lv_aload_n hx hb dL_law_420 rfl (lv_at hl 1 rfl) ?_
    refine lv_iload hx hb dL_law_421 (lv_at hl 5 rfl) ?_
    refine lv_iconst (v := 1) hx hb dL_law_423 (by decide) ?_
    refine lv_iadd hx hb dL_law_424 ?_
    refine va_sld hx hb hX hbl (Nat.not_le.mpr hbl) w.2 (i := ((nI ii) + 1)) (by rw [show nI ii + 1 = nI (ii + 1) from nI_add ii 1]; exact nI_vp (by omega) (by omega)) dL_law_425 ?_
    refine lv_topi (fun z3 ez3 => ?_)
    obtain rfl : z1 = z3 := ez1.trans ez3.symm
    refine cV (S := (sL S9 176 (Int32.toInt64 (nI cn.2.2.1)))) (nA := 1) (As := [.int z1]) (rest := []) X w hl hR9.v16 (k_X16_monitor G (sL S9 176 (Int32.toInt64 (nI cn.2.2.1))) hR9 z1) wY_X16_monitor wM_L_151 wIn_X16_monitor wSe_X16_X16_monitor wI_X16 (by decide) rfl (by decide +kernel) rfl rfl dL_law_426 ⟨Nat.le_of_ble_eq_true rfl, Nat.le_of_ble_eq_true rfl⟩ (Nat.le_of_ble_eq_true rfl) (⟨by have := hgC.2; show cLw k gC gC + 5 ≤ 601024; unfold cLw; omega, by have := hgC.2; show sLw k gC gC + 111 ≤ 7293034; unfold sLw; omega⟩) (fun v U2 H locs hp w => ?_)
    rcases hp with ⟨hkR, -⟩ | ⟨hkR, rfl, hX8, hB8, e256⟩
    · exact absurd hkC hkR
    · obtain ⟨hLI, eL9⟩ := hLI.told (gN := gC) hC9 hB9 hX8 hB8 hgC
      rw [eX9, eM9, eO9] at hl
      obtain ⟨hC, hR, hE, hO, hZs, hgC, eX, eM, eO⟩ := id hLI
      rw [← eX, ← eM, ← eO] at hl
      refine lv_istore (lv' := [(6, .int (nI cn.2.2.1)), (5, .int 0), (0, .ref b), (1, .ref (gG U2 10 0)), (2, .ref (gG U2 16 0)), (3, .ref (gG U2 11 0)), (4, .int (nI ii))]) hx hb dL_law_429 hl (by decide) rfl (fun ls hl => ?_)
      refine lv_goto (tgt := 1585) hx hb dL_law_431 (by decide) ?_
      refine W.widen (k := cLw (k + 1) gC gC) (n := sLw (k + 1) gC gC) (by show cLw k gC gC + 5 ≤ _; unfold cLw; omega) (by show sLw k gC gC + 111 ≤ _; unfold sLw; omega) ?_
      rw [eX, eM, eO] at hl
      exact K _ _ _ H locs _ hLI w (lv_sub hl [2, 3, 4, 5, 6] rfl)

theorem dL_law_434 : decode cL_law 434 = .ok (.aload_n 1, 1) := by decide +kernel
theorem dL_law_435 : decode cL_law 435 = .ok (.aload_n 0, 1) := by decide +kernel
theorem dL_law_436 : decode cL_law 436 = .ok (.iload 4, 2) := by decide +kernel
theorem dL_law_438 : decode cL_law 438 = .ok (.iconst 1, 1) := by decide +kernel
theorem dL_law_439 : decode cL_law 439 = .ok (.iadd, 1) := by decide +kernel
theorem dL_law_440 : decode cL_law 440 = .ok (.iaload, 1) := by decide +kernel
theorem dL_law_441 : decode cL_law 441 = .ok (.aload_n 0, 1) := by decide +kernel
theorem dL_law_442 : decode cL_law 442 = .ok (.iload 4, 2) := by decide +kernel
theorem dL_law_444 : decode cL_law 444 = .ok (.iconst 2, 1) := by decide +kernel
theorem dL_law_445 : decode cL_law 445 = .ok (.iadd, 1) := by decide +kernel
theorem dL_law_446 : decode cL_law 446 = .ok (.iaload, 1) := by decide +kernel
theorem dL_law_447 : decode cL_law 447 = .ok (.aload_n 0, 1) := by decide +kernel
theorem dL_law_448 : decode cL_law 448 = .ok (.iload 4, 2) := by decide +kernel
theorem dL_law_450 : decode cL_law 450 = .ok (.iconst 3, 1) := by decide +kernel
theorem dL_law_451 : decode cL_law 451 = .ok (.iadd, 1) := by decide +kernel
theorem dL_law_452 : decode cL_law 452 = .ok (.iaload, 1) := by decide +kernel
theorem dL_law_453 : decode cL_law 453 = .ok (.aload_n 0, 1) := by decide +kernel
theorem dL_law_454 : decode cL_law 454 = .ok (.iload 4, 2) := by decide +kernel
theorem dL_law_456 : decode cL_law 456 = .ok (.iconst 4, 1) := by decide +kernel
theorem dL_law_457 : decode cL_law 457 = .ok (.iadd, 1) := by decide +kernel
theorem dL_law_458 : decode cL_law 458 = .ok (.iaload, 1) := by decide +kernel
theorem dL_law_459 : decode cL_law 459 = .ok (.aload_n 3, 1) := by decide +kernel
theorem dL_law_460 : decode cL_law 460 = .ok (.invokestatic 152, 3) := by decide +kernel
theorem dL_law_463 : decode cL_law 463 = .ok (.istore 5, 2) := by decide +kernel
theorem dL_law_465 : decode cL_law 465 = .ok (.aload_n 2, 1) := by decide +kernel
theorem dL_law_466 : decode cL_law 466 = .ok (.aload_n 0, 1) := by decide +kernel
theorem dL_law_467 : decode cL_law 467 = .ok (.iload 4, 2) := by decide +kernel
theorem dL_law_469 : decode cL_law 469 = .ok (.iconst 1, 1) := by decide +kernel
theorem dL_law_470 : decode cL_law 470 = .ok (.iadd, 1) := by decide +kernel
theorem dL_law_471 : decode cL_law 471 = .ok (.iaload, 1) := by decide +kernel
theorem dL_law_472 : decode cL_law 472 = .ok (.aload_n 0, 1) := by decide +kernel
theorem dL_law_473 : decode cL_law 473 = .ok (.iload 4, 2) := by decide +kernel
theorem dL_law_475 : decode cL_law 475 = .ok (.iconst 2, 1) := by decide +kernel
theorem dL_law_476 : decode cL_law 476 = .ok (.iadd, 1) := by decide +kernel
theorem dL_law_477 : decode cL_law 477 = .ok (.iaload, 1) := by decide +kernel
theorem dL_law_478 : decode cL_law 478 = .ok (.aload_n 0, 1) := by decide +kernel
theorem dL_law_479 : decode cL_law 479 = .ok (.iload 4, 2) := by decide +kernel
theorem dL_law_481 : decode cL_law 481 = .ok (.iconst 3, 1) := by decide +kernel
theorem dL_law_482 : decode cL_law 482 = .ok (.iadd, 1) := by decide +kernel
theorem dL_law_483 : decode cL_law 483 = .ok (.iaload, 1) := by decide +kernel
theorem dL_law_484 : decode cL_law 484 = .ok (.aload_n 0, 1) := by decide +kernel
theorem dL_law_485 : decode cL_law 485 = .ok (.iload 4, 2) := by decide +kernel
theorem dL_law_487 : decode cL_law 487 = .ok (.iconst 4, 1) := by decide +kernel
theorem dL_law_488 : decode cL_law 488 = .ok (.iadd, 1) := by decide +kernel
theorem dL_law_489 : decode cL_law 489 = .ok (.iaload, 1) := by decide +kernel
theorem dL_law_490 : decode cL_law 490 = .ok (.invokevirtual 155, 3) := by decide +kernel
theorem dL_law_493 : decode cL_law 493 = .ok (.istore 6, 2) := by decide +kernel
theorem dL_law_495 : decode cL_law 495 = .ok (.goto 1090, 3) := by decide +kernel
set_option maxHeartbeats 4000000 in
set_option maxRecDepth 100000 in
theorem lo_5 {s : State} {l : Launch} {D : va_G} {cy : Nat → ClassId} (G : Gl s l D cy) {p : Program} {e : Env} {m : MethodId} {below : List Frame} {meth : Method} {c : Code} {ret9 : Option FieldType} {b L : Nat} {xs : Nat → Int32} (X : Cx s l D cy p s m #[Value.ref b] meth c cL_law 8 "CavershamShiftLaw" ret9) (hX : va_X b L xs s s.heap) (hbl : b < s.heap.size) {S : HS} {H : Heap} {locs : List Loc} {ls : Array Slot} {ii k gC : Nat} {cn : Cn} {ax am ao : Nat} {Q : State → Prop} (w : Wd s D cy S s.heap H locs) (hl : lv_has ls 8 [(0, .ref b), (1, .ref ax), (2, .ref am), (3, .ref ao), (4, .int (nI ii))]) (hLI : LI s S gC cn ax am ao) (hi : ii + 7 ≤ L) (hL9 : L ≤ 3584) (hk : k ≤ 511) (K : ∀ (U : HS) (gC1 : Nat) (cn1 : Cn) (H : Heap) (locs : List Loc) (ls : Array Slot), LI s U gC1 cn1 ax am ao → Wd s D cy U s.heap H locs → lv_has ls 8 [(0, .ref b), (1, .ref ax), (2, .ref am), (3, .ref ao), (4, .int (nI ii))] → W p l e room_1 s m #[Value.ref b] below meth c H locs (cLw (k + 1) gC1 gC1) (sLw (k + 1) gC1 gC1) Q (F0 m 1585 ls [])) : W p l e room_1 s m #[Value.ref b] below meth c H locs (cLw k gC gC) (sLw k gC gC) Q (F0 m 434 ls []) := by
  have hx := X.1
  have hb := X.2.1
  have hown := X.2.2.2.1
  have hts := X.2.2.2.2.1
  obtain ⟨hC, hR, hE, hO, hZs, hgC, eX, eM, eO⟩ := id hLI
  rw [← eX, ← eM, ← eO] at hl
  refine lv_aload_n hx hb dL_law_434 rfl (lv_at hl 1 rfl) ?_
  refine lv_aload_n hx hb dL_law_435 rfl (lv_at hl 0 rfl) ?_
  refine lv_iload hx hb dL_law_436 (lv_at hl 4 rfl) ?_
  refine lv_iconst (v := 1) hx hb dL_law_438 (by decide) ?_
  refine lv_iadd hx hb dL_law_439 ?_
  refine va_sld hx hb hX hbl (Nat.not_le.mpr hbl) w.2 (i := ((nI ii) + 1)) (by rw [show nI ii + 1 = nI (ii + 1) from nI_add ii 1]; exact nI_vp (by omega) (by omega)) dL_law_440 ?_
  refine lv_topi (fun z1 ez1 => ?_)
  refine lv_aload_n hx hb dL_law_441 rfl (lv_at hl 0 rfl) ?_
  refine lv_iload hx hb dL_law_442 (lv_at hl 4 rfl) ?_
  refine lv_iconst (v := 2) hx hb dL_law_444 (by decide) ?_
  refine lv_iadd hx hb dL_law_445 ?_
  refine va_sld hx hb hX hbl (Nat.not_le.mpr hbl) w.2 (i := ((nI ii) + 2)) (by rw [show nI ii + 2 = nI (ii + 2) from nI_add ii 2]; exact nI_vp (by omega) (by omega)) dL_law_446 ?_
  refine lv_topi (fun z2 ez2 => ?_)
  refine lv_aload_n hx hb dL_law_447 rfl (lv_at hl 0 rfl) ?_
  refine lv_iload hx hb dL_law_448 (lv_at hl 4 rfl) ?_
  refine lv_iconst (v := 3) hx hb dL_law_450 (by decide) ?_
  refine lv_iadd hx hb dL_law_451 ?_
  refine va_sld hx hb hX hbl (Nat.not_le.mpr hbl) w.2 (i := ((nI ii) + 3)) (by rw [show nI ii + 3 = nI (ii + 3) from nI_add ii 3]; exact nI_vp (by omega) (by omega)) dL_law_452 ?_
  refine lv_topi (fun z3 ez3 => ?_)
  refine lv_aload_n hx hb dL_law_453 rfl (lv_at hl 0 rfl) ?_
  refine lv_iload hx hb dL_law_454 (lv_at hl 4 rfl) ?_
  refine lv_iconst (v := 4) hx hb dL_law_456 (by decide) ?_
  refine lv_iadd hx hb dL_law_457 ?_
  refine va_sld hx hb hX hbl (Nat.not_le.mpr hbl) w.2 (i := ((nI ii) + 4)) (by rw [show nI ii + 4 = nI (ii + 4) from nI_add ii 4]; exact nI_vp (by omega) (by omega)) dL_law_458 ?_
  refine lv_topi (fun z4 ez4 => ?_)
  refine lv_aload_n hx hb dL_law_459 rfl (lv_at hl 3 rfl) ?_
  refine cSW (S := S) (nA := 6) (As := [.ref (gG S 10 0), .int z1, .int z2, .int z3, .int z4, .ref (gG S 11 0)]) (rest := []) X w hl ((w_L_shift G S hC hO hC.v10 z1 z2 z3 z4).post (post' := fun v S9 => (¬ shK cn.1 cn.2.2.1 z1 z2 z3 z4 (rElse cn.2.2.2.2.2.2 z1 z2 z4) = 0 ∧ (∃ k9 : Int32, some (.int k9) = v) ∧ S = S9) ∨ (shK cn.1 cn.2.2.1 z1 z2 z3 z4 (rElse cn.2.2.2.2.2.2 z1 z2 z4) = 0 ∧ some (.int 0) = v ∧ ∃ S1 : HS, CX (eaOf s) S1 (cn.1, cn.2.1, cn.2.2.1, cn.2.2.2.1, cn.2.2.2.2.1, cn.2.2.2.2.2.1, shA cn.2.2.2.2.2.2 z1.toNatClampNeg z2.toNatClampNeg z3 z4) ∧ KeepB S S1 ∧ S9 = (sL S1 176 (Int32.toInt64 (mA cn.2.2.2.2.2.2 36 z1.toNatClampNeg z2.toNatClampNeg))))) (fun v S9 h9 => by rcases h9 with ⟨e9, rfl, rfl⟩ | ⟨e9, rfl, rfl⟩ | ⟨e9, rfl, rfl⟩ | h9 <;> first | exact Or.inr h9 | exact Or.inl ⟨by rw [e9]; decide, ⟨_, rfl⟩, rfl⟩)) wYW_L_shift wM_L_152 wSt_L_shift wI_L (by decide +kernel) rfl rfl dL_law_460 ⟨Nat.le_of_ble_eq_true rfl, Nat.le_of_ble_eq_true rfl⟩ (Nat.le_of_ble_eq_true rfl) (⟨by have := hgC.2; show cLw k gC gC + 1 ≤ 601024; unfold cLw; omega, by have := hgC.2; show sLw k gC gC + 6 ≤ 7293034; unfold sLw; omega⟩) (fun v U1 H locs hp w => ?_)
  rcases hp with ⟨hkC, ⟨k9, rfl⟩, rfl⟩ | ⟨hkC, rfl, S9, hC9, hB9, rfl⟩
  · refine lv_istore (lv' := [(5, .int k9), (0, .ref b), (1, .ref (gG S 10 0)), (2, .ref (gG S 16 0)), (3, .ref (gG S 11 0)), (4, .int (nI ii))]) hx hb dL_law_463 hl (by decide) rfl (fun ls hl => ?_)
    refine lv_aload_n hx hb dL_law_465 rfl (lv_at hl 3 rfl) ?_
    refine lv_aload_n hx hb dL_law_466 rfl (lv_at hl 1 rfl) ?_
    refine lv_iload hx hb dL_law_467 (lv_at hl 5 rfl) ?_
    refine lv_iconst (v := 1) hx hb dL_law_469 (by decide) ?_
    refine lv_iadd hx hb dL_law_470 ?_
    refine va_sld hx hb hX hbl (Nat.not_le.mpr hbl) w.2 (i := ((nI ii) + 1)) (by rw [show nI ii + 1 = nI (ii + 1) from nI_add ii 1]; exact nI_vp (by omega) (by omega)) dL_law_471 ?_
    refine lv_topi (fun z5 ez5 => ?_)
    refine lv_aload_n hx hb dL_law_472 rfl (lv_at hl 1 rfl) ?_
    refine lv_iload hx hb dL_law_473 (lv_at hl 5 rfl) ?_
    refine lv_iconst (v := 2) hx hb dL_law_475 (by decide) ?_
    refine lv_iadd hx hb dL_law_476 ?_
    refine va_sld hx hb hX hbl (Nat.not_le.mpr hbl) w.2 (i := ((nI ii) + 2)) (by rw [show nI ii + 2 = nI (ii + 2) from nI_add ii 2]; exact nI_vp (by omega) (by omega)) dL_law_477 ?_
    refine lv_topi (fun z6 ez6 => ?_)
    refine lv_aload_n hx hb dL_law_478 rfl (lv_at hl 1 rfl) ?_
    refine lv_iload hx hb dL_law_479 (lv_at hl 5 rfl) ?_
    refine lv_iconst (v := 3) hx hb dL_law_481 (by decide) ?_
    refine lv_iadd hx hb dL_law_482 ?_
    refine va_sld hx hb hX hbl (Nat.not_le.mpr hbl) w.2 (i := ((nI ii) + 3)) (by rw [show nI ii + 3 = nI (ii + 3) from nI_add ii 3]; exact nI_vp (by omega) (by omega)) dL_law_483 ?_
    refine lv_topi (fun z7 ez7 => ?_)
    refine lv_aload_n hx hb dL_law_484 rfl (lv_at hl 1 rfl) ?_
    refine lv_iload hx hb dL_law_485 (lv_at hl 5 rfl) ?_
    refine lv_iconst (v := 4) hx hb dL_law_487 (by decide) ?_
    refine lv_iadd hx hb dL_law_488 ?_
    refine va_sld hx hb hX hbl (Nat.not_le.mpr hbl) w.2 (i := ((nI ii) + 4)) (by rw [show nI ii + 4 = nI (ii + 4) from nI_add ii 4]; exact nI_vp (by omega) (by omega)) dL_law_489 ?_
    refine lv_topi (fun z8 ez8 => ?_)
    obtain rfl : z1 = z5 := ez1.trans ez5.symm
    obtain rfl : z2 = z6 := ez2.trans ez6.symm
    obtain rfl : z3 = z7 := ez3.trans ez7.symm
    obtain rfl : z4 = z8 := ez4.trans ez8.symm
    refine cV (S := S) (nA := 4) (As := [.int z1, .int z2, .int z3, .int z4]) (rest := []) X w hl hR.v16 (k_X16_shift G S hR z1 z2 z3 z4) wY_X16_shift wM_L_155 wIn_X16_shift wSe_X16_X16_shift wI_X16 (by decide) rfl (by decide +kernel) rfl rfl dL_law_490 ⟨Nat.le_of_ble_eq_true rfl, Nat.le_of_ble_eq_true rfl⟩ (Nat.le_of_ble_eq_true rfl) (⟨by have := hgC.2; show cLw k gC gC + 1 ≤ 601024; unfold cLw; omega, by have := hgC.2; show sLw k gC gC + 6 ≤ 7293034; unfold sLw; omega⟩) (fun v U2 H locs hp w => ?_)
    rcases hp with ⟨hkR, ⟨y9, rfl⟩, hX9, hk9, e256⟩ | ⟨hkR, -⟩
    · have hs : StpL s cn S U2 := StpL.ofR hX9 hk9
      rw [eX, eM, eO] at hl
      have hLI := hs _ _ _ _ hLI
      obtain ⟨hC, hR, hE, hO, hZs, hgC, eX, eM, eO⟩ := id hLI
      rw [← eX, ← eM, ← eO] at hl
      refine lv_istore (lv' := [(6, .int y9), (5, .int k9), (0, .ref b), (1, .ref (gG U2 10 0)), (2, .ref (gG U2 16 0)), (3, .ref (gG U2 11 0)), (4, .int (nI ii))]) hx hb dL_law_493 hl (by decide) rfl (fun ls hl => ?_)
      refine lv_goto (tgt := 1585) hx hb dL_law_495 (by decide) ?_
      refine W.widen (k := cLw (k + 1) gC gC) (n := sLw (k + 1) gC gC) (by show cLw k gC gC + 1 ≤ _; unfold cLw; omega) (by show sLw k gC gC + 6 ≤ _; unfold sLw; omega) ?_
      rw [eX, eM, eO] at hl
      exact K _ _ _ H locs _ hLI w (lv_sub hl [2, 3, 4, 5, 6] rfl)
    · exact absurd hkR hkC
  · obtain ⟨hR9, eX9, eM9, eO9⟩ := hLI.mid (Int32.toInt64 (mA cn.2.2.2.2.2.2 36 z1.toNatClampNeg z2.toNatClampNeg)) hB9
    rw [eX, eM, eO] at hl
    rw [← eX9, ← eM9, ← eO9] at hl
    refine lv_istore (lv' := [(5, .int 0), (0, .ref b), (1, .ref (gG (sL S9 176 (Int32.toInt64 (mA cn.2.2.2.2.2.2 36 z1.toNatClampNeg z2.toNatClampNeg))) 10 0)), (2, .ref (gG (sL S9 176 (Int32.toInt64 (mA cn.2.2.2.2.2.2 36 z1.toNatClampNeg z2.toNatClampNeg))) 16 0)), (3, .ref (gG (sL S9 176 (Int32.toInt64 (mA cn.2.2.2.2.2.2 36 z1.toNatClampNeg z2.toNatClampNeg))) 11 0)), (4, .int (nI ii))]) hx hb dL_law_463 hl (by decide) rfl (fun ls hl => ?_)
    refine lv_aload_n hx hb dL_law_465 rfl (lv_at hl 3 rfl) ?_
    refine lv_aload_n hx hb dL_law_466 rfl (lv_at hl 1 rfl) ?_
    refine lv_iload hx hb dL_law_467 (lv_at hl 5 rfl) ?_
    refine lv_iconst (v := 1) hx hb dL_law_469 (by decide) ?_
    refine lv_iadd hx hb dL_law_470 ?_
    refine va_sld hx hb hX hbl (Nat.not_le.mpr hbl) w.2 (i := ((nI ii) + 1)) (by rw [show nI ii + 1 = nI (ii + 1) from nI_add ii 1]; exact nI_vp (by omega) (by omega)) dL_law_471 ?_
    refine lv_topi (fun z9 ez9 => ?_)
    refine lv_aload_n hx hb dL_law_472 rfl (lv_at hl 1 rfl) ?_
    refine lv_iload hx hb dL_law_473 (lv_at hl 5 rfl) ?_
    refine lv_iconst (v := 2) hx hb dL_law_475 (by decide) ?_
    refine lv_iadd hx hb dL_law_476 ?_
    refine va_sld hx hb hX hbl (Nat.not_le.mpr hbl) w.2 (i := ((nI ii) + 2)) (by rw [show nI ii + 2 = nI (ii + 2) from nI_add ii 2]; exact nI_vp (by omega) (by omega)) dL_law_477 ?_
    refine lv_topi (fun z10 ez10 => ?_)
    refine lv_aload_n hx hb dL_law_478 rfl (lv_at hl 1 rfl) ?_
    refine lv_iload hx hb dL_law_479 (lv_at hl 5 rfl) ?_
    refine lv_iconst (v := 3) hx hb dL_law_481 (by decide) ?_
    refine lv_iadd hx hb dL_law_482 ?_
    refine va_sld hx hb hX hbl (Nat.not_le.mpr hbl) w.2 (i := ((nI ii) + 3)) (by rw [show nI ii + 3 = nI (ii + 3) from nI_add ii 3]; exact nI_vp (by omega) (by omega)) dL_law_483 ?_
    refine lv_topi (fun z11 ez11 => ?_)
    refine lv_aload_n hx hb dL_law_484 rfl (lv_at hl 1 rfl) ?_
    refine lv_iload hx hb dL_law_485 (lv_at hl 5 rfl) ?_
    refine lv_iconst (v := 4) hx hb dL_law_487 (by decide) ?_
    refine lv_iadd hx hb dL_law_488 ?_
    refine va_sld hx hb hX hbl (Nat.not_le.mpr hbl) w.2 (i := ((nI ii) + 4)) (by rw [show nI ii + 4 = nI (ii + 4) from nI_add ii 4]; exact nI_vp (by omega) (by omega)) dL_law_489 ?_
    refine lv_topi (fun z12 ez12 => ?_)
    obtain rfl : z1 = z9 := ez1.trans ez9.symm
    obtain rfl : z2 = z10 := ez2.trans ez10.symm
    obtain rfl : z3 = z11 := ez3.trans ez11.symm
    obtain rfl : z4 = z12 := ez4.trans ez12.symm
    refine cV (S := (sL S9 176 (Int32.toInt64 (mA cn.2.2.2.2.2.2 36 z1.toNatClampNeg z2.toNatClampNeg)))) (nA := 4) (As := [.int z1, .int z2, .int z3, .int z4]) (rest := []) X w hl hR9.v16 (k_X16_shift G (sL S9 176 (Int32.toInt64 (mA cn.2.2.2.2.2.2 36 z1.toNatClampNeg z2.toNatClampNeg))) hR9 z1 z2 z3 z4) wY_X16_shift wM_L_155 wIn_X16_shift wSe_X16_X16_shift wI_X16 (by decide) rfl (by decide +kernel) rfl rfl dL_law_490 ⟨Nat.le_of_ble_eq_true rfl, Nat.le_of_ble_eq_true rfl⟩ (Nat.le_of_ble_eq_true rfl) (⟨by have := hgC.2; show cLw k gC gC + 1 ≤ 601024; unfold cLw; omega, by have := hgC.2; show sLw k gC gC + 6 ≤ 7293034; unfold sLw; omega⟩) (fun v U2 H locs hp w => ?_)
    rcases hp with ⟨hkR, -⟩ | ⟨hkR, rfl, hX8, hB8, e256⟩
    · exact absurd hkC hkR
    · obtain ⟨hLI, eL9⟩ := hLI.told (gN := gC) hC9 hB9 hX8 hB8 hgC
      rw [eX9, eM9, eO9] at hl
      obtain ⟨hC, hR, hE, hO, hZs, hgC, eX, eM, eO⟩ := id hLI
      rw [← eX, ← eM, ← eO] at hl
      refine lv_istore (lv' := [(6, .int (mA cn.2.2.2.2.2.2 36 z1.toNatClampNeg z2.toNatClampNeg)), (5, .int 0), (0, .ref b), (1, .ref (gG U2 10 0)), (2, .ref (gG U2 16 0)), (3, .ref (gG U2 11 0)), (4, .int (nI ii))]) hx hb dL_law_493 hl (by decide) rfl (fun ls hl => ?_)
      refine lv_goto (tgt := 1585) hx hb dL_law_495 (by decide) ?_
      refine W.widen (k := cLw (k + 1) gC gC) (n := sLw (k + 1) gC gC) (by show cLw k gC gC + 1 ≤ _; unfold cLw; omega) (by show sLw k gC gC + 6 ≤ _; unfold sLw; omega) ?_
      rw [eX, eM, eO] at hl
      exact K _ _ _ H locs _ hLI w (lv_sub hl [2, 3, 4, 5, 6] rfl)

theorem dL_law_498 : decode cL_law 498 = .ok (.aload_n 1, 1) := by decide +kernel
theorem dL_law_499 : decode cL_law 499 = .ok (.aload_n 0, 1) := by decide +kernel
theorem dL_law_500 : decode cL_law 500 = .ok (.iload 4, 2) := by decide +kernel
theorem dL_law_502 : decode cL_law 502 = .ok (.iconst 1, 1) := by decide +kernel
theorem dL_law_503 : decode cL_law 503 = .ok (.iadd, 1) := by decide +kernel
theorem dL_law_504 : decode cL_law 504 = .ok (.iaload, 1) := by decide +kernel
theorem dL_law_505 : decode cL_law 505 = .ok (.aload_n 0, 1) := by decide +kernel
theorem dL_law_506 : decode cL_law 506 = .ok (.iload 4, 2) := by decide +kernel
theorem dL_law_508 : decode cL_law 508 = .ok (.iconst 2, 1) := by decide +kernel
theorem dL_law_509 : decode cL_law 509 = .ok (.iadd, 1) := by decide +kernel
theorem dL_law_510 : decode cL_law 510 = .ok (.iaload, 1) := by decide +kernel
theorem dL_law_511 : decode cL_law 511 = .ok (.aload_n 0, 1) := by decide +kernel
theorem dL_law_512 : decode cL_law 512 = .ok (.iload 4, 2) := by decide +kernel
theorem dL_law_514 : decode cL_law 514 = .ok (.iconst 3, 1) := by decide +kernel
theorem dL_law_515 : decode cL_law 515 = .ok (.iadd, 1) := by decide +kernel
theorem dL_law_516 : decode cL_law 516 = .ok (.iaload, 1) := by decide +kernel
theorem dL_law_517 : decode cL_law 517 = .ok (.aload_n 0, 1) := by decide +kernel
theorem dL_law_518 : decode cL_law 518 = .ok (.iload 4, 2) := by decide +kernel
theorem dL_law_520 : decode cL_law 520 = .ok (.iconst 4, 1) := by decide +kernel
theorem dL_law_521 : decode cL_law 521 = .ok (.iadd, 1) := by decide +kernel
theorem dL_law_522 : decode cL_law 522 = .ok (.iaload, 1) := by decide +kernel
theorem dL_law_523 : decode cL_law 523 = .ok (.aload_n 0, 1) := by decide +kernel
theorem dL_law_524 : decode cL_law 524 = .ok (.iload 4, 2) := by decide +kernel
theorem dL_law_526 : decode cL_law 526 = .ok (.iconst 5, 1) := by decide +kernel
theorem dL_law_527 : decode cL_law 527 = .ok (.iadd, 1) := by decide +kernel
theorem dL_law_528 : decode cL_law 528 = .ok (.iaload, 1) := by decide +kernel
theorem dL_law_529 : decode cL_law 529 = .ok (.aload_n 0, 1) := by decide +kernel
theorem dL_law_530 : decode cL_law 530 = .ok (.iload 4, 2) := by decide +kernel
theorem dL_law_532 : decode cL_law 532 = .ok (.bipush 6, 2) := by decide +kernel
theorem dL_law_534 : decode cL_law 534 = .ok (.iadd, 1) := by decide +kernel
theorem dL_law_535 : decode cL_law 535 = .ok (.iaload, 1) := by decide +kernel
theorem dL_law_536 : decode cL_law 536 = .ok (.aload_n 3, 1) := by decide +kernel
theorem dL_law_537 : decode cL_law 537 = .ok (.invokestatic 156, 3) := by decide +kernel
theorem dL_law_540 : decode cL_law 540 = .ok (.istore 5, 2) := by decide +kernel
theorem dL_law_542 : decode cL_law 542 = .ok (.aload_n 2, 1) := by decide +kernel
theorem dL_law_543 : decode cL_law 543 = .ok (.aload_n 0, 1) := by decide +kernel
theorem dL_law_544 : decode cL_law 544 = .ok (.iload 4, 2) := by decide +kernel
theorem dL_law_546 : decode cL_law 546 = .ok (.iconst 1, 1) := by decide +kernel
theorem dL_law_547 : decode cL_law 547 = .ok (.iadd, 1) := by decide +kernel
theorem dL_law_548 : decode cL_law 548 = .ok (.iaload, 1) := by decide +kernel
theorem dL_law_549 : decode cL_law 549 = .ok (.aload_n 0, 1) := by decide +kernel
theorem dL_law_550 : decode cL_law 550 = .ok (.iload 4, 2) := by decide +kernel
theorem dL_law_552 : decode cL_law 552 = .ok (.iconst 2, 1) := by decide +kernel
theorem dL_law_553 : decode cL_law 553 = .ok (.iadd, 1) := by decide +kernel
theorem dL_law_554 : decode cL_law 554 = .ok (.iaload, 1) := by decide +kernel
theorem dL_law_555 : decode cL_law 555 = .ok (.aload_n 0, 1) := by decide +kernel
theorem dL_law_556 : decode cL_law 556 = .ok (.iload 4, 2) := by decide +kernel
theorem dL_law_558 : decode cL_law 558 = .ok (.iconst 3, 1) := by decide +kernel
theorem dL_law_559 : decode cL_law 559 = .ok (.iadd, 1) := by decide +kernel
theorem dL_law_560 : decode cL_law 560 = .ok (.iaload, 1) := by decide +kernel
theorem dL_law_561 : decode cL_law 561 = .ok (.aload_n 0, 1) := by decide +kernel
theorem dL_law_562 : decode cL_law 562 = .ok (.iload 4, 2) := by decide +kernel
theorem dL_law_564 : decode cL_law 564 = .ok (.iconst 4, 1) := by decide +kernel
theorem dL_law_565 : decode cL_law 565 = .ok (.iadd, 1) := by decide +kernel
theorem dL_law_566 : decode cL_law 566 = .ok (.iaload, 1) := by decide +kernel
theorem dL_law_567 : decode cL_law 567 = .ok (.aload_n 0, 1) := by decide +kernel
theorem dL_law_568 : decode cL_law 568 = .ok (.iload 4, 2) := by decide +kernel
theorem dL_law_570 : decode cL_law 570 = .ok (.iconst 5, 1) := by decide +kernel
theorem dL_law_571 : decode cL_law 571 = .ok (.iadd, 1) := by decide +kernel
theorem dL_law_572 : decode cL_law 572 = .ok (.iaload, 1) := by decide +kernel
theorem dL_law_573 : decode cL_law 573 = .ok (.aload_n 0, 1) := by decide +kernel
theorem dL_law_574 : decode cL_law 574 = .ok (.iload 4, 2) := by decide +kernel
theorem dL_law_576 : decode cL_law 576 = .ok (.bipush 6, 2) := by decide +kernel
theorem dL_law_578 : decode cL_law 578 = .ok (.iadd, 1) := by decide +kernel
theorem dL_law_579 : decode cL_law 579 = .ok (.iaload, 1) := by decide +kernel
theorem dL_law_580 : decode cL_law 580 = .ok (.invokevirtual 158, 3) := by decide +kernel
theorem dL_law_583 : decode cL_law 583 = .ok (.istore 6, 2) := by decide +kernel
theorem dL_law_585 : decode cL_law 585 = .ok (.goto 1000, 3) := by decide +kernel
set_option maxHeartbeats 4000000 in
set_option maxRecDepth 100000 in
theorem lo_6 {s : State} {l : Launch} {D : va_G} {cy : Nat → ClassId} (G : Gl s l D cy) {p : Program} {e : Env} {m : MethodId} {below : List Frame} {meth : Method} {c : Code} {ret9 : Option FieldType} {b L : Nat} {xs : Nat → Int32} (X : Cx s l D cy p s m #[Value.ref b] meth c cL_law 8 "CavershamShiftLaw" ret9) (hX : va_X b L xs s s.heap) (hbl : b < s.heap.size) {S : HS} {H : Heap} {locs : List Loc} {ls : Array Slot} {ii k gC : Nat} {cn : Cn} {ax am ao : Nat} {Q : State → Prop} (w : Wd s D cy S s.heap H locs) (hl : lv_has ls 8 [(0, .ref b), (1, .ref ax), (2, .ref am), (3, .ref ao), (4, .int (nI ii))]) (hLI : LI s S gC cn ax am ao) (hi : ii + 7 ≤ L) (hL9 : L ≤ 3584) (hk : k ≤ 511) (K : ∀ (U : HS) (gC1 : Nat) (cn1 : Cn) (H : Heap) (locs : List Loc) (ls : Array Slot), LI s U gC1 cn1 ax am ao → Wd s D cy U s.heap H locs → lv_has ls 8 [(0, .ref b), (1, .ref ax), (2, .ref am), (3, .ref ao), (4, .int (nI ii))] → W p l e room_1 s m #[Value.ref b] below meth c H locs (cLw (k + 1) gC1 gC1) (sLw (k + 1) gC1 gC1) Q (F0 m 1585 ls [])) : W p l e room_1 s m #[Value.ref b] below meth c H locs (cLw k gC gC) (sLw k gC gC) Q (F0 m 498 ls []) := by
  have hx := X.1
  have hb := X.2.1
  have hown := X.2.2.2.1
  have hts := X.2.2.2.2.1
  obtain ⟨hC, hR, hE, hO, hZs, hgC, eX, eM, eO⟩ := id hLI
  rw [← eX, ← eM, ← eO] at hl
  refine lv_aload_n hx hb dL_law_498 rfl (lv_at hl 1 rfl) ?_
  refine lv_aload_n hx hb dL_law_499 rfl (lv_at hl 0 rfl) ?_
  refine lv_iload hx hb dL_law_500 (lv_at hl 4 rfl) ?_
  refine lv_iconst (v := 1) hx hb dL_law_502 (by decide) ?_
  refine lv_iadd hx hb dL_law_503 ?_
  refine va_sld hx hb hX hbl (Nat.not_le.mpr hbl) w.2 (i := ((nI ii) + 1)) (by rw [show nI ii + 1 = nI (ii + 1) from nI_add ii 1]; exact nI_vp (by omega) (by omega)) dL_law_504 ?_
  refine lv_topi (fun z1 ez1 => ?_)
  refine lv_aload_n hx hb dL_law_505 rfl (lv_at hl 0 rfl) ?_
  refine lv_iload hx hb dL_law_506 (lv_at hl 4 rfl) ?_
  refine lv_iconst (v := 2) hx hb dL_law_508 (by decide) ?_
  refine lv_iadd hx hb dL_law_509 ?_
  refine va_sld hx hb hX hbl (Nat.not_le.mpr hbl) w.2 (i := ((nI ii) + 2)) (by rw [show nI ii + 2 = nI (ii + 2) from nI_add ii 2]; exact nI_vp (by omega) (by omega)) dL_law_510 ?_
  refine lv_topi (fun z2 ez2 => ?_)
  refine lv_aload_n hx hb dL_law_511 rfl (lv_at hl 0 rfl) ?_
  refine lv_iload hx hb dL_law_512 (lv_at hl 4 rfl) ?_
  refine lv_iconst (v := 3) hx hb dL_law_514 (by decide) ?_
  refine lv_iadd hx hb dL_law_515 ?_
  refine va_sld hx hb hX hbl (Nat.not_le.mpr hbl) w.2 (i := ((nI ii) + 3)) (by rw [show nI ii + 3 = nI (ii + 3) from nI_add ii 3]; exact nI_vp (by omega) (by omega)) dL_law_516 ?_
  refine lv_topi (fun z3 ez3 => ?_)
  refine lv_aload_n hx hb dL_law_517 rfl (lv_at hl 0 rfl) ?_
  refine lv_iload hx hb dL_law_518 (lv_at hl 4 rfl) ?_
  refine lv_iconst (v := 4) hx hb dL_law_520 (by decide) ?_
  refine lv_iadd hx hb dL_law_521 ?_
  refine va_sld hx hb hX hbl (Nat.not_le.mpr hbl) w.2 (i := ((nI ii) + 4)) (by rw [show nI ii + 4 = nI (ii + 4) from nI_add ii 4]; exact nI_vp (by omega) (by omega)) dL_law_522 ?_
  refine lv_topi (fun z4 ez4 => ?_)
  refine lv_aload_n hx hb dL_law_523 rfl (lv_at hl 0 rfl) ?_
  refine lv_iload hx hb dL_law_524 (lv_at hl 4 rfl) ?_
  refine lv_iconst (v := 5) hx hb dL_law_526 (by decide) ?_
  refine lv_iadd hx hb dL_law_527 ?_
  refine va_sld hx hb hX hbl (Nat.not_le.mpr hbl) w.2 (i := ((nI ii) + 5)) (by rw [show nI ii + 5 = nI (ii + 5) from nI_add ii 5]; exact nI_vp (by omega) (by omega)) dL_law_528 ?_
  refine lv_topi (fun z5 ez5 => ?_)
  refine lv_aload_n hx hb dL_law_529 rfl (lv_at hl 0 rfl) ?_
  refine lv_iload hx hb dL_law_530 (lv_at hl 4 rfl) ?_
  refine lv_bipush (v := 6) hx hb dL_law_532 (by decide) ?_
  refine lv_iadd hx hb dL_law_534 ?_
  refine va_sld hx hb hX hbl (Nat.not_le.mpr hbl) w.2 (i := ((nI ii) + 6)) (by rw [show nI ii + 6 = nI (ii + 6) from nI_add ii 6]; exact nI_vp (by omega) (by omega)) dL_law_535 ?_
  refine lv_topi (fun z6 ez6 => ?_)
  refine lv_aload_n hx hb dL_law_536 rfl (lv_at hl 3 rfl) ?_
  refine cSW (S := S) (nA := 8) (As := [.ref (gG S 10 0), .int z1, .int z2, .int z3, .int z4, .int z5, .int z6, .ref (gG S 11 0)]) (rest := []) X w hl ((w_L_talk G S hC hO hC.v10 z1 z2 z3 z4 z5 z6).post (post' := fun v S9 => (¬ taK cn.1 cn.2.2.2.2.1 (nI cn.2.2.2.2.2.1) z1 z2 z3 z4 z5 z6 (sIn (mI cn.2.2.2.2.2.2 228 z1.toNatClampNeg) (z2 - z2 / 24 * 24)) (rHas cn.2.2.2.2.2.2 z1 z2 cn.2.2.2.2.1) = 0 ∧ (∃ k9 : Int32, some (.int k9) = v) ∧ S = S9) ∨ (taK cn.1 cn.2.2.2.2.1 (nI cn.2.2.2.2.2.1) z1 z2 z3 z4 z5 z6 (sIn (mI cn.2.2.2.2.2.2 228 z1.toNatClampNeg) (z2 - z2 / 24 * 24)) (rHas cn.2.2.2.2.2.2 z1 z2 cn.2.2.2.2.1) = 0 ∧ some (.int 0) = v ∧ ∃ S1 : HS, CX (eaOf s) S1 (cn.1, cn.2.1, cn.2.2.1, cn.2.2.2.1, cn.2.2.2.2.1 + 1, cn.2.2.2.2.2.1, taC cn.2.2.2.2.2.2 cn.2.2.2.2.1 z1 z2 z3 z4 z5 z6) ∧ KeepB S S1 ∧ S9 = (sL S1 176 (Int32.toInt64 (nI cn.2.2.2.2.1))))) (fun v S9 h9 => by rcases h9 with ⟨e9, rfl, rfl⟩ | ⟨e9, rfl, rfl⟩ | ⟨e9, rfl, rfl⟩ | h9 <;> first | exact Or.inr h9 | exact Or.inl ⟨by rw [e9]; decide, ⟨_, rfl⟩, rfl⟩)) wYW_L_talk wM_L_156 wSt_L_talk wI_L (by decide +kernel) rfl rfl dL_law_537 ⟨Nat.le_of_ble_eq_true rfl, Nat.le_of_ble_eq_true rfl⟩ (Nat.le_of_ble_eq_true rfl) (⟨by have := hgC.2; show cLw k gC gC + 2 ≤ 601024; unfold cLw; omega, by have := hgC.2; show sLw k gC gC + 58 ≤ 7293034; unfold sLw; omega⟩) (fun v U1 H locs hp w => ?_)
  rcases hp with ⟨hkC, ⟨k9, rfl⟩, rfl⟩ | ⟨hkC, rfl, S9, hC9, hB9, rfl⟩
  · refine lv_istore (lv' := [(5, .int k9), (0, .ref b), (1, .ref (gG S 10 0)), (2, .ref (gG S 16 0)), (3, .ref (gG S 11 0)), (4, .int (nI ii))]) hx hb dL_law_540 hl (by decide) rfl (fun ls hl => ?_)
    refine lv_aload_n hx hb dL_law_542 rfl (lv_at hl 3 rfl) ?_
    refine lv_aload_n hx hb dL_law_543 rfl (lv_at hl 1 rfl) ?_
    refine lv_iload hx hb dL_law_544 (lv_at hl 5 rfl) ?_
    refine lv_iconst (v := 1) hx hb dL_law_546 (by decide) ?_
    refine lv_iadd hx hb dL_law_547 ?_
    refine va_sld hx hb hX hbl (Nat.not_le.mpr hbl) w.2 (i := ((nI ii) + 1)) (by rw [show nI ii + 1 = nI (ii + 1) from nI_add ii 1]; exact nI_vp (by omega) (by omega)) dL_law_548 ?_
    refine lv_topi (fun z7 ez7 => ?_)
    refine lv_aload_n hx hb dL_law_549 rfl (lv_at hl 1 rfl) ?_
    refine lv_iload hx hb dL_law_550 (lv_at hl 5 rfl) ?_
    refine lv_iconst (v := 2) hx hb dL_law_552 (by decide) ?_
    refine lv_iadd hx hb dL_law_553 ?_
    refine va_sld hx hb hX hbl (Nat.not_le.mpr hbl) w.2 (i := ((nI ii) + 2)) (by rw [show nI ii + 2 = nI (ii + 2) from nI_add ii 2]; exact nI_vp (by omega) (by omega)) dL_law_554 ?_
    refine lv_topi (fun z8 ez8 => ?_)
    refine lv_aload_n hx hb dL_law_555 rfl (lv_at hl 1 rfl) ?_
    refine lv_iload hx hb dL_law_556 (lv_at hl 5 rfl) ?_
    refine lv_iconst (v := 3) hx hb dL_law_558 (by decide) ?_
    refine lv_iadd hx hb dL_law_559 ?_
    refine va_sld hx hb hX hbl (Nat.not_le.mpr hbl) w.2 (i := ((nI ii) + 3)) (by rw [show nI ii + 3 = nI (ii + 3) from nI_add ii 3]; exact nI_vp (by omega) (by omega)) dL_law_560 ?_
    refine lv_topi (fun z9 ez9 => ?_)
    refine lv_aload_n hx hb dL_law_561 rfl (lv_at hl 1 rfl) ?_
    refine lv_iload hx hb dL_law_562 (lv_at hl 5 rfl) ?_
    refine lv_iconst (v := 4) hx hb dL_law_564 (by decide) ?_
    refine lv_iadd hx hb dL_law_565 ?_
    refine va_sld hx hb hX hbl (Nat.not_le.mpr hbl) w.2 (i := ((nI ii) + 4)) (by rw [show nI ii + 4 = nI (ii + 4) from nI_add ii 4]; exact nI_vp (by omega) (by omega)) dL_law_566 ?_
    refine lv_topi (fun z10 ez10 => ?_)
    refine lv_aload_n hx hb dL_law_567 rfl (lv_at hl 1 rfl) ?_
    refine lv_iload hx hb dL_law_568 (lv_at hl 5 rfl) ?_
    refine lv_iconst (v := 5) hx hb dL_law_570 (by decide) ?_
    refine lv_iadd hx hb dL_law_571 ?_
    refine va_sld hx hb hX hbl (Nat.not_le.mpr hbl) w.2 (i := ((nI ii) + 5)) (by rw [show nI ii + 5 = nI (ii + 5) from nI_add ii 5]; exact nI_vp (by omega) (by omega)) dL_law_572 ?_
    refine lv_topi (fun z11 ez11 => ?_)
    refine lv_aload_n hx hb dL_law_573 rfl (lv_at hl 1 rfl) ?_
    refine lv_iload hx hb dL_law_574 (lv_at hl 5 rfl) ?_
    refine lv_bipush (v := 6) hx hb dL_law_576 (by decide) ?_
    refine lv_iadd hx hb dL_law_578 ?_
    refine va_sld hx hb hX hbl (Nat.not_le.mpr hbl) w.2 (i := ((nI ii) + 6)) (by rw [show nI ii + 6 = nI (ii + 6) from nI_add ii 6]; exact nI_vp (by omega) (by omega)) dL_law_579 ?_
    refine lv_topi (fun z12 ez12 => ?_)
    obtain rfl : z1 = z7 := ez1.trans ez7.symm
    obtain rfl : z2 = z8 := ez2.trans ez8.symm
    obtain rfl : z3 = z9 := ez3.trans ez9.symm
    obtain rfl : z4 = z10 := ez4.trans ez10.symm
    obtain rfl : z5 = z11 := ez5.trans ez11.symm
    obtain rfl : z6 = z12 := ez6.trans ez12.symm
    refine cV (S := S) (nA := 6) (As := [.int z1, .int z2, .int z3, .int z4, .int z5, .int z6]) (rest := []) X w hl hR.v16 (k_X16_talk G S hR z1 z2 z3 z4 z5 z6) wY_X16_talk wM_L_158 wIn_X16_talk wSe_X16_X16_talk wI_X16 (by decide) rfl (by decide +kernel) rfl rfl dL_law_580 ⟨Nat.le_of_ble_eq_true rfl, Nat.le_of_ble_eq_true rfl⟩ (Nat.le_of_ble_eq_true rfl) (⟨by have := hgC.2; show cLw k gC gC + 4 ≤ 601024; unfold cLw; omega, by have := hgC.2; show sLw k gC gC + 121 ≤ 7293034; unfold sLw; omega⟩) (fun v U2 H locs hp w => ?_)
    rcases hp with ⟨hkR, ⟨y9, rfl⟩, hX9, hk9, e256⟩ | ⟨hkR, -⟩
    · have hs : StpL s cn S U2 := StpL.ofR hX9 hk9
      rw [eX, eM, eO] at hl
      have hLI := hs _ _ _ _ hLI
      obtain ⟨hC, hR, hE, hO, hZs, hgC, eX, eM, eO⟩ := id hLI
      rw [← eX, ← eM, ← eO] at hl
      refine lv_istore (lv' := [(6, .int y9), (5, .int k9), (0, .ref b), (1, .ref (gG U2 10 0)), (2, .ref (gG U2 16 0)), (3, .ref (gG U2 11 0)), (4, .int (nI ii))]) hx hb dL_law_583 hl (by decide) rfl (fun ls hl => ?_)
      refine lv_goto (tgt := 1585) hx hb dL_law_585 (by decide) ?_
      refine W.widen (k := cLw (k + 1) gC gC) (n := sLw (k + 1) gC gC) (by show cLw k gC gC + 4 ≤ _; unfold cLw; omega) (by show sLw k gC gC + 121 ≤ _; unfold sLw; omega) ?_
      rw [eX, eM, eO] at hl
      exact K _ _ _ H locs _ hLI w (lv_sub hl [2, 3, 4, 5, 6] rfl)
    · exact absurd hkR hkC
  · obtain ⟨hR9, eX9, eM9, eO9⟩ := hLI.mid (Int32.toInt64 (nI cn.2.2.2.2.1)) hB9
    rw [eX, eM, eO] at hl
    rw [← eX9, ← eM9, ← eO9] at hl
    refine lv_istore (lv' := [(5, .int 0), (0, .ref b), (1, .ref (gG (sL S9 176 (Int32.toInt64 (nI cn.2.2.2.2.1))) 10 0)), (2, .ref (gG (sL S9 176 (Int32.toInt64 (nI cn.2.2.2.2.1))) 16 0)), (3, .ref (gG (sL S9 176 (Int32.toInt64 (nI cn.2.2.2.2.1))) 11 0)), (4, .int (nI ii))]) hx hb dL_law_540 hl (by decide) rfl (fun ls hl => ?_)
    refine lv_aload_n hx hb dL_law_542 rfl (lv_at hl 3 rfl) ?_
    refine lv_aload_n hx hb dL_law_543 rfl (lv_at hl 1 rfl) ?_
    refine lv_iload hx hb dL_law_544 (lv_at hl 5 rfl) ?_
    refine lv_iconst (v := 1) hx hb dL_law_546 (by decide) ?_
    refine lv_iadd hx hb dL_law_547 ?_
    refine va_sld hx hb hX hbl (Nat.not_le.mpr hbl) w.2 (i := ((nI ii) + 1)) (by rw [show nI ii + 1 = nI (ii + 1) from nI_add ii 1]; exact nI_vp (by omega) (by omega)) dL_law_548 ?_
    refine lv_topi (fun z13 ez13 => ?_)
    refine lv_aload_n hx hb dL_law_549 rfl (lv_at hl 1 rfl) ?_
    refine lv_iload hx hb dL_law_550 (lv_at hl 5 rfl) ?_
    refine lv_iconst (v := 2) hx hb dL_law_552 (by decide) ?_
    refine lv_iadd hx hb dL_law_553 ?_
    refine va_sld hx hb hX hbl (Nat.not_le.mpr hbl) w.2 (i := ((nI ii) + 2)) (by rw [show nI ii + 2 = nI (ii + 2) from nI_add ii 2]; exact nI_vp (by omega) (by omega)) dL_law_554 ?_
    refine lv_topi (fun z14 ez14 => ?_)
    refine lv_aload_n hx hb dL_law_555 rfl (lv_at hl 1 rfl) ?_
    refine lv_iload hx hb dL_law_556 (lv_at hl 5 rfl) ?_
    refine lv_iconst (v := 3) hx hb dL_law_558 (by decide) ?_
    refine lv_iadd hx hb dL_law_559 ?_
    refine va_sld hx hb hX hbl (Nat.not_le.mpr hbl) w.2 (i := ((nI ii) + 3)) (by rw [show nI ii + 3 = nI (ii + 3) from nI_add ii 3]; exact nI_vp (by omega) (by omega)) dL_law_560 ?_
    refine lv_topi (fun z15 ez15 => ?_)
    refine lv_aload_n hx hb dL_law_561 rfl (lv_at hl 1 rfl) ?_
    refine lv_iload hx hb dL_law_562 (lv_at hl 5 rfl) ?_
    refine lv_iconst (v := 4) hx hb dL_law_564 (by decide) ?_
    refine lv_iadd hx hb dL_law_565 ?_
    refine va_sld hx hb hX hbl (Nat.not_le.mpr hbl) w.2 (i := ((nI ii) + 4)) (by rw [show nI ii + 4 = nI (ii + 4) from nI_add ii 4]; exact nI_vp (by omega) (by omega)) dL_law_566 ?_
    refine lv_topi (fun z16 ez16 => ?_)
    refine lv_aload_n hx hb dL_law_567 rfl (lv_at hl 1 rfl) ?_
    refine lv_iload hx hb dL_law_568 (lv_at hl 5 rfl) ?_
    refine lv_iconst (v := 5) hx hb dL_law_570 (by decide) ?_
    refine lv_iadd hx hb dL_law_571 ?_
    refine va_sld hx hb hX hbl (Nat.not_le.mpr hbl) w.2 (i := ((nI ii) + 5)) (by rw [show nI ii + 5 = nI (ii + 5) from nI_add ii 5]; exact nI_vp (by omega) (by omega)) dL_law_572 ?_
    refine lv_topi (fun z17 ez17 => ?_)
    refine lv_aload_n hx hb dL_law_573 rfl (lv_at hl 1 rfl) ?_
    refine lv_iload hx hb dL_law_574 (lv_at hl 5 rfl) ?_
    refine lv_bipush (v := 6) hx hb dL_law_576 (by decide) ?_
    refine lv_iadd hx hb dL_law_578 ?_
    refine va_sld hx hb hX hbl (Nat.not_le.mpr hbl) w.2 (i := ((nI ii) + 6)) (by rw [show nI ii + 6 = nI (ii + 6) from nI_add ii 6]; exact nI_vp (by omega) (by omega)) dL_law_579 ?_
    refine lv_topi (fun z18 ez18 => ?_)
    obtain rfl : z1 = z13 := ez1.trans ez13.symm
    obtain rfl : z2 = z14 := ez2.trans ez14.symm
    obtain rfl : z3 = z15 := ez3.trans ez15.symm
    obtain rfl : z4 = z16 := ez4.trans ez16.symm
    obtain rfl : z5 = z17 := ez5.trans ez17.symm
    obtain rfl : z6 = z18 := ez6.trans ez18.symm
    refine cV (S := (sL S9 176 (Int32.toInt64 (nI cn.2.2.2.2.1)))) (nA := 6) (As := [.int z1, .int z2, .int z3, .int z4, .int z5, .int z6]) (rest := []) X w hl hR9.v16 (k_X16_talk G (sL S9 176 (Int32.toInt64 (nI cn.2.2.2.2.1))) hR9 z1 z2 z3 z4 z5 z6) wY_X16_talk wM_L_158 wIn_X16_talk wSe_X16_X16_talk wI_X16 (by decide) rfl (by decide +kernel) rfl rfl dL_law_580 ⟨Nat.le_of_ble_eq_true rfl, Nat.le_of_ble_eq_true rfl⟩ (Nat.le_of_ble_eq_true rfl) (⟨by have := hgC.2; show cLw k gC gC + 4 ≤ 601024; unfold cLw; omega, by have := hgC.2; show sLw k gC gC + 121 ≤ 7293034; unfold sLw; omega⟩) (fun v U2 H locs hp w => ?_)
    rcases hp with ⟨hkR, -⟩ | ⟨hkR, rfl, hX8, hB8, e256⟩
    · exact absurd hkC hkR
    · obtain ⟨hLI, eL9⟩ := hLI.told (gN := gC) hC9 hB9 hX8 hB8 hgC
      rw [eX9, eM9, eO9] at hl
      obtain ⟨hC, hR, hE, hO, hZs, hgC, eX, eM, eO⟩ := id hLI
      rw [← eX, ← eM, ← eO] at hl
      refine lv_istore (lv' := [(6, .int (nI cn.2.2.2.2.1)), (5, .int 0), (0, .ref b), (1, .ref (gG U2 10 0)), (2, .ref (gG U2 16 0)), (3, .ref (gG U2 11 0)), (4, .int (nI ii))]) hx hb dL_law_583 hl (by decide) rfl (fun ls hl => ?_)
      refine lv_goto (tgt := 1585) hx hb dL_law_585 (by decide) ?_
      refine W.widen (k := cLw (k + 1) gC gC) (n := sLw (k + 1) gC gC) (by show cLw k gC gC + 4 ≤ _; unfold cLw; omega) (by show sLw k gC gC + 121 ≤ _; unfold sLw; omega) ?_
      rw [eX, eM, eO] at hl
      exact K _ _ _ H locs _ hLI w (lv_sub hl [2, 3, 4, 5, 6] rfl)

theorem dL_law_588 : decode cL_law 588 = .ok (.aload_n 1, 1) := by decide +kernel
theorem dL_law_589 : decode cL_law 589 = .ok (.aload_n 0, 1) := by decide +kernel
theorem dL_law_590 : decode cL_law 590 = .ok (.iload 4, 2) := by decide +kernel
theorem dL_law_592 : decode cL_law 592 = .ok (.iconst 1, 1) := by decide +kernel
theorem dL_law_593 : decode cL_law 593 = .ok (.iadd, 1) := by decide +kernel
theorem dL_law_594 : decode cL_law 594 = .ok (.iaload, 1) := by decide +kernel
theorem dL_law_595 : decode cL_law 595 = .ok (.aload_n 0, 1) := by decide +kernel
theorem dL_law_596 : decode cL_law 596 = .ok (.iload 4, 2) := by decide +kernel
theorem dL_law_598 : decode cL_law 598 = .ok (.iconst 2, 1) := by decide +kernel
theorem dL_law_599 : decode cL_law 599 = .ok (.iadd, 1) := by decide +kernel
theorem dL_law_600 : decode cL_law 600 = .ok (.iaload, 1) := by decide +kernel
theorem dL_law_601 : decode cL_law 601 = .ok (.aload_n 3, 1) := by decide +kernel
theorem dL_law_602 : decode cL_law 602 = .ok (.invokestatic 159, 3) := by decide +kernel
theorem dL_law_605 : decode cL_law 605 = .ok (.istore 5, 2) := by decide +kernel
theorem dL_law_607 : decode cL_law 607 = .ok (.aload_n 2, 1) := by decide +kernel
theorem dL_law_608 : decode cL_law 608 = .ok (.aload_n 0, 1) := by decide +kernel
theorem dL_law_609 : decode cL_law 609 = .ok (.iload 4, 2) := by decide +kernel
theorem dL_law_611 : decode cL_law 611 = .ok (.iconst 1, 1) := by decide +kernel
theorem dL_law_612 : decode cL_law 612 = .ok (.iadd, 1) := by decide +kernel
theorem dL_law_613 : decode cL_law 613 = .ok (.iaload, 1) := by decide +kernel
theorem dL_law_614 : decode cL_law 614 = .ok (.aload_n 0, 1) := by decide +kernel
theorem dL_law_615 : decode cL_law 615 = .ok (.iload 4, 2) := by decide +kernel
theorem dL_law_617 : decode cL_law 617 = .ok (.iconst 2, 1) := by decide +kernel
theorem dL_law_618 : decode cL_law 618 = .ok (.iadd, 1) := by decide +kernel
theorem dL_law_619 : decode cL_law 619 = .ok (.iaload, 1) := by decide +kernel
theorem dL_law_620 : decode cL_law 620 = .ok (.invokevirtual 161, 3) := by decide +kernel
theorem dL_law_623 : decode cL_law 623 = .ok (.istore 6, 2) := by decide +kernel
theorem dL_law_625 : decode cL_law 625 = .ok (.goto 960, 3) := by decide +kernel
set_option maxHeartbeats 4000000 in
set_option maxRecDepth 100000 in
theorem lo_7 {s : State} {l : Launch} {D : va_G} {cy : Nat → ClassId} (G : Gl s l D cy) {p : Program} {e : Env} {m : MethodId} {below : List Frame} {meth : Method} {c : Code} {ret9 : Option FieldType} {b L : Nat} {xs : Nat → Int32} (X : Cx s l D cy p s m #[Value.ref b] meth c cL_law 8 "CavershamShiftLaw" ret9) (hX : va_X b L xs s s.heap) (hbl : b < s.heap.size) {S : HS} {H : Heap} {locs : List Loc} {ls : Array Slot} {ii k gC : Nat} {cn : Cn} {ax am ao : Nat} {Q : State → Prop} (w : Wd s D cy S s.heap H locs) (hl : lv_has ls 8 [(0, .ref b), (1, .ref ax), (2, .ref am), (3, .ref ao), (4, .int (nI ii))]) (hLI : LI s S gC cn ax am ao) (hi : ii + 7 ≤ L) (hL9 : L ≤ 3584) (hk : k ≤ 511) (K : ∀ (U : HS) (gC1 : Nat) (cn1 : Cn) (H : Heap) (locs : List Loc) (ls : Array Slot), LI s U gC1 cn1 ax am ao → Wd s D cy U s.heap H locs → lv_has ls 8 [(0, .ref b), (1, .ref ax), (2, .ref am), (3, .ref ao), (4, .int (nI ii))] → W p l e room_1 s m #[Value.ref b] below meth c H locs (cLw (k + 1) gC1 gC1) (sLw (k + 1) gC1 gC1) Q (F0 m 1585 ls [])) : W p l e room_1 s m #[Value.ref b] below meth c H locs (cLw k gC gC) (sLw k gC gC) Q (F0 m 588 ls []) := by
  have hx := X.1
  have hb := X.2.1
  have hown := X.2.2.2.1
  have hts := X.2.2.2.2.1
  obtain ⟨hC, hR, hE, hO, hZs, hgC, eX, eM, eO⟩ := id hLI
  rw [← eX, ← eM, ← eO] at hl
  refine lv_aload_n hx hb dL_law_588 rfl (lv_at hl 1 rfl) ?_
  refine lv_aload_n hx hb dL_law_589 rfl (lv_at hl 0 rfl) ?_
  refine lv_iload hx hb dL_law_590 (lv_at hl 4 rfl) ?_
  refine lv_iconst (v := 1) hx hb dL_law_592 (by decide) ?_
  refine lv_iadd hx hb dL_law_593 ?_
  refine va_sld hx hb hX hbl (Nat.not_le.mpr hbl) w.2 (i := ((nI ii) + 1)) (by rw [show nI ii + 1 = nI (ii + 1) from nI_add ii 1]; exact nI_vp (by omega) (by omega)) dL_law_594 ?_
  refine lv_topi (fun z1 ez1 => ?_)
  refine lv_aload_n hx hb dL_law_595 rfl (lv_at hl 0 rfl) ?_
  refine lv_iload hx hb dL_law_596 (lv_at hl 4 rfl) ?_
  refine lv_iconst (v := 2) hx hb dL_law_598 (by decide) ?_
  refine lv_iadd hx hb dL_law_599 ?_
  refine va_sld hx hb hX hbl (Nat.not_le.mpr hbl) w.2 (i := ((nI ii) + 2)) (by rw [show nI ii + 2 = nI (ii + 2) from nI_add ii 2]; exact nI_vp (by omega) (by omega)) dL_law_600 ?_
  refine lv_topi (fun z2 ez2 => ?_)
  refine lv_aload_n hx hb dL_law_601 rfl (lv_at hl 3 rfl) ?_
  refine cSW (S := S) (nA := 4) (As := [.ref (gG S 10 0), .int z1, .int z2, .ref (gG S 11 0)]) (rest := []) X w hl ((w_L_print G S hC hO hC.v10 z1 z2).post (post' := fun v S9 => (¬ prK cn.2.2.2.2.1 z1 z2 (mI cn.2.2.2.2.2.2 246 z1.toNatClampNeg) = 0 ∧ (∃ k9 : Int32, some (.int k9) = v) ∧ S = S9) ∨ (prK cn.2.2.2.2.1 z1 z2 (mI cn.2.2.2.2.2.2 246 z1.toNatClampNeg) = 0 ∧ some (.int 0) = v ∧ ∃ S1 : HS, CX (eaOf s) S1 (cn.1, cn.2.1, cn.2.2.1, cn.2.2.2.1, cn.2.2.2.2.1, cn.2.2.2.2.2.1, prA cn.2.2.2.2.2.2 z1.toNatClampNeg z2) ∧ KeepB S S1 ∧ S9 = (sL S1 176 (Int32.toInt64 (prF cn.2.2.2.2.2.2 z1.toNatClampNeg z2))))) (fun v S9 h9 => by rcases h9 with ⟨e9, rfl, rfl⟩ | ⟨e9, rfl, rfl⟩ | ⟨e9, rfl, rfl⟩ | h9 <;> first | exact Or.inr h9 | exact Or.inl ⟨by rw [e9]; decide, ⟨_, rfl⟩, rfl⟩)) wYW_L_print wM_L_159 wSt_L_print wI_L (by decide +kernel) rfl rfl dL_law_602 ⟨Nat.le_of_ble_eq_true rfl, Nat.le_of_ble_eq_true rfl⟩ (Nat.le_of_ble_eq_true rfl) (⟨by have := hgC.2; show cLw k gC gC + 1 ≤ 601024; unfold cLw; omega, by have := hgC.2; show sLw k gC gC + 49 ≤ 7293034; unfold sLw; omega⟩) (fun v U1 H locs hp w => ?_)
  rcases hp with ⟨hkC, ⟨k9, rfl⟩, rfl⟩ | ⟨hkC, rfl, S9, hC9, hB9, rfl⟩
  · refine lv_istore (lv' := [(5, .int k9), (0, .ref b), (1, .ref (gG S 10 0)), (2, .ref (gG S 16 0)), (3, .ref (gG S 11 0)), (4, .int (nI ii))]) hx hb dL_law_605 hl (by decide) rfl (fun ls hl => ?_)
    refine lv_aload_n hx hb dL_law_607 rfl (lv_at hl 3 rfl) ?_
    refine lv_aload_n hx hb dL_law_608 rfl (lv_at hl 1 rfl) ?_
    refine lv_iload hx hb dL_law_609 (lv_at hl 5 rfl) ?_
    refine lv_iconst (v := 1) hx hb dL_law_611 (by decide) ?_
    refine lv_iadd hx hb dL_law_612 ?_
    refine va_sld hx hb hX hbl (Nat.not_le.mpr hbl) w.2 (i := ((nI ii) + 1)) (by rw [show nI ii + 1 = nI (ii + 1) from nI_add ii 1]; exact nI_vp (by omega) (by omega)) dL_law_613 ?_
    refine lv_topi (fun z3 ez3 => ?_)
    refine lv_aload_n hx hb dL_law_614 rfl (lv_at hl 1 rfl) ?_
    refine lv_iload hx hb dL_law_615 (lv_at hl 5 rfl) ?_
    refine lv_iconst (v := 2) hx hb dL_law_617 (by decide) ?_
    refine lv_iadd hx hb dL_law_618 ?_
    refine va_sld hx hb hX hbl (Nat.not_le.mpr hbl) w.2 (i := ((nI ii) + 2)) (by rw [show nI ii + 2 = nI (ii + 2) from nI_add ii 2]; exact nI_vp (by omega) (by omega)) dL_law_619 ?_
    refine lv_topi (fun z4 ez4 => ?_)
    obtain rfl : z1 = z3 := ez1.trans ez3.symm
    obtain rfl : z2 = z4 := ez2.trans ez4.symm
    refine cV (S := S) (nA := 2) (As := [.int z1, .int z2]) (rest := []) X w hl hR.v16 (k_X16_print G S hR z1 z2) wY_X16_print wM_L_161 wIn_X16_print wSe_X16_X16_print wI_X16 (by decide) rfl (by decide +kernel) rfl rfl dL_law_620 ⟨Nat.le_of_ble_eq_true rfl, Nat.le_of_ble_eq_true rfl⟩ (Nat.le_of_ble_eq_true rfl) (⟨by have := hgC.2; show cLw k gC gC + 2 ≤ 601024; unfold cLw; omega, by have := hgC.2; show sLw k gC gC + 98 ≤ 7293034; unfold sLw; omega⟩) (fun v U2 H locs hp w => ?_)
    rcases hp with ⟨hkR, ⟨y9, rfl⟩, hX9, hk9, e256⟩ | ⟨hkR, -⟩
    · have hs : StpL s cn S U2 := StpL.ofR hX9 hk9
      rw [eX, eM, eO] at hl
      have hLI := hs _ _ _ _ hLI
      obtain ⟨hC, hR, hE, hO, hZs, hgC, eX, eM, eO⟩ := id hLI
      rw [← eX, ← eM, ← eO] at hl
      refine lv_istore (lv' := [(6, .int y9), (5, .int k9), (0, .ref b), (1, .ref (gG U2 10 0)), (2, .ref (gG U2 16 0)), (3, .ref (gG U2 11 0)), (4, .int (nI ii))]) hx hb dL_law_623 hl (by decide) rfl (fun ls hl => ?_)
      refine lv_goto (tgt := 1585) hx hb dL_law_625 (by decide) ?_
      refine W.widen (k := cLw (k + 1) gC gC) (n := sLw (k + 1) gC gC) (by show cLw k gC gC + 2 ≤ _; unfold cLw; omega) (by show sLw k gC gC + 98 ≤ _; unfold sLw; omega) ?_
      rw [eX, eM, eO] at hl
      exact K _ _ _ H locs _ hLI w (lv_sub hl [2, 3, 4, 5, 6] rfl)
    · exact absurd hkR hkC
  · obtain ⟨hR9, eX9, eM9, eO9⟩ := hLI.mid (Int32.toInt64 (prF cn.2.2.2.2.2.2 z1.toNatClampNeg z2)) hB9
    rw [eX, eM, eO] at hl
    rw [← eX9, ← eM9, ← eO9] at hl
    refine lv_istore (lv' := [(5, .int 0), (0, .ref b), (1, .ref (gG (sL S9 176 (Int32.toInt64 (prF cn.2.2.2.2.2.2 z1.toNatClampNeg z2))) 10 0)), (2, .ref (gG (sL S9 176 (Int32.toInt64 (prF cn.2.2.2.2.2.2 z1.toNatClampNeg z2))) 16 0)), (3, .ref (gG (sL S9 176 (Int32.toInt64 (prF cn.2.2.2.2.2.2 z1.toNatClampNeg z2))) 11 0)), (4, .int (nI ii))]) hx hb dL_law_605 hl (by decide) rfl (fun ls hl => ?_)
    refine lv_aload_n hx hb dL_law_607 rfl (lv_at hl 3 rfl) ?_
    refine lv_aload_n hx hb dL_law_608 rfl (lv_at hl 1 rfl) ?_
    refine lv_iload hx hb dL_law_609 (lv_at hl 5 rfl) ?_
    refine lv_iconst (v := 1) hx hb dL_law_611 (by decide) ?_
    refine lv_iadd hx hb dL_law_612 ?_
    refine va_sld hx hb hX hbl (Nat.not_le.mpr hbl) w.2 (i := ((nI ii) + 1)) (by rw [show nI ii + 1 = nI (ii + 1) from nI_add ii 1]; exact nI_vp (by omega) (by omega)) dL_law_613 ?_
    refine lv_topi (fun z5 ez5 => ?_)
    refine lv_aload_n hx hb dL_law_614 rfl (lv_at hl 1 rfl) ?_
    refine lv_iload hx hb dL_law_615 (lv_at hl 5 rfl) ?_
    refine lv_iconst (v := 2) hx hb dL_law_617 (by decide) ?_
    refine lv_iadd hx hb dL_law_618 ?_
    refine va_sld hx hb hX hbl (Nat.not_le.mpr hbl) w.2 (i := ((nI ii) + 2)) (by rw [show nI ii + 2 = nI (ii + 2) from nI_add ii 2]; exact nI_vp (by omega) (by omega)) dL_law_619 ?_
    refine lv_topi (fun z6 ez6 => ?_)
    obtain rfl : z1 = z5 := ez1.trans ez5.symm
    obtain rfl : z2 = z6 := ez2.trans ez6.symm
    refine cV (S := (sL S9 176 (Int32.toInt64 (prF cn.2.2.2.2.2.2 z1.toNatClampNeg z2)))) (nA := 2) (As := [.int z1, .int z2]) (rest := []) X w hl hR9.v16 (k_X16_print G (sL S9 176 (Int32.toInt64 (prF cn.2.2.2.2.2.2 z1.toNatClampNeg z2))) hR9 z1 z2) wY_X16_print wM_L_161 wIn_X16_print wSe_X16_X16_print wI_X16 (by decide) rfl (by decide +kernel) rfl rfl dL_law_620 ⟨Nat.le_of_ble_eq_true rfl, Nat.le_of_ble_eq_true rfl⟩ (Nat.le_of_ble_eq_true rfl) (⟨by have := hgC.2; show cLw k gC gC + 2 ≤ 601024; unfold cLw; omega, by have := hgC.2; show sLw k gC gC + 98 ≤ 7293034; unfold sLw; omega⟩) (fun v U2 H locs hp w => ?_)
    rcases hp with ⟨hkR, -⟩ | ⟨hkR, rfl, hX8, hB8, e256⟩
    · exact absurd hkC hkR
    · obtain ⟨hLI, eL9⟩ := hLI.told (gN := gC) hC9 hB9 hX8 hB8 hgC
      rw [eX9, eM9, eO9] at hl
      obtain ⟨hC, hR, hE, hO, hZs, hgC, eX, eM, eO⟩ := id hLI
      rw [← eX, ← eM, ← eO] at hl
      refine lv_istore (lv' := [(6, .int (prF cn.2.2.2.2.2.2 z1.toNatClampNeg z2)), (5, .int 0), (0, .ref b), (1, .ref (gG U2 10 0)), (2, .ref (gG U2 16 0)), (3, .ref (gG U2 11 0)), (4, .int (nI ii))]) hx hb dL_law_623 hl (by decide) rfl (fun ls hl => ?_)
      refine lv_goto (tgt := 1585) hx hb dL_law_625 (by decide) ?_
      refine W.widen (k := cLw (k + 1) gC gC) (n := sLw (k + 1) gC gC) (by show cLw k gC gC + 2 ≤ _; unfold cLw; omega) (by show sLw k gC gC + 98 ≤ _; unfold sLw; omega) ?_
      rw [eX, eM, eO] at hl
      exact K _ _ _ H locs _ hLI w (lv_sub hl [2, 3, 4, 5, 6] rfl)

theorem dL_law_628 : decode cL_law 628 = .ok (.aload_n 1, 1) := by decide +kernel
theorem dL_law_629 : decode cL_law 629 = .ok (.aload_n 0, 1) := by decide +kernel
theorem dL_law_630 : decode cL_law 630 = .ok (.iload 4, 2) := by decide +kernel
theorem dL_law_632 : decode cL_law 632 = .ok (.iconst 1, 1) := by decide +kernel
theorem dL_law_633 : decode cL_law 633 = .ok (.iadd, 1) := by decide +kernel
theorem dL_law_634 : decode cL_law 634 = .ok (.iaload, 1) := by decide +kernel
theorem dL_law_635 : decode cL_law 635 = .ok (.aload_n 0, 1) := by decide +kernel
theorem dL_law_636 : decode cL_law 636 = .ok (.iload 4, 2) := by decide +kernel
theorem dL_law_638 : decode cL_law 638 = .ok (.iconst 2, 1) := by decide +kernel
theorem dL_law_639 : decode cL_law 639 = .ok (.iadd, 1) := by decide +kernel
theorem dL_law_640 : decode cL_law 640 = .ok (.iaload, 1) := by decide +kernel
theorem dL_law_641 : decode cL_law 641 = .ok (.aload_n 3, 1) := by decide +kernel
theorem dL_law_642 : decode cL_law 642 = .ok (.invokestatic 162, 3) := by decide +kernel
theorem dL_law_645 : decode cL_law 645 = .ok (.istore 5, 2) := by decide +kernel
theorem dL_law_647 : decode cL_law 647 = .ok (.aload_n 2, 1) := by decide +kernel
theorem dL_law_648 : decode cL_law 648 = .ok (.aload_n 0, 1) := by decide +kernel
theorem dL_law_649 : decode cL_law 649 = .ok (.iload 4, 2) := by decide +kernel
theorem dL_law_651 : decode cL_law 651 = .ok (.iconst 1, 1) := by decide +kernel
theorem dL_law_652 : decode cL_law 652 = .ok (.iadd, 1) := by decide +kernel
theorem dL_law_653 : decode cL_law 653 = .ok (.iaload, 1) := by decide +kernel
theorem dL_law_654 : decode cL_law 654 = .ok (.aload_n 0, 1) := by decide +kernel
theorem dL_law_655 : decode cL_law 655 = .ok (.iload 4, 2) := by decide +kernel
theorem dL_law_657 : decode cL_law 657 = .ok (.iconst 2, 1) := by decide +kernel
theorem dL_law_658 : decode cL_law 658 = .ok (.iadd, 1) := by decide +kernel
theorem dL_law_659 : decode cL_law 659 = .ok (.iaload, 1) := by decide +kernel
theorem dL_law_660 : decode cL_law 660 = .ok (.invokevirtual 164, 3) := by decide +kernel
theorem dL_law_663 : decode cL_law 663 = .ok (.istore 6, 2) := by decide +kernel
theorem dL_law_665 : decode cL_law 665 = .ok (.goto 920, 3) := by decide +kernel
set_option maxHeartbeats 4000000 in
set_option maxRecDepth 100000 in
theorem lo_8 {s : State} {l : Launch} {D : va_G} {cy : Nat → ClassId} (G : Gl s l D cy) {p : Program} {e : Env} {m : MethodId} {below : List Frame} {meth : Method} {c : Code} {ret9 : Option FieldType} {b L : Nat} {xs : Nat → Int32} (X : Cx s l D cy p s m #[Value.ref b] meth c cL_law 8 "CavershamShiftLaw" ret9) (hX : va_X b L xs s s.heap) (hbl : b < s.heap.size) {S : HS} {H : Heap} {locs : List Loc} {ls : Array Slot} {ii k gC : Nat} {cn : Cn} {ax am ao : Nat} {Q : State → Prop} (w : Wd s D cy S s.heap H locs) (hl : lv_has ls 8 [(0, .ref b), (1, .ref ax), (2, .ref am), (3, .ref ao), (4, .int (nI ii))]) (hLI : LI s S gC cn ax am ao) (hi : ii + 7 ≤ L) (hL9 : L ≤ 3584) (hk : k ≤ 511) (K : ∀ (U : HS) (gC1 : Nat) (cn1 : Cn) (H : Heap) (locs : List Loc) (ls : Array Slot), LI s U gC1 cn1 ax am ao → Wd s D cy U s.heap H locs → lv_has ls 8 [(0, .ref b), (1, .ref ax), (2, .ref am), (3, .ref ao), (4, .int (nI ii))] → W p l e room_1 s m #[Value.ref b] below meth c H locs (cLw (k + 1) gC1 gC1) (sLw (k + 1) gC1 gC1) Q (F0 m 1585 ls [])) : W p l e room_1 s m #[Value.ref b] below meth c H locs (cLw k gC gC) (sLw k gC gC) Q (F0 m 628 ls []) := by
  have hx := X.1
  have hb := X.2.1
  have hown := X.2.2.2.1
  have hts := X.2.2.2.2.1
  obtain ⟨hC, hR, hE, hO, hZs, hgC, eX, eM, eO⟩ := id hLI
  rw [← eX, ← eM, ← eO] at hl
  refine lv_aload_n hx hb dL_law_628 rfl (lv_at hl 1 rfl) ?_
  refine lv_aload_n hx hb dL_law_629 rfl (lv_at hl 0 rfl) ?_
  refine lv_iload hx hb dL_law_630 (lv_at hl 4 rfl) ?_
  refine lv_iconst (v := 1) hx hb dL_law_632 (by decide) ?_
  refine lv_iadd hx hb dL_law_633 ?_
  refine va_sld hx hb hX hbl (Nat.not_le.mpr hbl) w.2 (i := ((nI ii) + 1)) (by rw [show nI ii + 1 = nI (ii + 1) from nI_add ii 1]; exact nI_vp (by omega) (by omega)) dL_law_634 ?_
  refine lv_topi (fun z1 ez1 => ?_)
  refine lv_aload_n hx hb dL_law_635 rfl (lv_at hl 0 rfl) ?_
  refine lv_iload hx hb dL_law_636 (lv_at hl 4 rfl) ?_
  refine lv_iconst (v := 2) hx hb dL_law_638 (by decide) ?_
  refine lv_iadd hx hb dL_law_639 ?_
  refine va_sld hx hb hX hbl (Nat.not_le.mpr hbl) w.2 (i := ((nI ii) + 2)) (by rw [show nI ii + 2 = nI (ii + 2) from nI_add ii 2]; exact nI_vp (by omega) (by omega)) dL_law_640 ?_
  refine lv_topi (fun z2 ez2 => ?_)
  refine lv_aload_n hx hb dL_law_641 rfl (lv_at hl 3 rfl) ?_
  refine cSW (S := S) (nA := 4) (As := [.ref (gG S 10 0), .int z1, .int z2, .ref (gG S 11 0)]) (rest := []) X w hl ((w_L_reader G S hC hO hC.v10 z1 z2).post (post' := fun v S9 => (¬ reK cn.2.2.2.1 z1 z2 = 0 ∧ (∃ k9 : Int32, some (.int k9) = v) ∧ S = S9) ∨ (reK cn.2.2.2.1 z1 z2 = 0 ∧ some (.int 0) = v ∧ ∃ S1 : HS, CX (eaOf s) S1 (cn.1, cn.2.1, cn.2.2.1, cn.2.2.2.1 + 1, cn.2.2.2.2.1, cn.2.2.2.2.2.1, reC cn.2.2.2.2.2.2 cn.2.2.2.1 z1 z2) ∧ KeepB S S1 ∧ S9 = (sL S1 176 (Int32.toInt64 (nI cn.2.2.2.1))))) (fun v S9 h9 => by rcases h9 with ⟨e9, rfl, rfl⟩ | ⟨e9, rfl, rfl⟩ | h9 <;> first | exact Or.inr h9 | exact Or.inl ⟨by rw [e9]; decide, ⟨_, rfl⟩, rfl⟩)) wYW_L_reader wM_L_162 wSt_L_reader wI_L (by decide +kernel) rfl rfl dL_law_642 ⟨Nat.le_of_ble_eq_true rfl, Nat.le_of_ble_eq_true rfl⟩ (Nat.le_of_ble_eq_true rfl) (⟨by have := hgC.2; show cLw k gC gC + 2 ≤ 601024; unfold cLw; omega, by have := hgC.2; show sLw k gC gC + 52 ≤ 7293034; unfold sLw; omega⟩) (fun v U1 H locs hp w => ?_)
  rcases hp with ⟨hkC, ⟨k9, rfl⟩, rfl⟩ | ⟨hkC, rfl, S9, hC9, hB9, rfl⟩
  · refine lv_istore (lv' := [(5, .int k9), (0, .ref b), (1, .ref (gG S 10 0)), (2, .ref (gG S 16 0)), (3, .ref (gG S 11 0)), (4, .int (nI ii))]) hx hb dL_law_645 hl (by decide) rfl (fun ls hl => ?_)
    refine lv_aload_n hx hb dL_law_647 rfl (lv_at hl 3 rfl) ?_
    refine lv_aload_n hx hb dL_law_648 rfl (lv_at hl 1 rfl) ?_
    refine lv_iload hx hb dL_law_649 (lv_at hl 5 rfl) ?_
    refine lv_iconst (v := 1) hx hb dL_law_651 (by decide) ?_
    refine lv_iadd hx hb dL_law_652 ?_
    refine va_sld hx hb hX hbl (Nat.not_le.mpr hbl) w.2 (i := ((nI ii) + 1)) (by rw [show nI ii + 1 = nI (ii + 1) from nI_add ii 1]; exact nI_vp (by omega) (by omega)) dL_law_653 ?_
    refine lv_topi (fun z3 ez3 => ?_)
    refine lv_aload_n hx hb dL_law_654 rfl (lv_at hl 1 rfl) ?_
    refine lv_iload hx hb dL_law_655 (lv_at hl 5 rfl) ?_
    refine lv_iconst (v := 2) hx hb dL_law_657 (by decide) ?_
    refine lv_iadd hx hb dL_law_658 ?_
    refine va_sld hx hb hX hbl (Nat.not_le.mpr hbl) w.2 (i := ((nI ii) + 2)) (by rw [show nI ii + 2 = nI (ii + 2) from nI_add ii 2]; exact nI_vp (by omega) (by omega)) dL_law_659 ?_
    refine lv_topi (fun z4 ez4 => ?_)
    obtain rfl : z1 = z3 := ez1.trans ez3.symm
    obtain rfl : z2 = z4 := ez2.trans ez4.symm
    refine cV (S := S) (nA := 2) (As := [.int z1, .int z2]) (rest := []) X w hl hR.v16 (k_X16_reader G S hR z1 z2) wY_X16_reader wM_L_164 wIn_X16_reader wSe_X16_X16_reader wI_X16 (by decide) rfl (by decide +kernel) rfl rfl dL_law_660 ⟨Nat.le_of_ble_eq_true rfl, Nat.le_of_ble_eq_true rfl⟩ (Nat.le_of_ble_eq_true rfl) (⟨by have := hgC.2; show cLw k gC gC + 5 ≤ 601024; unfold cLw; omega, by have := hgC.2; show sLw k gC gC + 144 ≤ 7293034; unfold sLw; omega⟩) (fun v U2 H locs hp w => ?_)
    rcases hp with ⟨hkR, ⟨y9, rfl⟩, hX9, hk9, e256⟩ | ⟨hkR, -⟩
    · have hs : StpL s cn S U2 := StpL.ofR hX9 hk9
      rw [eX, eM, eO] at hl
      have hLI := hs _ _ _ _ hLI
      obtain ⟨hC, hR, hE, hO, hZs, hgC, eX, eM, eO⟩ := id hLI
      rw [← eX, ← eM, ← eO] at hl
      refine lv_istore (lv' := [(6, .int y9), (5, .int k9), (0, .ref b), (1, .ref (gG U2 10 0)), (2, .ref (gG U2 16 0)), (3, .ref (gG U2 11 0)), (4, .int (nI ii))]) hx hb dL_law_663 hl (by decide) rfl (fun ls hl => ?_)
      refine lv_goto (tgt := 1585) hx hb dL_law_665 (by decide) ?_
      refine W.widen (k := cLw (k + 1) gC gC) (n := sLw (k + 1) gC gC) (by show cLw k gC gC + 5 ≤ _; unfold cLw; omega) (by show sLw k gC gC + 144 ≤ _; unfold sLw; omega) ?_
      rw [eX, eM, eO] at hl
      exact K _ _ _ H locs _ hLI w (lv_sub hl [2, 3, 4, 5, 6] rfl)
    · exact absurd hkR hkC
  · obtain ⟨hR9, eX9, eM9, eO9⟩ := hLI.mid (Int32.toInt64 (nI cn.2.2.2.1)) hB9
    rw [eX, eM, eO] at hl
    rw [← eX9, ← eM9, ← eO9] at hl
    refine lv_istore (lv' := [(5, .int 0), (0, .ref b), (1, .ref (gG (sL S9 176 (Int32.toInt64 (nI cn.2.2.2.1))) 10 0)), (2, .ref (gG (sL S9 176 (Int32.toInt64 (nI cn.2.2.2.1))) 16 0)), (3, .ref (gG (sL S9 176 (Int32.toInt64 (nI cn.2.2.2.1))) 11 0)), (4, .int (nI ii))]) hx hb dL_law_645 hl (by decide) rfl (fun ls hl => ?_)
    refine lv_aload_n hx hb dL_law_647 rfl (lv_at hl 3 rfl) ?_
    refine lv_aload_n hx hb dL_law_648 rfl (lv_at hl 1 rfl) ?_
    refine lv_iload hx hb dL_law_649 (lv_at hl 5 rfl) ?_
    refine lv_iconst (v := 1) hx hb dL_law_651 (by decide) ?_
    refine lv_iadd hx hb dL_law_652 ?_
    refine va_sld hx hb hX hbl (Nat.not_le.mpr hbl) w.2 (i := ((nI ii) + 1)) (by rw [show nI ii + 1 = nI (ii + 1) from nI_add ii 1]; exact nI_vp (by omega) (by omega)) dL_law_653 ?_
    refine lv_topi (fun z5 ez5 => ?_)
    refine lv_aload_n hx hb dL_law_654 rfl (lv_at hl 1 rfl) ?_
    refine lv_iload hx hb dL_law_655 (lv_at hl 5 rfl) ?_
    refine lv_iconst (v := 2) hx hb dL_law_657 (by decide) ?_
    refine lv_iadd hx hb dL_law_658 ?_
    refine va_sld hx hb hX hbl (Nat.not_le.mpr hbl) w.2 (i := ((nI ii) + 2)) (by rw [show nI ii + 2 = nI (ii + 2) from nI_add ii 2]; exact nI_vp (by omega) (by omega)) dL_law_659 ?_
    refine lv_topi (fun z6 ez6 => ?_)
    obtain rfl : z1 = z5 := ez1.trans ez5.symm
    obtain rfl : z2 = z6 := ez2.trans ez6.symm
    refine cV (S := (sL S9 176 (Int32.toInt64 (nI cn.2.2.2.1)))) (nA := 2) (As := [.int z1, .int z2]) (rest := []) X w hl hR9.v16 (k_X16_reader G (sL S9 176 (Int32.toInt64 (nI cn.2.2.2.1))) hR9 z1 z2) wY_X16_reader wM_L_164 wIn_X16_reader wSe_X16_X16_reader wI_X16 (by decide) rfl (by decide +kernel) rfl rfl dL_law_660 ⟨Nat.le_of_ble_eq_true rfl, Nat.le_of_ble_eq_true rfl⟩ (Nat.le_of_ble_eq_true rfl) (⟨by have := hgC.2; show cLw k gC gC + 5 ≤ 601024; unfold cLw; omega, by have := hgC.2; show sLw k gC gC + 144 ≤ 7293034; unfold sLw; omega⟩) (fun v U2 H locs hp w => ?_)
    rcases hp with ⟨hkR, -⟩ | ⟨hkR, rfl, hX8, hB8, e256⟩
    · exact absurd hkC hkR
    · obtain ⟨hLI, eL9⟩ := hLI.told (gN := gC) hC9 hB9 hX8 hB8 hgC
      rw [eX9, eM9, eO9] at hl
      obtain ⟨hC, hR, hE, hO, hZs, hgC, eX, eM, eO⟩ := id hLI
      rw [← eX, ← eM, ← eO] at hl
      refine lv_istore (lv' := [(6, .int (nI cn.2.2.2.1)), (5, .int 0), (0, .ref b), (1, .ref (gG U2 10 0)), (2, .ref (gG U2 16 0)), (3, .ref (gG U2 11 0)), (4, .int (nI ii))]) hx hb dL_law_663 hl (by decide) rfl (fun ls hl => ?_)
      refine lv_goto (tgt := 1585) hx hb dL_law_665 (by decide) ?_
      refine W.widen (k := cLw (k + 1) gC gC) (n := sLw (k + 1) gC gC) (by show cLw k gC gC + 5 ≤ _; unfold cLw; omega) (by show sLw k gC gC + 144 ≤ _; unfold sLw; omega) ?_
      rw [eX, eM, eO] at hl
      exact K _ _ _ H locs _ hLI w (lv_sub hl [2, 3, 4, 5, 6] rfl)

theorem dL_law_668 : decode cL_law 668 = .ok (.aload_n 1, 1) := by decide +kernel
theorem dL_law_669 : decode cL_law 669 = .ok (.aload_n 0, 1) := by decide +kernel
theorem dL_law_670 : decode cL_law 670 = .ok (.iload 4, 2) := by decide +kernel
theorem dL_law_672 : decode cL_law 672 = .ok (.iconst 1, 1) := by decide +kernel
theorem dL_law_673 : decode cL_law 673 = .ok (.iadd, 1) := by decide +kernel
theorem dL_law_674 : decode cL_law 674 = .ok (.iaload, 1) := by decide +kernel
theorem dL_law_675 : decode cL_law 675 = .ok (.aload_n 0, 1) := by decide +kernel
theorem dL_law_676 : decode cL_law 676 = .ok (.iload 4, 2) := by decide +kernel
theorem dL_law_678 : decode cL_law 678 = .ok (.iconst 2, 1) := by decide +kernel
theorem dL_law_679 : decode cL_law 679 = .ok (.iadd, 1) := by decide +kernel
theorem dL_law_680 : decode cL_law 680 = .ok (.iaload, 1) := by decide +kernel
theorem dL_law_681 : decode cL_law 681 = .ok (.aload_n 0, 1) := by decide +kernel
theorem dL_law_682 : decode cL_law 682 = .ok (.iload 4, 2) := by decide +kernel
theorem dL_law_684 : decode cL_law 684 = .ok (.iconst 3, 1) := by decide +kernel
theorem dL_law_685 : decode cL_law 685 = .ok (.iadd, 1) := by decide +kernel
theorem dL_law_686 : decode cL_law 686 = .ok (.iaload, 1) := by decide +kernel
theorem dL_law_687 : decode cL_law 687 = .ok (.aload_n 3, 1) := by decide +kernel
theorem dL_law_688 : decode cL_law 688 = .ok (.invokestatic 165, 3) := by decide +kernel
theorem dL_law_691 : decode cL_law 691 = .ok (.istore 5, 2) := by decide +kernel
theorem dL_law_693 : decode cL_law 693 = .ok (.aload_n 2, 1) := by decide +kernel
theorem dL_law_694 : decode cL_law 694 = .ok (.aload_n 0, 1) := by decide +kernel
theorem dL_law_695 : decode cL_law 695 = .ok (.iload 4, 2) := by decide +kernel
theorem dL_law_697 : decode cL_law 697 = .ok (.iconst 1, 1) := by decide +kernel
theorem dL_law_698 : decode cL_law 698 = .ok (.iadd, 1) := by decide +kernel
theorem dL_law_699 : decode cL_law 699 = .ok (.iaload, 1) := by decide +kernel
theorem dL_law_700 : decode cL_law 700 = .ok (.aload_n 0, 1) := by decide +kernel
theorem dL_law_701 : decode cL_law 701 = .ok (.iload 4, 2) := by decide +kernel
theorem dL_law_703 : decode cL_law 703 = .ok (.iconst 2, 1) := by decide +kernel
theorem dL_law_704 : decode cL_law 704 = .ok (.iadd, 1) := by decide +kernel
theorem dL_law_705 : decode cL_law 705 = .ok (.iaload, 1) := by decide +kernel
theorem dL_law_706 : decode cL_law 706 = .ok (.aload_n 0, 1) := by decide +kernel
theorem dL_law_707 : decode cL_law 707 = .ok (.iload 4, 2) := by decide +kernel
theorem dL_law_709 : decode cL_law 709 = .ok (.iconst 3, 1) := by decide +kernel
theorem dL_law_710 : decode cL_law 710 = .ok (.iadd, 1) := by decide +kernel
theorem dL_law_711 : decode cL_law 711 = .ok (.iaload, 1) := by decide +kernel
theorem dL_law_712 : decode cL_law 712 = .ok (.invokevirtual 168, 3) := by decide +kernel
theorem dL_law_715 : decode cL_law 715 = .ok (.istore 6, 2) := by decide +kernel
theorem dL_law_717 : decode cL_law 717 = .ok (.goto 868, 3) := by decide +kernel
set_option maxHeartbeats 4000000 in
set_option maxRecDepth 100000 in
theorem lo_9 {s : State} {l : Launch} {D : va_G} {cy : Nat → ClassId} (G : Gl s l D cy) {p : Program} {e : Env} {m : MethodId} {below : List Frame} {meth : Method} {c : Code} {ret9 : Option FieldType} {b L : Nat} {xs : Nat → Int32} (X : Cx s l D cy p s m #[Value.ref b] meth c cL_law 8 "CavershamShiftLaw" ret9) (hX : va_X b L xs s s.heap) (hbl : b < s.heap.size) {S : HS} {H : Heap} {locs : List Loc} {ls : Array Slot} {ii k gC : Nat} {cn : Cn} {ax am ao : Nat} {Q : State → Prop} (w : Wd s D cy S s.heap H locs) (hl : lv_has ls 8 [(0, .ref b), (1, .ref ax), (2, .ref am), (3, .ref ao), (4, .int (nI ii))]) (hLI : LI s S gC cn ax am ao) (hi : ii + 7 ≤ L) (hL9 : L ≤ 3584) (hk : k ≤ 511) (K : ∀ (U : HS) (gC1 : Nat) (cn1 : Cn) (H : Heap) (locs : List Loc) (ls : Array Slot), LI s U gC1 cn1 ax am ao → Wd s D cy U s.heap H locs → lv_has ls 8 [(0, .ref b), (1, .ref ax), (2, .ref am), (3, .ref ao), (4, .int (nI ii))] → W p l e room_1 s m #[Value.ref b] below meth c H locs (cLw (k + 1) gC1 gC1) (sLw (k + 1) gC1 gC1) Q (F0 m 1585 ls [])) : W p l e room_1 s m #[Value.ref b] below meth c H locs (cLw k gC gC) (sLw k gC gC) Q (F0 m 668 ls []) := by
  have hx := X.1
  have hb := X.2.1
  have hown := X.2.2.2.1
  have hts := X.2.2.2.2.1
  obtain ⟨hC, hR, hE, hO, hZs, hgC, eX, eM, eO⟩ := id hLI
  rw [← eX, ← eM, ← eO] at hl
  refine lv_aload_n hx hb dL_law_668 rfl (lv_at hl 1 rfl) ?_
  refine lv_aload_n hx hb dL_law_669 rfl (lv_at hl 0 rfl) ?_
  refine lv_iload hx hb dL_law_670 (lv_at hl 4 rfl) ?_
  refine lv_iconst (v := 1) hx hb dL_law_672 (by decide) ?_
  refine lv_iadd hx hb dL_law_673 ?_
  refine va_sld hx hb hX hbl (Nat.not_le.mpr hbl) w.2 (i := ((nI ii) + 1)) (by rw [show nI ii + 1 = nI (ii + 1) from nI_add ii 1]; exact nI_vp (by omega) (by omega)) dL_law_674 ?_
  refine lv_topi (fun z1 ez1 => ?_)
  refine lv_aload_n hx hb dL_law_675 rfl (lv_at hl 0 rfl) ?_
  refine lv_iload hx hb dL_law_676 (lv_at hl 4 rfl) ?_
  refine lv_iconst (v := 2) hx hb dL_law_678 (by decide) ?_
  refine lv_iadd hx hb dL_law_679 ?_
  refine va_sld hx hb hX hbl (Nat.not_le.mpr hbl) w.2 (i := ((nI ii) + 2)) (by rw [show nI ii + 2 = nI (ii + 2) from nI_add ii 2]; exact nI_vp (by omega) (by omega)) dL_law_680 ?_
  refine lv_topi (fun z2 ez2 => ?_)
  refine lv_aload_n hx hb dL_law_681 rfl (lv_at hl 0 rfl) ?_
  refine lv_iload hx hb dL_law_682 (lv_at hl 4 rfl) ?_
  refine lv_iconst (v := 3) hx hb dL_law_684 (by decide) ?_
  refine lv_iadd hx hb dL_law_685 ?_
  refine va_sld hx hb hX hbl (Nat.not_le.mpr hbl) w.2 (i := ((nI ii) + 3)) (by rw [show nI ii + 3 = nI (ii + 3) from nI_add ii 3]; exact nI_vp (by omega) (by omega)) dL_law_686 ?_
  refine lv_topi (fun z3 ez3 => ?_)
  refine lv_aload_n hx hb dL_law_687 rfl (lv_at hl 3 rfl) ?_
  refine cSW (S := S) (nA := 5) (As := [.ref (gG S 10 0), .int z1, .int z2, .int z3, .ref (gG S 11 0)]) (rest := []) X w hl ((w_L_ask G S hC hO hC.v10 z1 z2 z3).post (post' := fun v S9 => (¬ asK cn.2.2.2.1 z1 z2 z3 = 0 ∧ (∃ k9 : Int32, some (.int k9) = v) ∧ S = S9) ∨ (asK cn.2.2.2.1 z1 z2 z3 = 0 ∧ some (.int 0) = v ∧ ∃ S1 : HS, CX (eaOf s) S1 (cn.1, cn.2.1, cn.2.2.1, cn.2.2.2.1, cn.2.2.2.2.1, cn.2.2.2.2.2.1, asA cn.2.2.2.2.2.2 z1.toNatClampNeg z2 z3) ∧ KeepB S S1 ∧ S9 = (sL S1 176 (Int32.toInt64 (asF (asA cn.2.2.2.2.2.2 z1.toNatClampNeg z2 z3) z1.toNatClampNeg cn.2.2.2.2.1))))) (fun v S9 h9 => by rcases h9 with ⟨e9, rfl, rfl⟩ | ⟨e9, rfl, rfl⟩ | h9 <;> first | exact Or.inr h9 | exact Or.inl ⟨by rw [e9]; decide, ⟨_, rfl⟩, rfl⟩)) wYW_L_ask wM_L_165 wSt_L_ask wI_L (by decide +kernel) rfl rfl dL_law_688 ⟨Nat.le_of_ble_eq_true rfl, Nat.le_of_ble_eq_true rfl⟩ (Nat.le_of_ble_eq_true rfl) (⟨by have := hgC.2; show cLw k gC gC + 1 ≤ 601024; unfold cLw; omega, by have := hgC.2; show sLw k gC gC + 6 ≤ 7293034; unfold sLw; omega⟩) (fun v U1 H locs hp w => ?_)
  rcases hp with ⟨hkC, ⟨k9, rfl⟩, rfl⟩ | ⟨hkC, rfl, S9, hC9, hB9, rfl⟩
  · refine lv_istore (lv' := [(5, .int k9), (0, .ref b), (1, .ref (gG S 10 0)), (2, .ref (gG S 16 0)), (3, .ref (gG S 11 0)), (4, .int (nI ii))]) hx hb dL_law_691 hl (by decide) rfl (fun ls hl => ?_)
    refine lv_aload_n hx hb dL_law_693 rfl (lv_at hl 3 rfl) ?_
    refine lv_aload_n hx hb dL_law_694 rfl (lv_at hl 1 rfl) ?_
    refine lv_iload hx hb dL_law_695 (lv_at hl 5 rfl) ?_
    refine lv_iconst (v := 1) hx hb dL_law_697 (by decide) ?_
    refine lv_iadd hx hb dL_law_698 ?_
    refine va_sld hx hb hX hbl (Nat.not_le.mpr hbl) w.2 (i := ((nI ii) + 1)) (by rw [show nI ii + 1 = nI (ii + 1) from nI_add ii 1]; exact nI_vp (by omega) (by omega)) dL_law_699 ?_
    refine lv_topi (fun z4 ez4 => ?_)
    refine lv_aload_n hx hb dL_law_700 rfl (lv_at hl 1 rfl) ?_
    refine lv_iload hx hb dL_law_701 (lv_at hl 5 rfl) ?_
    refine lv_iconst (v := 2) hx hb dL_law_703 (by decide) ?_
    refine lv_iadd hx hb dL_law_704 ?_
    refine va_sld hx hb hX hbl (Nat.not_le.mpr hbl) w.2 (i := ((nI ii) + 2)) (by rw [show nI ii + 2 = nI (ii + 2) from nI_add ii 2]; exact nI_vp (by omega) (by omega)) dL_law_705 ?_
    refine lv_topi (fun z5 ez5 => ?_)
    refine lv_aload_n hx hb dL_law_706 rfl (lv_at hl 1 rfl) ?_
    refine lv_iload hx hb dL_law_707 (lv_at hl 5 rfl) ?_
    refine lv_iconst (v := 3) hx hb dL_law_709 (by decide) ?_
    refine lv_iadd hx hb dL_law_710 ?_
    refine va_sld hx hb hX hbl (Nat.not_le.mpr hbl) w.2 (i := ((nI ii) + 3)) (by rw [show nI ii + 3 = nI (ii + 3) from nI_add ii 3]; exact nI_vp (by omega) (by omega)) dL_law_711 ?_
    refine lv_topi (fun z6 ez6 => ?_)
    obtain rfl : z1 = z4 := ez1.trans ez4.symm
    obtain rfl : z2 = z5 := ez2.trans ez5.symm
    obtain rfl : z3 = z6 := ez3.trans ez6.symm
    refine cV (S := S) (nA := 3) (As := [.int z1, .int z2, .int z3]) (rest := []) X w hl hR.v16 (k_X16_ask G S hR z1 z2 z3) wY_X16_ask wM_L_168 wIn_X16_ask wSe_X16_X16_ask wI_X16 (by decide) rfl (by decide +kernel) rfl rfl dL_law_712 ⟨Nat.le_of_ble_eq_true rfl, Nat.le_of_ble_eq_true rfl⟩ (Nat.le_of_ble_eq_true rfl) (⟨by have := hgC.2; show cLw k gC gC + 1 ≤ 601024; unfold cLw; omega, by have := hgC.2; show sLw k gC gC + 6 ≤ 7293034; unfold sLw; omega⟩) (fun v U2 H locs hp w => ?_)
    rcases hp with ⟨hkR, ⟨y9, rfl⟩, hX9, hk9, e256⟩ | ⟨hkR, -⟩
    · have hs : StpL s cn S U2 := StpL.ofR hX9 hk9
      rw [eX, eM, eO] at hl
      have hLI := hs _ _ _ _ hLI
      obtain ⟨hC, hR, hE, hO, hZs, hgC, eX, eM, eO⟩ := id hLI
      rw [← eX, ← eM, ← eO] at hl
      refine lv_istore (lv' := [(6, .int y9), (5, .int k9), (0, .ref b), (1, .ref (gG U2 10 0)), (2, .ref (gG U2 16 0)), (3, .ref (gG U2 11 0)), (4, .int (nI ii))]) hx hb dL_law_715 hl (by decide) rfl (fun ls hl => ?_)
      refine lv_goto (tgt := 1585) hx hb dL_law_717 (by decide) ?_
      refine W.widen (k := cLw (k + 1) gC gC) (n := sLw (k + 1) gC gC) (by show cLw k gC gC + 1 ≤ _; unfold cLw; omega) (by show sLw k gC gC + 6 ≤ _; unfold sLw; omega) ?_
      rw [eX, eM, eO] at hl
      exact K _ _ _ H locs _ hLI w (lv_sub hl [2, 3, 4, 5, 6] rfl)
    · exact absurd hkR hkC
  · obtain ⟨hR9, eX9, eM9, eO9⟩ := hLI.mid (Int32.toInt64 (asF (asA cn.2.2.2.2.2.2 z1.toNatClampNeg z2 z3) z1.toNatClampNeg cn.2.2.2.2.1)) hB9
    rw [eX, eM, eO] at hl
    rw [← eX9, ← eM9, ← eO9] at hl
    refine lv_istore (lv' := [(5, .int 0), (0, .ref b), (1, .ref (gG (sL S9 176 (Int32.toInt64 (asF (asA cn.2.2.2.2.2.2 z1.toNatClampNeg z2 z3) z1.toNatClampNeg cn.2.2.2.2.1))) 10 0)), (2, .ref (gG (sL S9 176 (Int32.toInt64 (asF (asA cn.2.2.2.2.2.2 z1.toNatClampNeg z2 z3) z1.toNatClampNeg cn.2.2.2.2.1))) 16 0)), (3, .ref (gG (sL S9 176 (Int32.toInt64 (asF (asA cn.2.2.2.2.2.2 z1.toNatClampNeg z2 z3) z1.toNatClampNeg cn.2.2.2.2.1))) 11 0)), (4, .int (nI ii))]) hx hb dL_law_691 hl (by decide) rfl (fun ls hl => ?_)
    refine lv_aload_n hx hb dL_law_693 rfl (lv_at hl 3 rfl) ?_
    refine lv_aload_n hx hb dL_law_694 rfl (lv_at hl 1 rfl) ?_
    refine lv_iload hx hb dL_law_695 (lv_at hl 5 rfl) ?_
    refine lv_iconst (v := 1) hx hb dL_law_697 (by decide) ?_
    refine lv_iadd hx hb dL_law_698 ?_
    refine va_sld hx hb hX hbl (Nat.not_le.mpr hbl) w.2 (i := ((nI ii) + 1)) (by rw [show nI ii + 1 = nI (ii + 1) from nI_add ii 1]; exact nI_vp (by omega) (by omega)) dL_law_699 ?_
    refine lv_topi (fun z7 ez7 => ?_)
    refine lv_aload_n hx hb dL_law_700 rfl (lv_at hl 1 rfl) ?_
    refine lv_iload hx hb dL_law_701 (lv_at hl 5 rfl) ?_
    refine lv_iconst (v := 2) hx hb dL_law_703 (by decide) ?_
    refine lv_iadd hx hb dL_law_704 ?_
    refine va_sld hx hb hX hbl (Nat.not_le.mpr hbl) w.2 (i := ((nI ii) + 2)) (by rw [show nI ii + 2 = nI (ii + 2) from nI_add ii 2]; exact nI_vp (by omega) (by omega)) dL_law_705 ?_
    refine lv_topi (fun z8 ez8 => ?_)
    refine lv_aload_n hx hb dL_law_706 rfl (lv_at hl 1 rfl) ?_
    refine lv_iload hx hb dL_law_707 (lv_at hl 5 rfl) ?_
    refine lv_iconst (v := 3) hx hb dL_law_709 (by decide) ?_
    refine lv_iadd hx hb dL_law_710 ?_
    refine va_sld hx hb hX hbl (Nat.not_le.mpr hbl) w.2 (i := ((nI ii) + 3)) (by rw [show nI ii + 3 = nI (ii + 3) from nI_add ii 3]; exact nI_vp (by omega) (by omega)) dL_law_711 ?_
    refine lv_topi (fun z9 ez9 => ?_)
    obtain rfl : z1 = z7 := ez1.trans ez7.symm
    obtain rfl : z2 = z8 := ez2.trans ez8.symm
    obtain rfl : z3 = z9 := ez3.trans ez9.symm
    refine cV (S := (sL S9 176 (Int32.toInt64 (asF (asA cn.2.2.2.2.2.2 z1.toNatClampNeg z2 z3) z1.toNatClampNeg cn.2.2.2.2.1)))) (nA := 3) (As := [.int z1, .int z2, .int z3]) (rest := []) X w hl hR9.v16 (k_X16_ask G (sL S9 176 (Int32.toInt64 (asF (asA cn.2.2.2.2.2.2 z1.toNatClampNeg z2 z3) z1.toNatClampNeg cn.2.2.2.2.1))) hR9 z1 z2 z3) wY_X16_ask wM_L_168 wIn_X16_ask wSe_X16_X16_ask wI_X16 (by decide) rfl (by decide +kernel) rfl rfl dL_law_712 ⟨Nat.le_of_ble_eq_true rfl, Nat.le_of_ble_eq_true rfl⟩ (Nat.le_of_ble_eq_true rfl) (⟨by have := hgC.2; show cLw k gC gC + 1 ≤ 601024; unfold cLw; omega, by have := hgC.2; show sLw k gC gC + 6 ≤ 7293034; unfold sLw; omega⟩) (fun v U2 H locs hp w => ?_)
    rcases hp with ⟨hkR, -⟩ | ⟨hkR, rfl, hX8, hB8, e256⟩
    · exact absurd hkC hkR
    · obtain ⟨hLI, eL9⟩ := hLI.told (gN := gC) hC9 hB9 hX8 hB8 hgC
      rw [eX9, eM9, eO9] at hl
      obtain ⟨hC, hR, hE, hO, hZs, hgC, eX, eM, eO⟩ := id hLI
      rw [← eX, ← eM, ← eO] at hl
      refine lv_istore (lv' := [(6, .int (asF (asA cn.2.2.2.2.2.2 z1.toNatClampNeg z2 z3) z1.toNatClampNeg cn.2.2.2.2.1)), (5, .int 0), (0, .ref b), (1, .ref (gG U2 10 0)), (2, .ref (gG U2 16 0)), (3, .ref (gG U2 11 0)), (4, .int (nI ii))]) hx hb dL_law_715 hl (by decide) rfl (fun ls hl => ?_)
      refine lv_goto (tgt := 1585) hx hb dL_law_717 (by decide) ?_
      refine W.widen (k := cLw (k + 1) gC gC) (n := sLw (k + 1) gC gC) (by show cLw k gC gC + 1 ≤ _; unfold cLw; omega) (by show sLw k gC gC + 6 ≤ _; unfold sLw; omega) ?_
      rw [eX, eM, eO] at hl
      exact K _ _ _ H locs _ hLI w (lv_sub hl [2, 3, 4, 5, 6] rfl)

theorem dL_law_720 : decode cL_law 720 = .ok (.aload_n 1, 1) := by decide +kernel
theorem dL_law_721 : decode cL_law 721 = .ok (.aload_n 0, 1) := by decide +kernel
theorem dL_law_722 : decode cL_law 722 = .ok (.iload 4, 2) := by decide +kernel
theorem dL_law_724 : decode cL_law 724 = .ok (.iconst 1, 1) := by decide +kernel
theorem dL_law_725 : decode cL_law 725 = .ok (.iadd, 1) := by decide +kernel
theorem dL_law_726 : decode cL_law 726 = .ok (.iaload, 1) := by decide +kernel
theorem dL_law_727 : decode cL_law 727 = .ok (.aload_n 3, 1) := by decide +kernel
theorem dL_law_728 : decode cL_law 728 = .ok (.invokestatic 169, 3) := by decide +kernel
theorem dL_law_731 : decode cL_law 731 = .ok (.istore 5, 2) := by decide +kernel
theorem dL_law_733 : decode cL_law 733 = .ok (.aload_n 2, 1) := by decide +kernel
theorem dL_law_734 : decode cL_law 734 = .ok (.aload_n 0, 1) := by decide +kernel
theorem dL_law_735 : decode cL_law 735 = .ok (.iload 4, 2) := by decide +kernel
theorem dL_law_737 : decode cL_law 737 = .ok (.iconst 1, 1) := by decide +kernel
theorem dL_law_738 : decode cL_law 738 = .ok (.iadd, 1) := by decide +kernel
theorem dL_law_739 : decode cL_law 739 = .ok (.iaload, 1) := by decide +kernel
theorem dL_law_740 : decode cL_law 740 = .ok (.invokevirtual 171, 3) := by decide +kernel
theorem dL_law_743 : decode cL_law 743 = .ok (.istore 6, 2) := by decide +kernel
theorem dL_law_745 : decode cL_law 745 = .ok (.goto 840, 3) := by decide +kernel
set_option maxHeartbeats 4000000 in
set_option maxRecDepth 100000 in
theorem lo_10 {s : State} {l : Launch} {D : va_G} {cy : Nat → ClassId} (G : Gl s l D cy) {p : Program} {e : Env} {m : MethodId} {below : List Frame} {meth : Method} {c : Code} {ret9 : Option FieldType} {b L : Nat} {xs : Nat → Int32} (X : Cx s l D cy p s m #[Value.ref b] meth c cL_law 8 "CavershamShiftLaw" ret9) (hX : va_X b L xs s s.heap) (hbl : b < s.heap.size) {S : HS} {H : Heap} {locs : List Loc} {ls : Array Slot} {ii k gC : Nat} {cn : Cn} {ax am ao : Nat} {Q : State → Prop} (w : Wd s D cy S s.heap H locs) (hl : lv_has ls 8 [(0, .ref b), (1, .ref ax), (2, .ref am), (3, .ref ao), (4, .int (nI ii))]) (hLI : LI s S gC cn ax am ao) (hi : ii + 7 ≤ L) (hL9 : L ≤ 3584) (hk : k ≤ 511) (K : ∀ (U : HS) (gC1 : Nat) (cn1 : Cn) (H : Heap) (locs : List Loc) (ls : Array Slot), LI s U gC1 cn1 ax am ao → Wd s D cy U s.heap H locs → lv_has ls 8 [(0, .ref b), (1, .ref ax), (2, .ref am), (3, .ref ao), (4, .int (nI ii))] → W p l e room_1 s m #[Value.ref b] below meth c H locs (cLw (k + 1) gC1 gC1) (sLw (k + 1) gC1 gC1) Q (F0 m 1585 ls [])) : W p l e room_1 s m #[Value.ref b] below meth c H locs (cLw k gC gC) (sLw k gC gC) Q (F0 m 720 ls []) := by
  have hx := X.1
  have hb := X.2.1
  have hown := X.2.2.2.1
  have hts := X.2.2.2.2.1
  obtain ⟨hC, hR, hE, hO, hZs, hgC, eX, eM, eO⟩ := id hLI
  rw [← eX, ← eM, ← eO] at hl
  refine lv_aload_n hx hb dL_law_720 rfl (lv_at hl 1 rfl) ?_
  refine lv_aload_n hx hb dL_law_721 rfl (lv_at hl 0 rfl) ?_
  refine lv_iload hx hb dL_law_722 (lv_at hl 4 rfl) ?_
  refine lv_iconst (v := 1) hx hb dL_law_724 (by decide) ?_
  refine lv_iadd hx hb dL_law_725 ?_
  refine va_sld hx hb hX hbl (Nat.not_le.mpr hbl) w.2 (i := ((nI ii) + 1)) (by rw [show nI ii + 1 = nI (ii + 1) from nI_add ii 1]; exact nI_vp (by omega) (by omega)) dL_law_726 ?_
  refine lv_topi (fun z1 ez1 => ?_)
  refine lv_aload_n hx hb dL_law_727 rfl (lv_at hl 3 rfl) ?_
  refine cSW (S := S) (nA := 3) (As := [.ref (gG S 10 0), .int z1, .ref (gG S 11 0)]) (rest := []) X w hl (w_L_partner G S hC hO hC.v10 z1) wYW_L_partner wM_L_169 wSt_L_partner wI_L (by decide +kernel) rfl rfl dL_law_728 ⟨Nat.le_of_ble_eq_true rfl, Nat.le_of_ble_eq_true rfl⟩ (Nat.le_of_ble_eq_true rfl) (⟨by have := hgC.2; show cLw k gC gC + 1 ≤ 601024; unfold cLw; omega, by have := hgC.2; show sLw k gC gC + 6 ≤ 7293034; unfold sLw; omega⟩) (fun v U1 H locs hp w => ?_)
  rcases hp with ⟨hkC, rfl, rfl⟩ | ⟨hkC, rfl, S9, hC9, hB9, rfl⟩
  · refine lv_istore (lv' := [(5, .int 1), (0, .ref b), (1, .ref (gG S 10 0)), (2, .ref (gG S 16 0)), (3, .ref (gG S 11 0)), (4, .int (nI ii))]) hx hb dL_law_731 hl (by decide) rfl (fun ls hl => ?_)
    refine lv_aload_n hx hb dL_law_733 rfl (lv_at hl 3 rfl) ?_
    refine lv_aload_n hx hb dL_law_734 rfl (lv_at hl 1 rfl) ?_
    refine lv_iload hx hb dL_law_735 (lv_at hl 5 rfl) ?_
    refine lv_iconst (v := 1) hx hb dL_law_737 (by decide) ?_
    refine lv_iadd hx hb dL_law_738 ?_
    refine va_sld hx hb hX hbl (Nat.not_le.mpr hbl) w.2 (i := ((nI ii) + 1)) (by rw [show nI ii + 1 = nI (ii + 1) from nI_add ii 1]; exact nI_vp (by omega) (by omega)) dL_law_739 ?_
    refine lv_topi (fun z2 ez2 => ?_)
    obtain rfl : z1 = z2 := ez1.trans ez2.symm
    refine cV (S := S) (nA := 1) (As := [.int z1]) (rest := []) X w hl hR.v16 (k_X16_partner G S hR z1) wY_X16_partner wM_L_171 wIn_X16_partner wSe_X16_X16_partner wI_X16 (by decide) rfl (by decide +kernel) rfl rfl dL_law_740 ⟨Nat.le_of_ble_eq_true rfl, Nat.le_of_ble_eq_true rfl⟩ (Nat.le_of_ble_eq_true rfl) (⟨by have := hgC.2; show cLw k gC gC + 1 ≤ 601024; unfold cLw; omega, by have := hgC.2; show sLw k gC gC + 6 ≤ 7293034; unfold sLw; omega⟩) (fun v U2 H locs hp w => ?_)
    rcases hp with ⟨hkR, ⟨y9, rfl⟩, hX9, hk9, e256⟩ | ⟨hkR, -⟩
    · rw [hkC] at e256
      have hs : StpL s cn S U2 := StpL.ofR hX9 hk9
      rw [eX, eM, eO] at hl
      have hLI := hs _ _ _ _ hLI
      obtain ⟨hC, hR, hE, hO, hZs, hgC, eX, eM, eO⟩ := id hLI
      rw [← eX, ← eM, ← eO] at hl
      refine lv_istore (lv' := [(6, .int y9), (5, .int 1), (0, .ref b), (1, .ref (gG U2 10 0)), (2, .ref (gG U2 16 0)), (3, .ref (gG U2 11 0)), (4, .int (nI ii))]) hx hb dL_law_743 hl (by decide) rfl (fun ls hl => ?_)
      refine lv_goto (tgt := 1585) hx hb dL_law_745 (by decide) ?_
      refine W.widen (k := cLw (k + 1) gC gC) (n := sLw (k + 1) gC gC) (by show cLw k gC gC + 1 ≤ _; unfold cLw; omega) (by show sLw k gC gC + 6 ≤ _; unfold sLw; omega) ?_
      rw [eX, eM, eO] at hl
      exact K _ _ _ H locs _ hLI w (lv_sub hl [2, 3, 4, 5, 6] rfl)
    · exact absurd (hkC.symm.trans hkR) (by decide)
  · obtain ⟨hR9, eX9, eM9, eO9⟩ := hLI.mid (Int32.toInt64 (mI cn.2.2.2.2.2.2 259 0)) hB9
    rw [eX, eM, eO] at hl
    rw [← eX9, ← eM9, ← eO9] at hl
    refine lv_istore (lv' := [(5, .int 0), (0, .ref b), (1, .ref (gG (sL S9 176 (Int32.toInt64 (mI cn.2.2.2.2.2.2 259 0))) 10 0)), (2, .ref (gG (sL S9 176 (Int32.toInt64 (mI cn.2.2.2.2.2.2 259 0))) 16 0)), (3, .ref (gG (sL S9 176 (Int32.toInt64 (mI cn.2.2.2.2.2.2 259 0))) 11 0)), (4, .int (nI ii))]) hx hb dL_law_731 hl (by decide) rfl (fun ls hl => ?_)
    refine lv_aload_n hx hb dL_law_733 rfl (lv_at hl 3 rfl) ?_
    refine lv_aload_n hx hb dL_law_734 rfl (lv_at hl 1 rfl) ?_
    refine lv_iload hx hb dL_law_735 (lv_at hl 5 rfl) ?_
    refine lv_iconst (v := 1) hx hb dL_law_737 (by decide) ?_
    refine lv_iadd hx hb dL_law_738 ?_
    refine va_sld hx hb hX hbl (Nat.not_le.mpr hbl) w.2 (i := ((nI ii) + 1)) (by rw [show nI ii + 1 = nI (ii + 1) from nI_add ii 1]; exact nI_vp (by omega) (by omega)) dL_law_739 ?_
    refine lv_topi (fun z3 ez3 => ?_)
    obtain rfl : z1 = z3 := ez1.trans ez3.symm
    refine cV (S := (sL S9 176 (Int32.toInt64 (mI cn.2.2.2.2.2.2 259 0)))) (nA := 1) (As := [.int z1]) (rest := []) X w hl hR9.v16 (k_X16_partner G (sL S9 176 (Int32.toInt64 (mI cn.2.2.2.2.2.2 259 0))) hR9 z1) wY_X16_partner wM_L_171 wIn_X16_partner wSe_X16_X16_partner wI_X16 (by decide) rfl (by decide +kernel) rfl rfl dL_law_740 ⟨Nat.le_of_ble_eq_true rfl, Nat.le_of_ble_eq_true rfl⟩ (Nat.le_of_ble_eq_true rfl) (⟨by have := hgC.2; show cLw k gC gC + 1 ≤ 601024; unfold cLw; omega, by have := hgC.2; show sLw k gC gC + 6 ≤ 7293034; unfold sLw; omega⟩) (fun v U2 H locs hp w => ?_)
    rcases hp with ⟨hkR, -⟩ | ⟨hkR, rfl, hX8, hB8, e256⟩
    · exact absurd hkC hkR
    · obtain ⟨hLI, eL9⟩ := hLI.told (gN := gC) hC9 hB9 hX8 hB8 hgC
      rw [eX9, eM9, eO9] at hl
      obtain ⟨hC, hR, hE, hO, hZs, hgC, eX, eM, eO⟩ := id hLI
      rw [← eX, ← eM, ← eO] at hl
      refine lv_istore (lv' := [(6, .int (mI cn.2.2.2.2.2.2 259 0)), (5, .int 0), (0, .ref b), (1, .ref (gG U2 10 0)), (2, .ref (gG U2 16 0)), (3, .ref (gG U2 11 0)), (4, .int (nI ii))]) hx hb dL_law_743 hl (by decide) rfl (fun ls hl => ?_)
      refine lv_goto (tgt := 1585) hx hb dL_law_745 (by decide) ?_
      refine W.widen (k := cLw (k + 1) gC gC) (n := sLw (k + 1) gC gC) (by show cLw k gC gC + 1 ≤ _; unfold cLw; omega) (by show sLw k gC gC + 6 ≤ _; unfold sLw; omega) ?_
      rw [eX, eM, eO] at hl
      exact K _ _ _ H locs _ hLI w (lv_sub hl [2, 3, 4, 5, 6] rfl)

theorem dL_law_748 : decode cL_law 748 = .ok (.aload_n 1, 1) := by decide +kernel
theorem dL_law_749 : decode cL_law 749 = .ok (.aload_n 0, 1) := by decide +kernel
theorem dL_law_750 : decode cL_law 750 = .ok (.iload 4, 2) := by decide +kernel
theorem dL_law_752 : decode cL_law 752 = .ok (.iconst 1, 1) := by decide +kernel
theorem dL_law_753 : decode cL_law 753 = .ok (.iadd, 1) := by decide +kernel
theorem dL_law_754 : decode cL_law 754 = .ok (.iaload, 1) := by decide +kernel
theorem dL_law_755 : decode cL_law 755 = .ok (.aload_n 3, 1) := by decide +kernel
theorem dL_law_756 : decode cL_law 756 = .ok (.invokestatic 172, 3) := by decide +kernel
theorem dL_law_759 : decode cL_law 759 = .ok (.istore 5, 2) := by decide +kernel
theorem dL_law_761 : decode cL_law 761 = .ok (.aload_n 2, 1) := by decide +kernel
theorem dL_law_762 : decode cL_law 762 = .ok (.aload_n 0, 1) := by decide +kernel
theorem dL_law_763 : decode cL_law 763 = .ok (.iload 4, 2) := by decide +kernel
theorem dL_law_765 : decode cL_law 765 = .ok (.iconst 1, 1) := by decide +kernel
theorem dL_law_766 : decode cL_law 766 = .ok (.iadd, 1) := by decide +kernel
theorem dL_law_767 : decode cL_law 767 = .ok (.iaload, 1) := by decide +kernel
theorem dL_law_768 : decode cL_law 768 = .ok (.invokevirtual 174, 3) := by decide +kernel
theorem dL_law_771 : decode cL_law 771 = .ok (.istore 6, 2) := by decide +kernel
theorem dL_law_773 : decode cL_law 773 = .ok (.goto 812, 3) := by decide +kernel
set_option maxHeartbeats 4000000 in
set_option maxRecDepth 100000 in
theorem lo_11 {s : State} {l : Launch} {D : va_G} {cy : Nat → ClassId} (G : Gl s l D cy) {p : Program} {e : Env} {m : MethodId} {below : List Frame} {meth : Method} {c : Code} {ret9 : Option FieldType} {b L : Nat} {xs : Nat → Int32} (X : Cx s l D cy p s m #[Value.ref b] meth c cL_law 8 "CavershamShiftLaw" ret9) (hX : va_X b L xs s s.heap) (hbl : b < s.heap.size) {S : HS} {H : Heap} {locs : List Loc} {ls : Array Slot} {ii k gC : Nat} {cn : Cn} {ax am ao : Nat} {Q : State → Prop} (w : Wd s D cy S s.heap H locs) (hl : lv_has ls 8 [(0, .ref b), (1, .ref ax), (2, .ref am), (3, .ref ao), (4, .int (nI ii))]) (hLI : LI s S gC cn ax am ao) (hi : ii + 7 ≤ L) (hL9 : L ≤ 3584) (hk : k ≤ 511) (K : ∀ (U : HS) (gC1 : Nat) (cn1 : Cn) (H : Heap) (locs : List Loc) (ls : Array Slot), LI s U gC1 cn1 ax am ao → Wd s D cy U s.heap H locs → lv_has ls 8 [(0, .ref b), (1, .ref ax), (2, .ref am), (3, .ref ao), (4, .int (nI ii))] → W p l e room_1 s m #[Value.ref b] below meth c H locs (cLw (k + 1) gC1 gC1) (sLw (k + 1) gC1 gC1) Q (F0 m 1585 ls [])) : W p l e room_1 s m #[Value.ref b] below meth c H locs (cLw k gC gC) (sLw k gC gC) Q (F0 m 748 ls []) := by
  have hx := X.1
  have hb := X.2.1
  have hown := X.2.2.2.1
  have hts := X.2.2.2.2.1
  obtain ⟨hC, hR, hE, hO, hZs, hgC, eX, eM, eO⟩ := id hLI
  rw [← eX, ← eM, ← eO] at hl
  refine lv_aload_n hx hb dL_law_748 rfl (lv_at hl 1 rfl) ?_
  refine lv_aload_n hx hb dL_law_749 rfl (lv_at hl 0 rfl) ?_
  refine lv_iload hx hb dL_law_750 (lv_at hl 4 rfl) ?_
  refine lv_iconst (v := 1) hx hb dL_law_752 (by decide) ?_
  refine lv_iadd hx hb dL_law_753 ?_
  refine va_sld hx hb hX hbl (Nat.not_le.mpr hbl) w.2 (i := ((nI ii) + 1)) (by rw [show nI ii + 1 = nI (ii + 1) from nI_add ii 1]; exact nI_vp (by omega) (by omega)) dL_law_754 ?_
  refine lv_topi (fun z1 ez1 => ?_)
  refine lv_aload_n hx hb dL_law_755 rfl (lv_at hl 3 rfl) ?_
  by_cases hbad : psK (nI cn.2.2.2.2.2.1) z1 = 0
  · have h48 := psK_a hbad
    obtain ⟨n, hn1, hn48, rfl⟩ := so_48 h48.1
    have hgc1 := hgC.1
    have hgc2 := hgC.2
    have hgn : cn.2.2.2.2.2.1 + n ≤ 720 := Nat.le_of_not_lt (fun y => h48.2 (by rw [nI_add]; exact (nI_ltI (a := 720) (b := cn.2.2.2.2.2.1 + n) (by decide) (by omega)).mpr y))
    refine cSW (S := S) (nA := 3) (As := [.ref (gG S 10 0), .int (nI n), .ref (gG S 11 0)]) (rest := []) X w hl (w_L_pass_n G S hC hO hC.v10 n hn1 hn48 hgn) wYW_L_pass wM_L_172 wSt_L_pass wI_L (by decide +kernel) rfl rfl dL_law_756 ⟨Nat.le_of_ble_eq_true rfl, Nat.le_of_ble_eq_true rfl⟩ (Nat.le_of_ble_eq_true rfl) (⟨by show cLw k gC gC + 80 * n ≤ 601024; unfold cLw; omega, by show sLw k gC gC + 2480 * n ≤ 7293034; unfold sLw; omega⟩) (fun v U1 H locs hp w => ?_)
    refine W.widen (k := cLw k (gC + n) gC) (n := sLw k (gC + n) gC) (by show cLw k gC gC + 80 * n ≤ _; unfold cLw; omega) (by show sLw k gC gC + 2480 * n ≤ _; unfold sLw; omega) ?_
    obtain ⟨rfl, S9, hC9, hB9, rfl⟩ := hp
    obtain ⟨hR9, eX9, eM9, eO9⟩ := hLI.mid (Int32.toInt64 (nI (cn.2.2.2.2.2.1 + n))) hB9
    rw [eX, eM, eO] at hl
    rw [← eX9, ← eM9, ← eO9] at hl
    refine lv_istore (lv' := [(5, .int 0), (0, .ref b), (1, .ref (gG (sL S9 176 (Int32.toInt64 (nI (cn.2.2.2.2.2.1 + n)))) 10 0)), (2, .ref (gG (sL S9 176 (Int32.toInt64 (nI (cn.2.2.2.2.2.1 + n)))) 16 0)), (3, .ref (gG (sL S9 176 (Int32.toInt64 (nI (cn.2.2.2.2.2.1 + n)))) 11 0)), (4, .int (nI ii))]) hx hb dL_law_759 hl (by decide) rfl (fun ls hl => ?_)
    refine lv_aload_n hx hb dL_law_761 rfl (lv_at hl 3 rfl) ?_
    refine lv_aload_n hx hb dL_law_762 rfl (lv_at hl 1 rfl) ?_
    refine lv_iload hx hb dL_law_763 (lv_at hl 5 rfl) ?_
    refine lv_iconst (v := 1) hx hb dL_law_765 (by decide) ?_
    refine lv_iadd hx hb dL_law_766 ?_
    refine va_sld hx hb hX hbl (Nat.not_le.mpr hbl) w.2 (i := ((nI ii) + 1)) (by rw [show nI ii + 1 = nI (ii + 1) from nI_add ii 1]; exact nI_vp (by omega) (by omega)) dL_law_767 ?_
    refine lv_topi (fun z2 ez2 => ?_)
    obtain rfl : z2 = nI n := ez2.trans ez1.symm
    refine cV (S := (sL S9 176 (Int32.toInt64 (nI (cn.2.2.2.2.2.1 + n))))) (nA := 1) (As := [.int (nI n)]) (rest := []) X w hl hR9.v16 (k_X16_pass_n G (sL S9 176 (Int32.toInt64 (nI (cn.2.2.2.2.2.1 + n)))) hR9 n hn1 hn48 hgn) wY_X16_pass wM_L_174 wIn_X16_pass wSe_X16_X16_pass wI_X16 (by decide) rfl (by decide +kernel) rfl rfl dL_law_768 ⟨Nat.le_of_ble_eq_true rfl, Nat.le_of_ble_eq_true rfl⟩ (Nat.le_of_ble_eq_true rfl) (⟨by show cLw k (gC + n) gC + 12 * n ≤ 601024; unfold cLw; omega, by show sLw k (gC + n) gC + 455 * n ≤ 7293034; unfold sLw; omega⟩) (fun v U2 H locs hp w => ?_)
    obtain ⟨rfl, hX8, hB8, e256⟩ := hp
    obtain ⟨hLI, eL9⟩ := hLI.told (gN := gC + n) hC9 hB9 hX8 hB8 ⟨(by show cn.2.2.2.2.2.1 + n = gC + n; rw [hgc1]), (by omega)⟩
    rw [eX9, eM9, eO9] at hl
    obtain ⟨hC, hR, hE, hO, hZs, hgC, eX, eM, eO⟩ := id hLI
    rw [← eX, ← eM, ← eO] at hl
    refine W.widen (k := cLw k (gC + n) (gC + n)) (n := sLw k (gC + n) (gC + n)) (by show cLw k (gC + n) gC + 12 * n ≤ _; unfold cLw; omega) (by show sLw k (gC + n) gC + 455 * n ≤ _; unfold sLw; omega) ?_
    refine lv_istore (lv' := [(6, .int (nI (cn.2.2.2.2.2.1 + n))), (5, .int 0), (0, .ref b), (1, .ref (gG U2 10 0)), (2, .ref (gG U2 16 0)), (3, .ref (gG U2 11 0)), (4, .int (nI ii))]) hx hb dL_law_771 hl (by decide) rfl (fun ls hl => ?_)
    refine lv_goto (tgt := 1585) hx hb dL_law_773 (by decide) ?_
    refine W.widen (k := cLw (k + 1) (gC + n) (gC + n)) (n := sLw (k + 1) (gC + n) (gC + n)) (by show cLw k (gC + n) (gC + n) + 0 ≤ _; unfold cLw; omega) (by show sLw k (gC + n) (gC + n) + 0 ≤ _; unfold sLw; omega) ?_
    rw [eX, eM, eO] at hl
    exact K _ _ _ H locs _ hLI w (lv_sub hl [2, 3, 4, 5, 6] rfl)
  · refine cSW (S := S) (nA := 3) (As := [.ref (gG S 10 0), .int z1, .ref (gG S 11 0)]) (rest := []) X w hl (w_L_pass_x G S hC hO hC.v10 z1 hbad) wYW_L_pass wM_L_172 wSt_L_pass wI_L (by decide +kernel) rfl rfl dL_law_756 ⟨Nat.le_of_ble_eq_true rfl, Nat.le_of_ble_eq_true rfl⟩ (Nat.le_of_ble_eq_true rfl) (⟨by have := hgC.2; show cLw k gC gC + 1 ≤ 601024; unfold cLw; omega, by have := hgC.2; show sLw k gC gC + 6 ≤ 7293034; unfold sLw; omega⟩) (fun v U1 H locs hp w => ?_)
    rcases hp with ⟨hkC, rfl, rfl⟩ | ⟨hkC, rfl, rfl⟩
    · refine lv_istore (lv' := [(5, .int 1), (0, .ref b), (1, .ref (gG S 10 0)), (2, .ref (gG S 16 0)), (3, .ref (gG S 11 0)), (4, .int (nI ii))]) hx hb dL_law_759 hl (by decide) rfl (fun ls hl => ?_)
      refine lv_aload_n hx hb dL_law_761 rfl (lv_at hl 3 rfl) ?_
      refine lv_aload_n hx hb dL_law_762 rfl (lv_at hl 1 rfl) ?_
      refine lv_iload hx hb dL_law_763 (lv_at hl 5 rfl) ?_
      refine lv_iconst (v := 1) hx hb dL_law_765 (by decide) ?_
      refine lv_iadd hx hb dL_law_766 ?_
      refine va_sld hx hb hX hbl (Nat.not_le.mpr hbl) w.2 (i := ((nI ii) + 1)) (by rw [show nI ii + 1 = nI (ii + 1) from nI_add ii 1]; exact nI_vp (by omega) (by omega)) dL_law_767 ?_
      refine lv_topi (fun z3 ez3 => ?_)
      obtain rfl : z1 = z3 := ez1.trans ez3.symm
      refine cV (S := S) (nA := 1) (As := [.int z1]) (rest := []) X w hl hR.v16 (k_X16_pass_x G S hR z1 hbad) wY_X16_pass wM_L_174 wIn_X16_pass wSe_X16_X16_pass wI_X16 (by decide) rfl (by decide +kernel) rfl rfl dL_law_768 ⟨Nat.le_of_ble_eq_true rfl, Nat.le_of_ble_eq_true rfl⟩ (Nat.le_of_ble_eq_true rfl) (⟨by have := hgC.2; show cLw k gC gC + 1 ≤ 601024; unfold cLw; omega, by have := hgC.2; show sLw k gC gC + 6 ≤ 7293034; unfold sLw; omega⟩) (fun v U2 H locs hp w => ?_)
      rcases hp with ⟨hkR, ⟨y9, rfl⟩, hX9, hk9, e256⟩ | ⟨hkR, -⟩
      · rw [hkC] at e256
        have hs : StpL s cn S U2 := StpL.ofR hX9 hk9
        rw [eX, eM, eO] at hl
        have hLI := hs _ _ _ _ hLI
        obtain ⟨hC, hR, hE, hO, hZs, hgC, eX, eM, eO⟩ := id hLI
        rw [← eX, ← eM, ← eO] at hl
        refine lv_istore (lv' := [(6, .int y9), (5, .int 1), (0, .ref b), (1, .ref (gG U2 10 0)), (2, .ref (gG U2 16 0)), (3, .ref (gG U2 11 0)), (4, .int (nI ii))]) hx hb dL_law_771 hl (by decide) rfl (fun ls hl => ?_)
        refine lv_goto (tgt := 1585) hx hb dL_law_773 (by decide) ?_
        refine W.widen (k := cLw (k + 1) gC gC) (n := sLw (k + 1) gC gC) (by show cLw k gC gC + 1 ≤ _; unfold cLw; omega) (by show sLw k gC gC + 6 ≤ _; unfold sLw; omega) ?_
        rw [eX, eM, eO] at hl
        exact K _ _ _ H locs _ hLI w (lv_sub hl [2, 3, 4, 5, 6] rfl)
      · exact absurd hkR hbad
    · refine lv_istore (lv' := [(5, .int 2), (0, .ref b), (1, .ref (gG S 10 0)), (2, .ref (gG S 16 0)), (3, .ref (gG S 11 0)), (4, .int (nI ii))]) hx hb dL_law_759 hl (by decide) rfl (fun ls hl => ?_)
      refine lv_aload_n hx hb dL_law_761 rfl (lv_at hl 3 rfl) ?_
      refine lv_aload_n hx hb dL_law_762 rfl (lv_at hl 1 rfl) ?_
      refine lv_iload hx hb dL_law_763 (lv_at hl 5 rfl) ?_
      refine lv_iconst (v := 1) hx hb dL_law_765 (by decide) ?_
      refine lv_iadd hx hb dL_law_766 ?_
      refine va_sld hx hb hX hbl (Nat.not_le.mpr hbl) w.2 (i := ((nI ii) + 1)) (by rw [show nI ii + 1 = nI (ii + 1) from nI_add ii 1]; exact nI_vp (by omega) (by omega)) dL_law_767 ?_
      refine lv_topi (fun z4 ez4 => ?_)
      obtain rfl : z1 = z4 := ez1.trans ez4.symm
      refine cV (S := S) (nA := 1) (As := [.int z1]) (rest := []) X w hl hR.v16 (k_X16_pass_x G S hR z1 hbad) wY_X16_pass wM_L_174 wIn_X16_pass wSe_X16_X16_pass wI_X16 (by decide) rfl (by decide +kernel) rfl rfl dL_law_768 ⟨Nat.le_of_ble_eq_true rfl, Nat.le_of_ble_eq_true rfl⟩ (Nat.le_of_ble_eq_true rfl) (⟨by have := hgC.2; show cLw k gC gC + 1 ≤ 601024; unfold cLw; omega, by have := hgC.2; show sLw k gC gC + 6 ≤ 7293034; unfold sLw; omega⟩) (fun v U2 H locs hp w => ?_)
      rcases hp with ⟨hkR, ⟨y9, rfl⟩, hX9, hk9, e256⟩ | ⟨hkR, -⟩
      · rw [hkC] at e256
        have hs : StpL s cn S U2 := StpL.ofR hX9 hk9
        rw [eX, eM, eO] at hl
        have hLI := hs _ _ _ _ hLI
        obtain ⟨hC, hR, hE, hO, hZs, hgC, eX, eM, eO⟩ := id hLI
        rw [← eX, ← eM, ← eO] at hl
        refine lv_istore (lv' := [(6, .int y9), (5, .int 2), (0, .ref b), (1, .ref (gG U2 10 0)), (2, .ref (gG U2 16 0)), (3, .ref (gG U2 11 0)), (4, .int (nI ii))]) hx hb dL_law_771 hl (by decide) rfl (fun ls hl => ?_)
        refine lv_goto (tgt := 1585) hx hb dL_law_773 (by decide) ?_
        refine W.widen (k := cLw (k + 1) gC gC) (n := sLw (k + 1) gC gC) (by show cLw k gC gC + 1 ≤ _; unfold cLw; omega) (by show sLw k gC gC + 6 ≤ _; unfold sLw; omega) ?_
        rw [eX, eM, eO] at hl
        exact K _ _ _ H locs _ hLI w (lv_sub hl [2, 3, 4, 5, 6] rfl)
      · exact absurd hkR hbad

theorem dL_law_776 : decode cL_law 776 = .ok (.aload_n 1, 1) := by decide +kernel
theorem dL_law_777 : decode cL_law 777 = .ok (.invokevirtual 175, 3) := by decide +kernel
theorem dL_law_780 : decode cL_law 780 = .ok (.pop, 1) := by decide +kernel
theorem dL_law_781 : decode cL_law 781 = .ok (.aload_n 2, 1) := by decide +kernel
theorem dL_law_782 : decode cL_law 782 = .ok (.invokevirtual 179, 3) := by decide +kernel
theorem dL_law_785 : decode cL_law 785 = .ok (.pop, 1) := by decide +kernel
theorem dL_law_786 : decode cL_law 786 = .ok (.goto 799, 3) := by decide +kernel
set_option maxHeartbeats 4000000 in
set_option maxRecDepth 100000 in
theorem lo_12 {s : State} {l : Launch} {D : va_G} {cy : Nat → ClassId} (G : Gl s l D cy) {p : Program} {e : Env} {m : MethodId} {below : List Frame} {meth : Method} {c : Code} {ret9 : Option FieldType} {b L : Nat} {xs : Nat → Int32} (X : Cx s l D cy p s m #[Value.ref b] meth c cL_law 8 "CavershamShiftLaw" ret9) (hX : va_X b L xs s s.heap) (hbl : b < s.heap.size) {S : HS} {H : Heap} {locs : List Loc} {ls : Array Slot} {ii k gC : Nat} {cn : Cn} {ax am ao : Nat} {Q : State → Prop} (w : Wd s D cy S s.heap H locs) (hl : lv_has ls 8 [(0, .ref b), (1, .ref ax), (2, .ref am), (3, .ref ao), (4, .int (nI ii))]) (hLI : LI s S gC cn ax am ao) (hi : ii + 7 ≤ L) (hL9 : L ≤ 3584) (hk : k ≤ 511) (K : ∀ (U : HS) (gC1 : Nat) (cn1 : Cn) (H : Heap) (locs : List Loc) (ls : Array Slot), LI s U gC1 cn1 ax am ao → Wd s D cy U s.heap H locs → lv_has ls 8 [(0, .ref b), (1, .ref ax), (2, .ref am), (3, .ref ao), (4, .int (nI ii))] → W p l e room_1 s m #[Value.ref b] below meth c H locs (cLw (k + 1) gC1 gC1) (sLw (k + 1) gC1 gC1) Q (F0 m 1585 ls [])) : W p l e room_1 s m #[Value.ref b] below meth c H locs (cLw k gC gC) (sLw k gC gC) Q (F0 m 776 ls []) := by
  have hx := X.1
  have hb := X.2.1
  have hown := X.2.2.2.1
  have hts := X.2.2.2.2.1
  obtain ⟨hC, hR, hE, hO, hZs, hgC, eX, eM, eO⟩ := id hLI
  rw [← eX, ← eM, ← eO] at hl
  refine lv_aload_n hx hb dL_law_776 rfl (lv_at hl 1 rfl) ?_
  refine cV (S := S) (nA := 0) (As := []) (rest := []) X w hl hC.v10 (k_X10_call G S hC) wY_X10_call wM_L_175 wIn_X10_call wSe_X10_X10_call wI_X10 (by decide) rfl (by decide +kernel) rfl rfl dL_law_777 ⟨Nat.le_of_ble_eq_true rfl, Nat.le_of_ble_eq_true rfl⟩ (Nat.le_of_ble_eq_true rfl) (⟨by have := hgC.2; show cLw k gC gC + 0 ≤ 601024; unfold cLw; omega, by have := hgC.2; show sLw k gC gC + 0 ≤ 7293034; unfold sLw; omega⟩) (fun v S1 H locs hp w => ?_)
  obtain ⟨rfl, rfl⟩ := hp
  refine lv_pop hx hb dL_law_780 rfl ?_
  refine lv_aload_n hx hb dL_law_781 rfl (lv_at hl 2 rfl) ?_
  refine cV (S := (sI S 165 0 (mI S 165 0 + 1))) (nA := 0) (As := []) (rest := []) X w hl hR.v16 (k_X16_call G (sI S 165 0 (mI S 165 0 + 1)) hR.s165) wY_X16_call wM_L_179 wIn_X16_call wSe_X16_X16_call wI_X16 (by decide) rfl (by decide +kernel) rfl rfl dL_law_782 ⟨Nat.le_of_ble_eq_true rfl, Nat.le_of_ble_eq_true rfl⟩ (Nat.le_of_ble_eq_true rfl) (⟨by have := hgC.2; show cLw k gC gC + 0 ≤ 601024; unfold cLw; omega, by have := hgC.2; show sLw k gC gC + 0 ≤ 7293034; unfold sLw; omega⟩) (fun v S2 H locs hp w => ?_)
  obtain ⟨rfl, rfl⟩ := hp
  have e9 : mI (sI S 165 0 (mI S 165 0 + 1)) 260 0 = mI S 165 0 := hE.symm
  rw [e9] at w
  have hLI := hLI.call (x := mI S 165 0 + 1)
  refine lv_topi (fun z9 ez9 => ?_)
  obtain rfl : z9 = mI S 165 0 + 1 := ez9.trans (by rw [e9])
  refine lv_pop hx hb dL_law_785 rfl ?_
  refine lv_goto (tgt := 1585) hx hb dL_law_786 (by decide) ?_
  refine W.widen (k := cLw (k + 1) gC gC) (n := sLw (k + 1) gC gC) (by show cLw k gC gC + 0 ≤ _; unfold cLw; omega) (by show sLw k gC gC + 0 ≤ _; unfold sLw; omega) ?_
  rw [eX, eM, eO] at hl
  exact K _ _ _ H locs _ hLI w (lv_sub hl [0, 1, 2, 3, 4] rfl)

theorem dL_law_789 : decode cL_law 789 = .ok (.aload_n 1, 1) := by decide +kernel
theorem dL_law_790 : decode cL_law 790 = .ok (.aload_n 0, 1) := by decide +kernel
theorem dL_law_791 : decode cL_law 791 = .ok (.iload 4, 2) := by decide +kernel
theorem dL_law_793 : decode cL_law 793 = .ok (.iconst 1, 1) := by decide +kernel
theorem dL_law_794 : decode cL_law 794 = .ok (.iadd, 1) := by decide +kernel
theorem dL_law_795 : decode cL_law 795 = .ok (.iaload, 1) := by decide +kernel
theorem dL_law_796 : decode cL_law 796 = .ok (.aload_n 0, 1) := by decide +kernel
theorem dL_law_797 : decode cL_law 797 = .ok (.iload 4, 2) := by decide +kernel
theorem dL_law_799 : decode cL_law 799 = .ok (.iconst 2, 1) := by decide +kernel
theorem dL_law_800 : decode cL_law 800 = .ok (.iadd, 1) := by decide +kernel
theorem dL_law_801 : decode cL_law 801 = .ok (.iaload, 1) := by decide +kernel
theorem dL_law_802 : decode cL_law 802 = .ok (.aload_n 3, 1) := by decide +kernel
theorem dL_law_803 : decode cL_law 803 = .ok (.invokestatic 180, 3) := by decide +kernel
theorem dL_law_806 : decode cL_law 806 = .ok (.istore 5, 2) := by decide +kernel
theorem dL_law_808 : decode cL_law 808 = .ok (.aload_n 2, 1) := by decide +kernel
theorem dL_law_809 : decode cL_law 809 = .ok (.aload_n 0, 1) := by decide +kernel
theorem dL_law_810 : decode cL_law 810 = .ok (.iload 4, 2) := by decide +kernel
theorem dL_law_812 : decode cL_law 812 = .ok (.iconst 1, 1) := by decide +kernel
theorem dL_law_813 : decode cL_law 813 = .ok (.iadd, 1) := by decide +kernel
theorem dL_law_814 : decode cL_law 814 = .ok (.iaload, 1) := by decide +kernel
theorem dL_law_815 : decode cL_law 815 = .ok (.aload_n 0, 1) := by decide +kernel
theorem dL_law_816 : decode cL_law 816 = .ok (.iload 4, 2) := by decide +kernel
theorem dL_law_818 : decode cL_law 818 = .ok (.iconst 2, 1) := by decide +kernel
theorem dL_law_819 : decode cL_law 819 = .ok (.iadd, 1) := by decide +kernel
theorem dL_law_820 : decode cL_law 820 = .ok (.iaload, 1) := by decide +kernel
theorem dL_law_821 : decode cL_law 821 = .ok (.invokevirtual 182, 3) := by decide +kernel
theorem dL_law_824 : decode cL_law 824 = .ok (.istore 6, 2) := by decide +kernel
theorem dL_law_826 : decode cL_law 826 = .ok (.goto 759, 3) := by decide +kernel
set_option maxHeartbeats 4000000 in
set_option maxRecDepth 100000 in
theorem lo_13 {s : State} {l : Launch} {D : va_G} {cy : Nat → ClassId} (G : Gl s l D cy) {p : Program} {e : Env} {m : MethodId} {below : List Frame} {meth : Method} {c : Code} {ret9 : Option FieldType} {b L : Nat} {xs : Nat → Int32} (X : Cx s l D cy p s m #[Value.ref b] meth c cL_law 8 "CavershamShiftLaw" ret9) (hX : va_X b L xs s s.heap) (hbl : b < s.heap.size) {S : HS} {H : Heap} {locs : List Loc} {ls : Array Slot} {ii k gC : Nat} {cn : Cn} {ax am ao : Nat} {Q : State → Prop} (w : Wd s D cy S s.heap H locs) (hl : lv_has ls 8 [(0, .ref b), (1, .ref ax), (2, .ref am), (3, .ref ao), (4, .int (nI ii))]) (hLI : LI s S gC cn ax am ao) (hi : ii + 7 ≤ L) (hL9 : L ≤ 3584) (hk : k ≤ 511) (K : ∀ (U : HS) (gC1 : Nat) (cn1 : Cn) (H : Heap) (locs : List Loc) (ls : Array Slot), LI s U gC1 cn1 ax am ao → Wd s D cy U s.heap H locs → lv_has ls 8 [(0, .ref b), (1, .ref ax), (2, .ref am), (3, .ref ao), (4, .int (nI ii))] → W p l e room_1 s m #[Value.ref b] below meth c H locs (cLw (k + 1) gC1 gC1) (sLw (k + 1) gC1 gC1) Q (F0 m 1585 ls [])) : W p l e room_1 s m #[Value.ref b] below meth c H locs (cLw k gC gC) (sLw k gC gC) Q (F0 m 789 ls []) := by
  have hx := X.1
  have hb := X.2.1
  have hown := X.2.2.2.1
  have hts := X.2.2.2.2.1
  obtain ⟨hC, hR, hE, hO, hZs, hgC, eX, eM, eO⟩ := id hLI
  rw [← eX, ← eM, ← eO] at hl
  refine lv_aload_n hx hb dL_law_789 rfl (lv_at hl 1 rfl) ?_
  refine lv_aload_n hx hb dL_law_790 rfl (lv_at hl 0 rfl) ?_
  refine lv_iload hx hb dL_law_791 (lv_at hl 4 rfl) ?_
  refine lv_iconst (v := 1) hx hb dL_law_793 (by decide) ?_
  refine lv_iadd hx hb dL_law_794 ?_
  refine va_sld hx hb hX hbl (Nat.not_le.mpr hbl) w.2 (i := ((nI ii) + 1)) (by rw [show nI ii + 1 = nI (ii + 1) from nI_add ii 1]; exact nI_vp (by omega) (by omega)) dL_law_795 ?_
  refine lv_topi (fun z1 ez1 => ?_)
  refine lv_aload_n hx hb dL_law_796 rfl (lv_at hl 0 rfl) ?_
  refine lv_iload hx hb dL_law_797 (lv_at hl 4 rfl) ?_
  refine lv_iconst (v := 2) hx hb dL_law_799 (by decide) ?_
  refine lv_iadd hx hb dL_law_800 ?_
  refine va_sld hx hb hX hbl (Nat.not_le.mpr hbl) w.2 (i := ((nI ii) + 2)) (by rw [show nI ii + 2 = nI (ii + 2) from nI_add ii 2]; exact nI_vp (by omega) (by omega)) dL_law_801 ?_
  refine lv_topi (fun z2 ez2 => ?_)
  refine lv_aload_n hx hb dL_law_802 rfl (lv_at hl 3 rfl) ?_
  refine cSW (S := S) (nA := 4) (As := [.ref (gG S 10 0), .int z1, .int z2, .ref (gG S 11 0)]) (rest := []) X w hl ((w_L_ofStation G S hC hO hC.v10 z1 z2).post (post' := PW s S cn) (fun v S9 h9 => by rcases h9 with ⟨-, rfl, rfl⟩ | ⟨-, rfl, rfl⟩ | ⟨-, rfl, S8, hC8, hB8, rfl⟩ <;> first | exact ⟨⟨_, rfl⟩, StpL.rf⟩ | exact ⟨⟨_, rfl⟩, StpL.ofCB hC8 hB8 (Or.inr (Or.inl ⟨_, rfl⟩))⟩)) wYW_L_ofStation wM_L_180 wSt_L_ofStation wI_L (by decide +kernel) rfl rfl dL_law_803 ⟨Nat.le_of_ble_eq_true rfl, Nat.le_of_ble_eq_true rfl⟩ (Nat.le_of_ble_eq_true rfl) (⟨by have := hgC.2; show cLw k gC gC + 1 ≤ 601024; unfold cLw; omega, by have := hgC.2; show sLw k gC gC + 6 ≤ 7293034; unfold sLw; omega⟩) (fun v U3 H locs hp w => ?_)
  obtain ⟨⟨k9U3, rfl⟩, hs⟩ := hp
  rw [eX, eM, eO] at hl
  have hLI := hs _ _ _ _ hLI
  obtain ⟨hC, hR, hE, hO, hZs, hgC, eX, eM, eO⟩ := id hLI
  rw [← eX, ← eM, ← eO] at hl
  refine lv_istore (lv' := [(5, .int k9U3), (0, .ref b), (1, .ref (gG U3 10 0)), (2, .ref (gG U3 16 0)), (3, .ref (gG U3 11 0)), (4, .int (nI ii))]) hx hb dL_law_806 hl (by decide) rfl (fun ls hl => ?_)
  refine lv_aload_n hx hb dL_law_808 rfl (lv_at hl 3 rfl) ?_
  refine lv_aload_n hx hb dL_law_809 rfl (lv_at hl 1 rfl) ?_
  refine lv_iload hx hb dL_law_810 (lv_at hl 5 rfl) ?_
  refine lv_iconst (v := 1) hx hb dL_law_812 (by decide) ?_
  refine lv_iadd hx hb dL_law_813 ?_
  refine va_sld hx hb hX hbl (Nat.not_le.mpr hbl) w.2 (i := ((nI ii) + 1)) (by rw [show nI ii + 1 = nI (ii + 1) from nI_add ii 1]; exact nI_vp (by omega) (by omega)) dL_law_814 ?_
  refine lv_topi (fun z4 ez4 => ?_)
  refine lv_aload_n hx hb dL_law_815 rfl (lv_at hl 1 rfl) ?_
  refine lv_iload hx hb dL_law_816 (lv_at hl 5 rfl) ?_
  refine lv_iconst (v := 2) hx hb dL_law_818 (by decide) ?_
  refine lv_iadd hx hb dL_law_819 ?_
  refine va_sld hx hb hX hbl (Nat.not_le.mpr hbl) w.2 (i := ((nI ii) + 2)) (by rw [show nI ii + 2 = nI (ii + 2) from nI_add ii 2]; exact nI_vp (by omega) (by omega)) dL_law_820 ?_
  refine lv_topi (fun z5 ez5 => ?_)
  refine cV (S := U3) (nA := 2) (As := [.int z4, .int z5]) (rest := []) X w hl hR.v16 ((k_X16_ofStation G U3 hR z4 z5).post (fun v S9 h9 => PF.stp h9)) wY_X16_ofStation wM_L_182 wIn_X16_ofStation wSe_X16_X16_ofStation wI_X16 (by decide) rfl (by decide +kernel) rfl rfl dL_law_821 ⟨Nat.le_of_ble_eq_true rfl, Nat.le_of_ble_eq_true rfl⟩ (Nat.le_of_ble_eq_true rfl) (⟨by have := hgC.2; show cLw k gC gC + 2 ≤ 601024; unfold cLw; omega, by have := hgC.2; show sLw k gC gC + 15 ≤ 7293034; unfold sLw; omega⟩) (fun v U6 H locs hp w => ?_)
  obtain ⟨⟨x9U6, rfl⟩, hs⟩ := hp
  rw [eX, eM, eO] at hl
  have hLI := hs _ _ _ _ hLI
  obtain ⟨hC, hR, hE, hO, hZs, hgC, eX, eM, eO⟩ := id hLI
  rw [← eX, ← eM, ← eO] at hl
  refine lv_istore (lv' := [(6, .int x9U6), (5, .int k9U3), (0, .ref b), (1, .ref (gG U6 10 0)), (2, .ref (gG U6 16 0)), (3, .ref (gG U6 11 0)), (4, .int (nI ii))]) hx hb dL_law_824 hl (by decide) rfl (fun ls hl => ?_)
  refine lv_goto (tgt := 1585) hx hb dL_law_826 (by decide) ?_
  refine W.widen (k := cLw (k + 1) gC gC) (n := sLw (k + 1) gC gC) (by show cLw k gC gC + 2 ≤ _; unfold cLw; omega) (by show sLw k gC gC + 15 ≤ _; unfold sLw; omega) ?_
  rw [eX, eM, eO] at hl
  exact K _ _ _ H locs _ hLI w (lv_sub hl [2, 3, 4, 5, 6] rfl)

theorem dL_law_829 : decode cL_law 829 = .ok (.aload_n 1, 1) := by decide +kernel
theorem dL_law_830 : decode cL_law 830 = .ok (.aload_n 0, 1) := by decide +kernel
theorem dL_law_831 : decode cL_law 831 = .ok (.iload 4, 2) := by decide +kernel
theorem dL_law_833 : decode cL_law 833 = .ok (.iconst 1, 1) := by decide +kernel
theorem dL_law_834 : decode cL_law 834 = .ok (.iadd, 1) := by decide +kernel
theorem dL_law_835 : decode cL_law 835 = .ok (.iaload, 1) := by decide +kernel
theorem dL_law_836 : decode cL_law 836 = .ok (.aload_n 0, 1) := by decide +kernel
theorem dL_law_837 : decode cL_law 837 = .ok (.iload 4, 2) := by decide +kernel
theorem dL_law_839 : decode cL_law 839 = .ok (.iconst 2, 1) := by decide +kernel
theorem dL_law_840 : decode cL_law 840 = .ok (.iadd, 1) := by decide +kernel
theorem dL_law_841 : decode cL_law 841 = .ok (.iaload, 1) := by decide +kernel
theorem dL_law_842 : decode cL_law 842 = .ok (.aload_n 3, 1) := by decide +kernel
theorem dL_law_843 : decode cL_law 843 = .ok (.invokestatic 183, 3) := by decide +kernel
theorem dL_law_846 : decode cL_law 846 = .ok (.istore 5, 2) := by decide +kernel
theorem dL_law_848 : decode cL_law 848 = .ok (.aload_n 2, 1) := by decide +kernel
theorem dL_law_849 : decode cL_law 849 = .ok (.aload_n 0, 1) := by decide +kernel
theorem dL_law_850 : decode cL_law 850 = .ok (.iload 4, 2) := by decide +kernel
theorem dL_law_852 : decode cL_law 852 = .ok (.iconst 1, 1) := by decide +kernel
theorem dL_law_853 : decode cL_law 853 = .ok (.iadd, 1) := by decide +kernel
theorem dL_law_854 : decode cL_law 854 = .ok (.iaload, 1) := by decide +kernel
theorem dL_law_855 : decode cL_law 855 = .ok (.aload_n 0, 1) := by decide +kernel
theorem dL_law_856 : decode cL_law 856 = .ok (.iload 4, 2) := by decide +kernel
theorem dL_law_858 : decode cL_law 858 = .ok (.iconst 2, 1) := by decide +kernel
theorem dL_law_859 : decode cL_law 859 = .ok (.iadd, 1) := by decide +kernel
theorem dL_law_860 : decode cL_law 860 = .ok (.iaload, 1) := by decide +kernel
theorem dL_law_861 : decode cL_law 861 = .ok (.invokevirtual 185, 3) := by decide +kernel
theorem dL_law_864 : decode cL_law 864 = .ok (.istore 6, 2) := by decide +kernel
theorem dL_law_866 : decode cL_law 866 = .ok (.goto 719, 3) := by decide +kernel
set_option maxHeartbeats 4000000 in
set_option maxRecDepth 100000 in
theorem lo_14 {s : State} {l : Launch} {D : va_G} {cy : Nat → ClassId} (G : Gl s l D cy) {p : Program} {e : Env} {m : MethodId} {below : List Frame} {meth : Method} {c : Code} {ret9 : Option FieldType} {b L : Nat} {xs : Nat → Int32} (X : Cx s l D cy p s m #[Value.ref b] meth c cL_law 8 "CavershamShiftLaw" ret9) (hX : va_X b L xs s s.heap) (hbl : b < s.heap.size) {S : HS} {H : Heap} {locs : List Loc} {ls : Array Slot} {ii k gC : Nat} {cn : Cn} {ax am ao : Nat} {Q : State → Prop} (w : Wd s D cy S s.heap H locs) (hl : lv_has ls 8 [(0, .ref b), (1, .ref ax), (2, .ref am), (3, .ref ao), (4, .int (nI ii))]) (hLI : LI s S gC cn ax am ao) (hi : ii + 7 ≤ L) (hL9 : L ≤ 3584) (hk : k ≤ 511) (K : ∀ (U : HS) (gC1 : Nat) (cn1 : Cn) (H : Heap) (locs : List Loc) (ls : Array Slot), LI s U gC1 cn1 ax am ao → Wd s D cy U s.heap H locs → lv_has ls 8 [(0, .ref b), (1, .ref ax), (2, .ref am), (3, .ref ao), (4, .int (nI ii))] → W p l e room_1 s m #[Value.ref b] below meth c H locs (cLw (k + 1) gC1 gC1) (sLw (k + 1) gC1 gC1) Q (F0 m 1585 ls [])) : W p l e room_1 s m #[Value.ref b] below meth c H locs (cLw k gC gC) (sLw k gC gC) Q (F0 m 829 ls []) := by
  have hx := X.1
  have hb := X.2.1
  have hown := X.2.2.2.1
  have hts := X.2.2.2.2.1
  obtain ⟨hC, hR, hE, hO, hZs, hgC, eX, eM, eO⟩ := id hLI
  rw [← eX, ← eM, ← eO] at hl
  refine lv_aload_n hx hb dL_law_829 rfl (lv_at hl 1 rfl) ?_
  refine lv_aload_n hx hb dL_law_830 rfl (lv_at hl 0 rfl) ?_
  refine lv_iload hx hb dL_law_831 (lv_at hl 4 rfl) ?_
  refine lv_iconst (v := 1) hx hb dL_law_833 (by decide) ?_
  refine lv_iadd hx hb dL_law_834 ?_
  refine va_sld hx hb hX hbl (Nat.not_le.mpr hbl) w.2 (i := ((nI ii) + 1)) (by rw [show nI ii + 1 = nI (ii + 1) from nI_add ii 1]; exact nI_vp (by omega) (by omega)) dL_law_835 ?_
  refine lv_topi (fun z1 ez1 => ?_)
  refine lv_aload_n hx hb dL_law_836 rfl (lv_at hl 0 rfl) ?_
  refine lv_iload hx hb dL_law_837 (lv_at hl 4 rfl) ?_
  refine lv_iconst (v := 2) hx hb dL_law_839 (by decide) ?_
  refine lv_iadd hx hb dL_law_840 ?_
  refine va_sld hx hb hX hbl (Nat.not_le.mpr hbl) w.2 (i := ((nI ii) + 2)) (by rw [show nI ii + 2 = nI (ii + 2) from nI_add ii 2]; exact nI_vp (by omega) (by omega)) dL_law_841 ?_
  refine lv_topi (fun z2 ez2 => ?_)
  refine lv_aload_n hx hb dL_law_842 rfl (lv_at hl 3 rfl) ?_
  refine cSW (S := S) (nA := 4) (As := [.ref (gG S 10 0), .int z1, .int z2, .ref (gG S 11 0)]) (rest := []) X w hl ((w_L_comes G S hC hO hC.v10 z1 z2).post (post' := PW s S cn) (fun v S9 h9 => by rcases h9 with ⟨-, rfl, rfl⟩ | ⟨-, rfl, S8, hC8, hB8, rfl⟩ <;> first | exact ⟨⟨_, rfl⟩, StpL.rf⟩ | exact ⟨⟨_, rfl⟩, StpL.ofCB hC8 hB8 (Or.inr (Or.inl ⟨_, rfl⟩))⟩)) wYW_L_comes wM_L_183 wSt_L_comes wI_L (by decide +kernel) rfl rfl dL_law_843 ⟨Nat.le_of_ble_eq_true rfl, Nat.le_of_ble_eq_true rfl⟩ (Nat.le_of_ble_eq_true rfl) (⟨by have := hgC.2; show cLw k gC gC + 1 ≤ 601024; unfold cLw; omega, by have := hgC.2; show sLw k gC gC + 6 ≤ 7293034; unfold sLw; omega⟩) (fun v U3 H locs hp w => ?_)
  obtain ⟨⟨k9U3, rfl⟩, hs⟩ := hp
  rw [eX, eM, eO] at hl
  have hLI := hs _ _ _ _ hLI
  obtain ⟨hC, hR, hE, hO, hZs, hgC, eX, eM, eO⟩ := id hLI
  rw [← eX, ← eM, ← eO] at hl
  refine lv_istore (lv' := [(5, .int k9U3), (0, .ref b), (1, .ref (gG U3 10 0)), (2, .ref (gG U3 16 0)), (3, .ref (gG U3 11 0)), (4, .int (nI ii))]) hx hb dL_law_846 hl (by decide) rfl (fun ls hl => ?_)
  refine lv_aload_n hx hb dL_law_848 rfl (lv_at hl 3 rfl) ?_
  refine lv_aload_n hx hb dL_law_849 rfl (lv_at hl 1 rfl) ?_
  refine lv_iload hx hb dL_law_850 (lv_at hl 5 rfl) ?_
  refine lv_iconst (v := 1) hx hb dL_law_852 (by decide) ?_
  refine lv_iadd hx hb dL_law_853 ?_
  refine va_sld hx hb hX hbl (Nat.not_le.mpr hbl) w.2 (i := ((nI ii) + 1)) (by rw [show nI ii + 1 = nI (ii + 1) from nI_add ii 1]; exact nI_vp (by omega) (by omega)) dL_law_854 ?_
  refine lv_topi (fun z4 ez4 => ?_)
  refine lv_aload_n hx hb dL_law_855 rfl (lv_at hl 1 rfl) ?_
  refine lv_iload hx hb dL_law_856 (lv_at hl 5 rfl) ?_
  refine lv_iconst (v := 2) hx hb dL_law_858 (by decide) ?_
  refine lv_iadd hx hb dL_law_859 ?_
  refine va_sld hx hb hX hbl (Nat.not_le.mpr hbl) w.2 (i := ((nI ii) + 2)) (by rw [show nI ii + 2 = nI (ii + 2) from nI_add ii 2]; exact nI_vp (by omega) (by omega)) dL_law_860 ?_
  refine lv_topi (fun z5 ez5 => ?_)
  refine cV (S := U3) (nA := 2) (As := [.int z4, .int z5]) (rest := []) X w hl hR.v16 ((k_X16_comes G U3 hR z4 z5).post (fun v S9 h9 => PF.stp h9)) wY_X16_comes wM_L_185 wIn_X16_comes wSe_X16_X16_comes wI_X16 (by decide) rfl (by decide +kernel) rfl rfl dL_law_861 ⟨Nat.le_of_ble_eq_true rfl, Nat.le_of_ble_eq_true rfl⟩ (Nat.le_of_ble_eq_true rfl) (⟨by have := hgC.2; show cLw k gC gC + 1 ≤ 601024; unfold cLw; omega, by have := hgC.2; show sLw k gC gC + 6 ≤ 7293034; unfold sLw; omega⟩) (fun v U6 H locs hp w => ?_)
  obtain ⟨⟨x9U6, rfl⟩, hs⟩ := hp
  rw [eX, eM, eO] at hl
  have hLI := hs _ _ _ _ hLI
  obtain ⟨hC, hR, hE, hO, hZs, hgC, eX, eM, eO⟩ := id hLI
  rw [← eX, ← eM, ← eO] at hl
  refine lv_istore (lv' := [(6, .int x9U6), (5, .int k9U3), (0, .ref b), (1, .ref (gG U6 10 0)), (2, .ref (gG U6 16 0)), (3, .ref (gG U6 11 0)), (4, .int (nI ii))]) hx hb dL_law_864 hl (by decide) rfl (fun ls hl => ?_)
  refine lv_goto (tgt := 1585) hx hb dL_law_866 (by decide) ?_
  refine W.widen (k := cLw (k + 1) gC gC) (n := sLw (k + 1) gC gC) (by show cLw k gC gC + 1 ≤ _; unfold cLw; omega) (by show sLw k gC gC + 6 ≤ _; unfold sLw; omega) ?_
  rw [eX, eM, eO] at hl
  exact K _ _ _ H locs _ hLI w (lv_sub hl [2, 3, 4, 5, 6] rfl)

theorem dL_law_869 : decode cL_law 869 = .ok (.aload_n 1, 1) := by decide +kernel
theorem dL_law_870 : decode cL_law 870 = .ok (.aload_n 0, 1) := by decide +kernel
theorem dL_law_871 : decode cL_law 871 = .ok (.iload 4, 2) := by decide +kernel
theorem dL_law_873 : decode cL_law 873 = .ok (.iconst 1, 1) := by decide +kernel
theorem dL_law_874 : decode cL_law 874 = .ok (.iadd, 1) := by decide +kernel
theorem dL_law_875 : decode cL_law 875 = .ok (.iaload, 1) := by decide +kernel
theorem dL_law_876 : decode cL_law 876 = .ok (.aload_n 0, 1) := by decide +kernel
theorem dL_law_877 : decode cL_law 877 = .ok (.iload 4, 2) := by decide +kernel
theorem dL_law_879 : decode cL_law 879 = .ok (.iconst 2, 1) := by decide +kernel
theorem dL_law_880 : decode cL_law 880 = .ok (.iadd, 1) := by decide +kernel
theorem dL_law_881 : decode cL_law 881 = .ok (.iaload, 1) := by decide +kernel
theorem dL_law_882 : decode cL_law 882 = .ok (.aload_n 3, 1) := by decide +kernel
theorem dL_law_883 : decode cL_law 883 = .ok (.invokestatic 186, 3) := by decide +kernel
theorem dL_law_886 : decode cL_law 886 = .ok (.istore 5, 2) := by decide +kernel
theorem dL_law_888 : decode cL_law 888 = .ok (.aload_n 2, 1) := by decide +kernel
theorem dL_law_889 : decode cL_law 889 = .ok (.aload_n 0, 1) := by decide +kernel
theorem dL_law_890 : decode cL_law 890 = .ok (.iload 4, 2) := by decide +kernel
theorem dL_law_892 : decode cL_law 892 = .ok (.iconst 1, 1) := by decide +kernel
theorem dL_law_893 : decode cL_law 893 = .ok (.iadd, 1) := by decide +kernel
theorem dL_law_894 : decode cL_law 894 = .ok (.iaload, 1) := by decide +kernel
theorem dL_law_895 : decode cL_law 895 = .ok (.aload_n 0, 1) := by decide +kernel
theorem dL_law_896 : decode cL_law 896 = .ok (.iload 4, 2) := by decide +kernel
theorem dL_law_898 : decode cL_law 898 = .ok (.iconst 2, 1) := by decide +kernel
theorem dL_law_899 : decode cL_law 899 = .ok (.iadd, 1) := by decide +kernel
theorem dL_law_900 : decode cL_law 900 = .ok (.iaload, 1) := by decide +kernel
theorem dL_law_901 : decode cL_law 901 = .ok (.invokevirtual 188, 3) := by decide +kernel
theorem dL_law_904 : decode cL_law 904 = .ok (.istore 6, 2) := by decide +kernel
theorem dL_law_906 : decode cL_law 906 = .ok (.goto 679, 3) := by decide +kernel
set_option maxHeartbeats 4000000 in
set_option maxRecDepth 100000 in
theorem lo_15 {s : State} {l : Launch} {D : va_G} {cy : Nat → ClassId} (G : Gl s l D cy) {p : Program} {e : Env} {m : MethodId} {below : List Frame} {meth : Method} {c : Code} {ret9 : Option FieldType} {b L : Nat} {xs : Nat → Int32} (X : Cx s l D cy p s m #[Value.ref b] meth c cL_law 8 "CavershamShiftLaw" ret9) (hX : va_X b L xs s s.heap) (hbl : b < s.heap.size) {S : HS} {H : Heap} {locs : List Loc} {ls : Array Slot} {ii k gC : Nat} {cn : Cn} {ax am ao : Nat} {Q : State → Prop} (w : Wd s D cy S s.heap H locs) (hl : lv_has ls 8 [(0, .ref b), (1, .ref ax), (2, .ref am), (3, .ref ao), (4, .int (nI ii))]) (hLI : LI s S gC cn ax am ao) (hi : ii + 7 ≤ L) (hL9 : L ≤ 3584) (hk : k ≤ 511) (K : ∀ (U : HS) (gC1 : Nat) (cn1 : Cn) (H : Heap) (locs : List Loc) (ls : Array Slot), LI s U gC1 cn1 ax am ao → Wd s D cy U s.heap H locs → lv_has ls 8 [(0, .ref b), (1, .ref ax), (2, .ref am), (3, .ref ao), (4, .int (nI ii))] → W p l e room_1 s m #[Value.ref b] below meth c H locs (cLw (k + 1) gC1 gC1) (sLw (k + 1) gC1 gC1) Q (F0 m 1585 ls [])) : W p l e room_1 s m #[Value.ref b] below meth c H locs (cLw k gC gC) (sLw k gC gC) Q (F0 m 869 ls []) := by
  have hx := X.1
  have hb := X.2.1
  have hown := X.2.2.2.1
  have hts := X.2.2.2.2.1
  obtain ⟨hC, hR, hE, hO, hZs, hgC, eX, eM, eO⟩ := id hLI
  rw [← eX, ← eM, ← eO] at hl
  refine lv_aload_n hx hb dL_law_869 rfl (lv_at hl 1 rfl) ?_
  refine lv_aload_n hx hb dL_law_870 rfl (lv_at hl 0 rfl) ?_
  refine lv_iload hx hb dL_law_871 (lv_at hl 4 rfl) ?_
  refine lv_iconst (v := 1) hx hb dL_law_873 (by decide) ?_
  refine lv_iadd hx hb dL_law_874 ?_
  refine va_sld hx hb hX hbl (Nat.not_le.mpr hbl) w.2 (i := ((nI ii) + 1)) (by rw [show nI ii + 1 = nI (ii + 1) from nI_add ii 1]; exact nI_vp (by omega) (by omega)) dL_law_875 ?_
  refine lv_topi (fun z1 ez1 => ?_)
  refine lv_aload_n hx hb dL_law_876 rfl (lv_at hl 0 rfl) ?_
  refine lv_iload hx hb dL_law_877 (lv_at hl 4 rfl) ?_
  refine lv_iconst (v := 2) hx hb dL_law_879 (by decide) ?_
  refine lv_iadd hx hb dL_law_880 ?_
  refine va_sld hx hb hX hbl (Nat.not_le.mpr hbl) w.2 (i := ((nI ii) + 2)) (by rw [show nI ii + 2 = nI (ii + 2) from nI_add ii 2]; exact nI_vp (by omega) (by omega)) dL_law_881 ?_
  refine lv_topi (fun z2 ez2 => ?_)
  refine lv_aload_n hx hb dL_law_882 rfl (lv_at hl 3 rfl) ?_
  refine cSW (S := S) (nA := 4) (As := [.ref (gG S 10 0), .int z1, .int z2, .ref (gG S 11 0)]) (rest := []) X w hl ((w_L_ofMonitor G S hC hO hC.v10 z1 z2).post (post' := PW s S cn) (fun v S9 h9 => by rcases h9 with ⟨-, rfl, rfl⟩ | ⟨-, rfl, rfl⟩ | ⟨-, rfl, S8, hC8, hB8, rfl⟩ <;> first | exact ⟨⟨_, rfl⟩, StpL.rf⟩ | exact ⟨⟨_, rfl⟩, StpL.ofCB hC8 hB8 (Or.inr (Or.inl ⟨_, rfl⟩))⟩)) wYW_L_ofMonitor wM_L_186 wSt_L_ofMonitor wI_L (by decide +kernel) rfl rfl dL_law_883 ⟨Nat.le_of_ble_eq_true rfl, Nat.le_of_ble_eq_true rfl⟩ (Nat.le_of_ble_eq_true rfl) (⟨by have := hgC.2; show cLw k gC gC + 1 ≤ 601024; unfold cLw; omega, by have := hgC.2; show sLw k gC gC + 6 ≤ 7293034; unfold sLw; omega⟩) (fun v U3 H locs hp w => ?_)
  obtain ⟨⟨k9U3, rfl⟩, hs⟩ := hp
  rw [eX, eM, eO] at hl
  have hLI := hs _ _ _ _ hLI
  obtain ⟨hC, hR, hE, hO, hZs, hgC, eX, eM, eO⟩ := id hLI
  rw [← eX, ← eM, ← eO] at hl
  refine lv_istore (lv' := [(5, .int k9U3), (0, .ref b), (1, .ref (gG U3 10 0)), (2, .ref (gG U3 16 0)), (3, .ref (gG U3 11 0)), (4, .int (nI ii))]) hx hb dL_law_886 hl (by decide) rfl (fun ls hl => ?_)
  refine lv_aload_n hx hb dL_law_888 rfl (lv_at hl 3 rfl) ?_
  refine lv_aload_n hx hb dL_law_889 rfl (lv_at hl 1 rfl) ?_
  refine lv_iload hx hb dL_law_890 (lv_at hl 5 rfl) ?_
  refine lv_iconst (v := 1) hx hb dL_law_892 (by decide) ?_
  refine lv_iadd hx hb dL_law_893 ?_
  refine va_sld hx hb hX hbl (Nat.not_le.mpr hbl) w.2 (i := ((nI ii) + 1)) (by rw [show nI ii + 1 = nI (ii + 1) from nI_add ii 1]; exact nI_vp (by omega) (by omega)) dL_law_894 ?_
  refine lv_topi (fun z4 ez4 => ?_)
  refine lv_aload_n hx hb dL_law_895 rfl (lv_at hl 1 rfl) ?_
  refine lv_iload hx hb dL_law_896 (lv_at hl 5 rfl) ?_
  refine lv_iconst (v := 2) hx hb dL_law_898 (by decide) ?_
  refine lv_iadd hx hb dL_law_899 ?_
  refine va_sld hx hb hX hbl (Nat.not_le.mpr hbl) w.2 (i := ((nI ii) + 2)) (by rw [show nI ii + 2 = nI (ii + 2) from nI_add ii 2]; exact nI_vp (by omega) (by omega)) dL_law_900 ?_
  refine lv_topi (fun z5 ez5 => ?_)
  refine cV (S := U3) (nA := 2) (As := [.int z4, .int z5]) (rest := []) X w hl hR.v16 ((k_X16_ofMonitor G U3 hR z4 z5).post (fun v S9 h9 => PF.stp h9)) wY_X16_ofMonitor wM_L_188 wIn_X16_ofMonitor wSe_X16_X16_ofMonitor wI_X16 (by decide) rfl (by decide +kernel) rfl rfl dL_law_901 ⟨Nat.le_of_ble_eq_true rfl, Nat.le_of_ble_eq_true rfl⟩ (Nat.le_of_ble_eq_true rfl) (⟨by have := hgC.2; show cLw k gC gC + 1 ≤ 601024; unfold cLw; omega, by have := hgC.2; show sLw k gC gC + 6 ≤ 7293034; unfold sLw; omega⟩) (fun v U6 H locs hp w => ?_)
  obtain ⟨⟨x9U6, rfl⟩, hs⟩ := hp
  rw [eX, eM, eO] at hl
  have hLI := hs _ _ _ _ hLI
  obtain ⟨hC, hR, hE, hO, hZs, hgC, eX, eM, eO⟩ := id hLI
  rw [← eX, ← eM, ← eO] at hl
  refine lv_istore (lv' := [(6, .int x9U6), (5, .int k9U3), (0, .ref b), (1, .ref (gG U6 10 0)), (2, .ref (gG U6 16 0)), (3, .ref (gG U6 11 0)), (4, .int (nI ii))]) hx hb dL_law_904 hl (by decide) rfl (fun ls hl => ?_)
  refine lv_goto (tgt := 1585) hx hb dL_law_906 (by decide) ?_
  refine W.widen (k := cLw (k + 1) gC gC) (n := sLw (k + 1) gC gC) (by show cLw k gC gC + 1 ≤ _; unfold cLw; omega) (by show sLw k gC gC + 6 ≤ _; unfold sLw; omega) ?_
  rw [eX, eM, eO] at hl
  exact K _ _ _ H locs _ hLI w (lv_sub hl [2, 3, 4, 5, 6] rfl)

theorem dL_law_909 : decode cL_law 909 = .ok (.aload_n 1, 1) := by decide +kernel
theorem dL_law_910 : decode cL_law 910 = .ok (.aload_n 0, 1) := by decide +kernel
theorem dL_law_911 : decode cL_law 911 = .ok (.iload 4, 2) := by decide +kernel
theorem dL_law_913 : decode cL_law 913 = .ok (.iconst 1, 1) := by decide +kernel
theorem dL_law_914 : decode cL_law 914 = .ok (.iadd, 1) := by decide +kernel
theorem dL_law_915 : decode cL_law 915 = .ok (.iaload, 1) := by decide +kernel
theorem dL_law_916 : decode cL_law 916 = .ok (.aload_n 0, 1) := by decide +kernel
theorem dL_law_917 : decode cL_law 917 = .ok (.iload 4, 2) := by decide +kernel
theorem dL_law_919 : decode cL_law 919 = .ok (.iconst 2, 1) := by decide +kernel
theorem dL_law_920 : decode cL_law 920 = .ok (.iadd, 1) := by decide +kernel
theorem dL_law_921 : decode cL_law 921 = .ok (.iaload, 1) := by decide +kernel
theorem dL_law_922 : decode cL_law 922 = .ok (.aload_n 0, 1) := by decide +kernel
theorem dL_law_923 : decode cL_law 923 = .ok (.iload 4, 2) := by decide +kernel
theorem dL_law_925 : decode cL_law 925 = .ok (.iconst 3, 1) := by decide +kernel
theorem dL_law_926 : decode cL_law 926 = .ok (.iadd, 1) := by decide +kernel
theorem dL_law_927 : decode cL_law 927 = .ok (.iaload, 1) := by decide +kernel
theorem dL_law_928 : decode cL_law 928 = .ok (.ifCond .eq 7, 3) := by decide +kernel
theorem dL_law_931 : decode cL_law 931 = .ok (.iconst 1, 1) := by decide +kernel
theorem dL_law_932 : decode cL_law 932 = .ok (.goto 4, 3) := by decide +kernel
theorem dL_law_935 : decode cL_law 935 = .ok (.iconst 0, 1) := by decide +kernel
theorem dL_law_936 : decode cL_law 936 = .ok (.aload_n 3, 1) := by decide +kernel
theorem dL_law_937 : decode cL_law 937 = .ok (.invokestatic 189, 3) := by decide +kernel
theorem dL_law_940 : decode cL_law 940 = .ok (.istore 5, 2) := by decide +kernel
theorem dL_law_942 : decode cL_law 942 = .ok (.aload_n 2, 1) := by decide +kernel
theorem dL_law_943 : decode cL_law 943 = .ok (.aload_n 0, 1) := by decide +kernel
theorem dL_law_944 : decode cL_law 944 = .ok (.iload 4, 2) := by decide +kernel
theorem dL_law_946 : decode cL_law 946 = .ok (.iconst 1, 1) := by decide +kernel
theorem dL_law_947 : decode cL_law 947 = .ok (.iadd, 1) := by decide +kernel
theorem dL_law_948 : decode cL_law 948 = .ok (.iaload, 1) := by decide +kernel
theorem dL_law_949 : decode cL_law 949 = .ok (.aload_n 0, 1) := by decide +kernel
theorem dL_law_950 : decode cL_law 950 = .ok (.iload 4, 2) := by decide +kernel
theorem dL_law_952 : decode cL_law 952 = .ok (.iconst 2, 1) := by decide +kernel
theorem dL_law_953 : decode cL_law 953 = .ok (.iadd, 1) := by decide +kernel
theorem dL_law_954 : decode cL_law 954 = .ok (.iaload, 1) := by decide +kernel
theorem dL_law_955 : decode cL_law 955 = .ok (.aload_n 0, 1) := by decide +kernel
theorem dL_law_956 : decode cL_law 956 = .ok (.iload 4, 2) := by decide +kernel
theorem dL_law_958 : decode cL_law 958 = .ok (.iconst 3, 1) := by decide +kernel
theorem dL_law_959 : decode cL_law 959 = .ok (.iadd, 1) := by decide +kernel
theorem dL_law_960 : decode cL_law 960 = .ok (.iaload, 1) := by decide +kernel
theorem dL_law_961 : decode cL_law 961 = .ok (.ifCond .eq 7, 3) := by decide +kernel
theorem dL_law_964 : decode cL_law 964 = .ok (.iconst 1, 1) := by decide +kernel
theorem dL_law_965 : decode cL_law 965 = .ok (.goto 4, 3) := by decide +kernel
theorem dL_law_968 : decode cL_law 968 = .ok (.iconst 0, 1) := by decide +kernel
theorem dL_law_969 : decode cL_law 969 = .ok (.invokevirtual 192, 3) := by decide +kernel
theorem dL_law_972 : decode cL_law 972 = .ok (.istore 6, 2) := by decide +kernel
theorem dL_law_974 : decode cL_law 974 = .ok (.goto 611, 3) := by decide +kernel
set_option maxHeartbeats 4000000 in
set_option maxRecDepth 100000 in
theorem lo_16 {s : State} {l : Launch} {D : va_G} {cy : Nat → ClassId} (G : Gl s l D cy) {p : Program} {e : Env} {m : MethodId} {below : List Frame} {meth : Method} {c : Code} {ret9 : Option FieldType} {b L : Nat} {xs : Nat → Int32} (X : Cx s l D cy p s m #[Value.ref b] meth c cL_law 8 "CavershamShiftLaw" ret9) (hX : va_X b L xs s s.heap) (hbl : b < s.heap.size) {S : HS} {H : Heap} {locs : List Loc} {ls : Array Slot} {ii k gC : Nat} {cn : Cn} {ax am ao : Nat} {Q : State → Prop} (w : Wd s D cy S s.heap H locs) (hl : lv_has ls 8 [(0, .ref b), (1, .ref ax), (2, .ref am), (3, .ref ao), (4, .int (nI ii))]) (hLI : LI s S gC cn ax am ao) (hi : ii + 7 ≤ L) (hL9 : L ≤ 3584) (hk : k ≤ 511) (K : ∀ (U : HS) (gC1 : Nat) (cn1 : Cn) (H : Heap) (locs : List Loc) (ls : Array Slot), LI s U gC1 cn1 ax am ao → Wd s D cy U s.heap H locs → lv_has ls 8 [(0, .ref b), (1, .ref ax), (2, .ref am), (3, .ref ao), (4, .int (nI ii))] → W p l e room_1 s m #[Value.ref b] below meth c H locs (cLw (k + 1) gC1 gC1) (sLw (k + 1) gC1 gC1) Q (F0 m 1585 ls [])) : W p l e room_1 s m #[Value.ref b] below meth c H locs (cLw k gC gC) (sLw k gC gC) Q (F0 m 909 ls []) := by
  have hx := X.1
  have hb := X.2.1
  have hown := X.2.2.2.1
  have hts := X.2.2.2.2.1
  obtain ⟨hC, hR, hE, hO, hZs, hgC, eX, eM, eO⟩ := id hLI
  rw [← eX, ← eM, ← eO] at hl
  refine lv_aload_n hx hb dL_law_909 rfl (lv_at hl 1 rfl) ?_
  refine lv_aload_n hx hb dL_law_910 rfl (lv_at hl 0 rfl) ?_
  refine lv_iload hx hb dL_law_911 (lv_at hl 4 rfl) ?_
  refine lv_iconst (v := 1) hx hb dL_law_913 (by decide) ?_
  refine lv_iadd hx hb dL_law_914 ?_
  refine va_sld hx hb hX hbl (Nat.not_le.mpr hbl) w.2 (i := ((nI ii) + 1)) (by rw [show nI ii + 1 = nI (ii + 1) from nI_add ii 1]; exact nI_vp (by omega) (by omega)) dL_law_915 ?_
  refine lv_topi (fun z1 ez1 => ?_)
  refine lv_aload_n hx hb dL_law_916 rfl (lv_at hl 0 rfl) ?_
  refine lv_iload hx hb dL_law_917 (lv_at hl 4 rfl) ?_
  refine lv_iconst (v := 2) hx hb dL_law_919 (by decide) ?_
  refine lv_iadd hx hb dL_law_920 ?_
  refine va_sld hx hb hX hbl (Nat.not_le.mpr hbl) w.2 (i := ((nI ii) + 2)) (by rw [show nI ii + 2 = nI (ii + 2) from nI_add ii 2]; exact nI_vp (by omega) (by omega)) dL_law_921 ?_
  refine lv_topi (fun z2 ez2 => ?_)
  refine lv_aload_n hx hb dL_law_922 rfl (lv_at hl 0 rfl) ?_
  refine lv_iload hx hb dL_law_923 (lv_at hl 4 rfl) ?_
  refine lv_iconst (v := 3) hx hb dL_law_925 (by decide) ?_
  refine lv_iadd hx hb dL_law_926 ?_
  refine va_sld hx hb hX hbl (Nat.not_le.mpr hbl) w.2 (i := ((nI ii) + 3)) (by rw [show nI ii + 3 = nI (ii + 3) from nI_add ii 3]; exact nI_vp (by omega) (by omega)) dL_law_927 ?_
  refine lv_topi (fun z3 ez3 => ?_)
  refine lv_if_eq (tgt := 935) hx hb dL_law_928 (by decide) (fun hbz => ?_) (fun hbz => ?_)
  · skip
    refine lv_iconst (v := 0) hx hb dL_law_935 (by decide) ?_
    refine lv_aload_n hx hb dL_law_936 rfl (lv_at hl 3 rfl) ?_
    refine cSW (S := S) (nA := 5) (As := [.ref (gG S 10 0), .int z1, .int z2, .int 0, .ref (gG S 11 0)]) (rest := []) X w hl ((w_L_sits G S hC hO hC.v10 z1 z2 0).post (post' := PW s S cn) (fun v S9 h9 => by rcases h9 with ⟨-, rfl, rfl⟩ | ⟨-, rfl, S8, hC8, hB8, rfl⟩ <;> first | exact ⟨⟨_, rfl⟩, StpL.rf⟩ | exact ⟨⟨_, rfl⟩, StpL.ofCB hC8 hB8 (Or.inr (Or.inl ⟨_, rfl⟩))⟩)) wYW_L_sits wM_L_189 wSt_L_sits wI_L (by decide +kernel) rfl rfl dL_law_937 ⟨Nat.le_of_ble_eq_true rfl, Nat.le_of_ble_eq_true rfl⟩ (Nat.le_of_ble_eq_true rfl) (⟨by have := hgC.2; show cLw k gC gC + 1 ≤ 601024; unfold cLw; omega, by have := hgC.2; show sLw k gC gC + 6 ≤ 7293034; unfold sLw; omega⟩) (fun v U4 H locs hp w => ?_)
    obtain ⟨⟨k9U4, rfl⟩, hs⟩ := hp
    rw [eX, eM, eO] at hl
    have hLI := hs _ _ _ _ hLI
    obtain ⟨hC, hR, hE, hO, hZs, hgC, eX, eM, eO⟩ := id hLI
    rw [← eX, ← eM, ← eO] at hl
    refine lv_istore (lv' := [(5, .int k9U4), (0, .ref b), (1, .ref (gG U4 10 0)), (2, .ref (gG U4 16 0)), (3, .ref (gG U4 11 0)), (4, .int (nI ii))]) hx hb dL_law_940 hl (by decide) rfl (fun ls hl => ?_)
    refine lv_aload_n hx hb dL_law_942 rfl (lv_at hl 3 rfl) ?_
    refine lv_aload_n hx hb dL_law_943 rfl (lv_at hl 1 rfl) ?_
    refine lv_iload hx hb dL_law_944 (lv_at hl 5 rfl) ?_
    refine lv_iconst (v := 1) hx hb dL_law_946 (by decide) ?_
    refine lv_iadd hx hb dL_law_947 ?_
    refine va_sld hx hb hX hbl (Nat.not_le.mpr hbl) w.2 (i := ((nI ii) + 1)) (by rw [show nI ii + 1 = nI (ii + 1) from nI_add ii 1]; exact nI_vp (by omega) (by omega)) dL_law_948 ?_
    refine lv_topi (fun z5 ez5 => ?_)
    refine lv_aload_n hx hb dL_law_949 rfl (lv_at hl 1 rfl) ?_
    refine lv_iload hx hb dL_law_950 (lv_at hl 5 rfl) ?_
    refine lv_iconst (v := 2) hx hb dL_law_952 (by decide) ?_
    refine lv_iadd hx hb dL_law_953 ?_
    refine va_sld hx hb hX hbl (Nat.not_le.mpr hbl) w.2 (i := ((nI ii) + 2)) (by rw [show nI ii + 2 = nI (ii + 2) from nI_add ii 2]; exact nI_vp (by omega) (by omega)) dL_law_954 ?_
    refine lv_topi (fun z6 ez6 => ?_)
    refine lv_aload_n hx hb dL_law_955 rfl (lv_at hl 1 rfl) ?_
    refine lv_iload hx hb dL_law_956 (lv_at hl 5 rfl) ?_
    refine lv_iconst (v := 3) hx hb dL_law_958 (by decide) ?_
    refine lv_iadd hx hb dL_law_959 ?_
    refine va_sld hx hb hX hbl (Nat.not_le.mpr hbl) w.2 (i := ((nI ii) + 3)) (by rw [show nI ii + 3 = nI (ii + 3) from nI_add ii 3]; exact nI_vp (by omega) (by omega)) dL_law_960 ?_
    refine lv_topi (fun z7 ez7 => ?_)
    obtain rfl : z3 = z7 := ez3.trans ez7.symm
    refine lv_if_eq (tgt := 968) hx hb dL_law_961 (by decide) (fun hbz2 => ?_) (fun hbz2 => ?_)
    · skip
      refine lv_iconst (v := 0) hx hb dL_law_968 (by decide) ?_
      refine cV (S := U4) (nA := 3) (As := [.int z5, .int z6, .int 0]) (rest := []) X w hl hR.v16 ((k_X16_sits G U4 hR z5 z6 0).post (fun v S9 h9 => PF.stp h9)) wY_X16_sits wM_L_192 wIn_X16_sits wSe_X16_X16_sits wI_X16 (by decide) rfl (by decide +kernel) rfl rfl dL_law_969 ⟨Nat.le_of_ble_eq_true rfl, Nat.le_of_ble_eq_true rfl⟩ (Nat.le_of_ble_eq_true rfl) (⟨by have := hgC.2; show cLw k gC gC + 1 ≤ 601024; unfold cLw; omega, by have := hgC.2; show sLw k gC gC + 6 ≤ 7293034; unfold sLw; omega⟩) (fun v U8 H locs hp w => ?_)
      obtain ⟨⟨x9U8, rfl⟩, hs⟩ := hp
      rw [eX, eM, eO] at hl
      have hLI := hs _ _ _ _ hLI
      obtain ⟨hC, hR, hE, hO, hZs, hgC, eX, eM, eO⟩ := id hLI
      rw [← eX, ← eM, ← eO] at hl
      refine lv_istore (lv' := [(6, .int x9U8), (5, .int k9U4), (0, .ref b), (1, .ref (gG U8 10 0)), (2, .ref (gG U8 16 0)), (3, .ref (gG U8 11 0)), (4, .int (nI ii))]) hx hb dL_law_972 hl (by decide) rfl (fun ls hl => ?_)
      refine lv_goto (tgt := 1585) hx hb dL_law_974 (by decide) ?_
      refine W.widen (k := cLw (k + 1) gC gC) (n := sLw (k + 1) gC gC) (by show cLw k gC gC + 1 ≤ _; unfold cLw; omega) (by show sLw k gC gC + 6 ≤ _; unfold sLw; omega) ?_
      rw [eX, eM, eO] at hl
      exact K _ _ _ H locs _ hLI w (lv_sub hl [2, 3, 4, 5, 6] rfl)
    · exact absurd hbz hbz2
  · skip
    refine lv_iconst (v := 1) hx hb dL_law_931 (by decide) ?_
    refine lv_goto (tgt := 936) hx hb dL_law_932 (by decide) ?_
    refine lv_aload_n hx hb dL_law_936 rfl (lv_at hl 3 rfl) ?_
    refine cSW (S := S) (nA := 5) (As := [.ref (gG S 10 0), .int z1, .int z2, .int 1, .ref (gG S 11 0)]) (rest := []) X w hl ((w_L_sits G S hC hO hC.v10 z1 z2 1).post (post' := PW s S cn) (fun v S9 h9 => by rcases h9 with ⟨-, rfl, rfl⟩ | ⟨-, rfl, S8, hC8, hB8, rfl⟩ <;> first | exact ⟨⟨_, rfl⟩, StpL.rf⟩ | exact ⟨⟨_, rfl⟩, StpL.ofCB hC8 hB8 (Or.inr (Or.inl ⟨_, rfl⟩))⟩)) wYW_L_sits wM_L_189 wSt_L_sits wI_L (by decide +kernel) rfl rfl dL_law_937 ⟨Nat.le_of_ble_eq_true rfl, Nat.le_of_ble_eq_true rfl⟩ (Nat.le_of_ble_eq_true rfl) (⟨by have := hgC.2; show cLw k gC gC + 1 ≤ 601024; unfold cLw; omega, by have := hgC.2; show sLw k gC gC + 6 ≤ 7293034; unfold sLw; omega⟩) (fun v U9 H locs hp w => ?_)
    obtain ⟨⟨k9U9, rfl⟩, hs⟩ := hp
    rw [eX, eM, eO] at hl
    have hLI := hs _ _ _ _ hLI
    obtain ⟨hC, hR, hE, hO, hZs, hgC, eX, eM, eO⟩ := id hLI
    rw [← eX, ← eM, ← eO] at hl
    refine lv_istore (lv' := [(5, .int k9U9), (0, .ref b), (1, .ref (gG U9 10 0)), (2, .ref (gG U9 16 0)), (3, .ref (gG U9 11 0)), (4, .int (nI ii))]) hx hb dL_law_940 hl (by decide) rfl (fun ls hl => ?_)
    refine lv_aload_n hx hb dL_law_942 rfl (lv_at hl 3 rfl) ?_
    refine lv_aload_n hx hb dL_law_943 rfl (lv_at hl 1 rfl) ?_
    refine lv_iload hx hb dL_law_944 (lv_at hl 5 rfl) ?_
    refine lv_iconst (v := 1) hx hb dL_law_946 (by decide) ?_
    refine lv_iadd hx hb dL_law_947 ?_
    refine va_sld hx hb hX hbl (Nat.not_le.mpr hbl) w.2 (i := ((nI ii) + 1)) (by rw [show nI ii + 1 = nI (ii + 1) from nI_add ii 1]; exact nI_vp (by omega) (by omega)) dL_law_948 ?_
    refine lv_topi (fun z10 ez10 => ?_)
    refine lv_aload_n hx hb dL_law_949 rfl (lv_at hl 1 rfl) ?_
    refine lv_iload hx hb dL_law_950 (lv_at hl 5 rfl) ?_
    refine lv_iconst (v := 2) hx hb dL_law_952 (by decide) ?_
    refine lv_iadd hx hb dL_law_953 ?_
    refine va_sld hx hb hX hbl (Nat.not_le.mpr hbl) w.2 (i := ((nI ii) + 2)) (by rw [show nI ii + 2 = nI (ii + 2) from nI_add ii 2]; exact nI_vp (by omega) (by omega)) dL_law_954 ?_
    refine lv_topi (fun z11 ez11 => ?_)
    refine lv_aload_n hx hb dL_law_955 rfl (lv_at hl 1 rfl) ?_
    refine lv_iload hx hb dL_law_956 (lv_at hl 5 rfl) ?_
    refine lv_iconst (v := 3) hx hb dL_law_958 (by decide) ?_
    refine lv_iadd hx hb dL_law_959 ?_
    refine va_sld hx hb hX hbl (Nat.not_le.mpr hbl) w.2 (i := ((nI ii) + 3)) (by rw [show nI ii + 3 = nI (ii + 3) from nI_add ii 3]; exact nI_vp (by omega) (by omega)) dL_law_960 ?_
    refine lv_topi (fun z12 ez12 => ?_)
    obtain rfl : z3 = z12 := ez3.trans ez12.symm
    refine lv_if_eq (tgt := 968) hx hb dL_law_961 (by decide) (fun hbz2 => ?_) (fun hbz2 => ?_)
    · exact absurd hbz2 hbz
    · skip
      refine lv_iconst (v := 1) hx hb dL_law_964 (by decide) ?_
      refine lv_goto (tgt := 969) hx hb dL_law_965 (by decide) ?_
      refine cV (S := U9) (nA := 3) (As := [.int z10, .int z11, .int 1]) (rest := []) X w hl hR.v16 ((k_X16_sits G U9 hR z10 z11 1).post (fun v S9 h9 => PF.stp h9)) wY_X16_sits wM_L_192 wIn_X16_sits wSe_X16_X16_sits wI_X16 (by decide) rfl (by decide +kernel) rfl rfl dL_law_969 ⟨Nat.le_of_ble_eq_true rfl, Nat.le_of_ble_eq_true rfl⟩ (Nat.le_of_ble_eq_true rfl) (⟨by have := hgC.2; show cLw k gC gC + 1 ≤ 601024; unfold cLw; omega, by have := hgC.2; show sLw k gC gC + 6 ≤ 7293034; unfold sLw; omega⟩) (fun v U13 H locs hp w => ?_)
      obtain ⟨⟨x9U13, rfl⟩, hs⟩ := hp
      rw [eX, eM, eO] at hl
      have hLI := hs _ _ _ _ hLI
      obtain ⟨hC, hR, hE, hO, hZs, hgC, eX, eM, eO⟩ := id hLI
      rw [← eX, ← eM, ← eO] at hl
      refine lv_istore (lv' := [(6, .int x9U13), (5, .int k9U9), (0, .ref b), (1, .ref (gG U13 10 0)), (2, .ref (gG U13 16 0)), (3, .ref (gG U13 11 0)), (4, .int (nI ii))]) hx hb dL_law_972 hl (by decide) rfl (fun ls hl => ?_)
      refine lv_goto (tgt := 1585) hx hb dL_law_974 (by decide) ?_
      refine W.widen (k := cLw (k + 1) gC gC) (n := sLw (k + 1) gC gC) (by show cLw k gC gC + 1 ≤ _; unfold cLw; omega) (by show sLw k gC gC + 6 ≤ _; unfold sLw; omega) ?_
      rw [eX, eM, eO] at hl
      exact K _ _ _ H locs _ hLI w (lv_sub hl [2, 3, 4, 5, 6] rfl)

theorem dL_law_977 : decode cL_law 977 = .ok (.aload_n 1, 1) := by decide +kernel
theorem dL_law_978 : decode cL_law 978 = .ok (.aload_n 0, 1) := by decide +kernel
theorem dL_law_979 : decode cL_law 979 = .ok (.iload 4, 2) := by decide +kernel
theorem dL_law_981 : decode cL_law 981 = .ok (.iconst 1, 1) := by decide +kernel
theorem dL_law_982 : decode cL_law 982 = .ok (.iadd, 1) := by decide +kernel
theorem dL_law_983 : decode cL_law 983 = .ok (.iaload, 1) := by decide +kernel
theorem dL_law_984 : decode cL_law 984 = .ok (.aload_n 0, 1) := by decide +kernel
theorem dL_law_985 : decode cL_law 985 = .ok (.iload 4, 2) := by decide +kernel
theorem dL_law_987 : decode cL_law 987 = .ok (.iconst 2, 1) := by decide +kernel
theorem dL_law_988 : decode cL_law 988 = .ok (.iadd, 1) := by decide +kernel
theorem dL_law_989 : decode cL_law 989 = .ok (.iaload, 1) := by decide +kernel
theorem dL_law_990 : decode cL_law 990 = .ok (.aload_n 0, 1) := by decide +kernel
theorem dL_law_991 : decode cL_law 991 = .ok (.iload 4, 2) := by decide +kernel
theorem dL_law_993 : decode cL_law 993 = .ok (.iconst 3, 1) := by decide +kernel
theorem dL_law_994 : decode cL_law 994 = .ok (.iadd, 1) := by decide +kernel
theorem dL_law_995 : decode cL_law 995 = .ok (.iaload, 1) := by decide +kernel
theorem dL_law_996 : decode cL_law 996 = .ok (.aload_n 3, 1) := by decide +kernel
theorem dL_law_997 : decode cL_law 997 = .ok (.invokestatic 193, 3) := by decide +kernel
theorem dL_law_1000 : decode cL_law 1000 = .ok (.istore 5, 2) := by decide +kernel
theorem dL_law_1002 : decode cL_law 1002 = .ok (.aload_n 2, 1) := by decide +kernel
theorem dL_law_1003 : decode cL_law 1003 = .ok (.aload_n 0, 1) := by decide +kernel
theorem dL_law_1004 : decode cL_law 1004 = .ok (.iload 4, 2) := by decide +kernel
theorem dL_law_1006 : decode cL_law 1006 = .ok (.iconst 1, 1) := by decide +kernel
theorem dL_law_1007 : decode cL_law 1007 = .ok (.iadd, 1) := by decide +kernel
theorem dL_law_1008 : decode cL_law 1008 = .ok (.iaload, 1) := by decide +kernel
theorem dL_law_1009 : decode cL_law 1009 = .ok (.aload_n 0, 1) := by decide +kernel
theorem dL_law_1010 : decode cL_law 1010 = .ok (.iload 4, 2) := by decide +kernel
theorem dL_law_1012 : decode cL_law 1012 = .ok (.iconst 2, 1) := by decide +kernel
theorem dL_law_1013 : decode cL_law 1013 = .ok (.iadd, 1) := by decide +kernel
theorem dL_law_1014 : decode cL_law 1014 = .ok (.iaload, 1) := by decide +kernel
theorem dL_law_1015 : decode cL_law 1015 = .ok (.aload_n 0, 1) := by decide +kernel
theorem dL_law_1016 : decode cL_law 1016 = .ok (.iload 4, 2) := by decide +kernel
theorem dL_law_1018 : decode cL_law 1018 = .ok (.iconst 3, 1) := by decide +kernel
theorem dL_law_1019 : decode cL_law 1019 = .ok (.iadd, 1) := by decide +kernel
theorem dL_law_1020 : decode cL_law 1020 = .ok (.iaload, 1) := by decide +kernel
theorem dL_law_1021 : decode cL_law 1021 = .ok (.invokevirtual 195, 3) := by decide +kernel
theorem dL_law_1024 : decode cL_law 1024 = .ok (.istore 6, 2) := by decide +kernel
theorem dL_law_1026 : decode cL_law 1026 = .ok (.goto 559, 3) := by decide +kernel
set_option maxHeartbeats 4000000 in
set_option maxRecDepth 100000 in
theorem lo_17 {s : State} {l : Launch} {D : va_G} {cy : Nat → ClassId} (G : Gl s l D cy) {p : Program} {e : Env} {m : MethodId} {below : List Frame} {meth : Method} {c : Code} {ret9 : Option FieldType} {b L : Nat} {xs : Nat → Int32} (X : Cx s l D cy p s m #[Value.ref b] meth c cL_law 8 "CavershamShiftLaw" ret9) (hX : va_X b L xs s s.heap) (hbl : b < s.heap.size) {S : HS} {H : Heap} {locs : List Loc} {ls : Array Slot} {ii k gC : Nat} {cn : Cn} {ax am ao : Nat} {Q : State → Prop} (w : Wd s D cy S s.heap H locs) (hl : lv_has ls 8 [(0, .ref b), (1, .ref ax), (2, .ref am), (3, .ref ao), (4, .int (nI ii))]) (hLI : LI s S gC cn ax am ao) (hi : ii + 7 ≤ L) (hL9 : L ≤ 3584) (hk : k ≤ 511) (K : ∀ (U : HS) (gC1 : Nat) (cn1 : Cn) (H : Heap) (locs : List Loc) (ls : Array Slot), LI s U gC1 cn1 ax am ao → Wd s D cy U s.heap H locs → lv_has ls 8 [(0, .ref b), (1, .ref ax), (2, .ref am), (3, .ref ao), (4, .int (nI ii))] → W p l e room_1 s m #[Value.ref b] below meth c H locs (cLw (k + 1) gC1 gC1) (sLw (k + 1) gC1 gC1) Q (F0 m 1585 ls [])) : W p l e room_1 s m #[Value.ref b] below meth c H locs (cLw k gC gC) (sLw k gC gC) Q (F0 m 977 ls []) := by
  have hx := X.1
  have hb := X.2.1
  have hown := X.2.2.2.1
  have hts := X.2.2.2.2.1
  obtain ⟨hC, hR, hE, hO, hZs, hgC, eX, eM, eO⟩ := id hLI
  rw [← eX, ← eM, ← eO] at hl
  refine lv_aload_n hx hb dL_law_977 rfl (lv_at hl 1 rfl) ?_
  refine lv_aload_n hx hb dL_law_978 rfl (lv_at hl 0 rfl) ?_
  refine lv_iload hx hb dL_law_979 (lv_at hl 4 rfl) ?_
  refine lv_iconst (v := 1) hx hb dL_law_981 (by decide) ?_
  refine lv_iadd hx hb dL_law_982 ?_
  refine va_sld hx hb hX hbl (Nat.not_le.mpr hbl) w.2 (i := ((nI ii) + 1)) (by rw [show nI ii + 1 = nI (ii + 1) from nI_add ii 1]; exact nI_vp (by omega) (by omega)) dL_law_983 ?_
  refine lv_topi (fun z1 ez1 => ?_)
  refine lv_aload_n hx hb dL_law_984 rfl (lv_at hl 0 rfl) ?_
  refine lv_iload hx hb dL_law_985 (lv_at hl 4 rfl) ?_
  refine lv_iconst (v := 2) hx hb dL_law_987 (by decide) ?_
  refine lv_iadd hx hb dL_law_988 ?_
  refine va_sld hx hb hX hbl (Nat.not_le.mpr hbl) w.2 (i := ((nI ii) + 2)) (by rw [show nI ii + 2 = nI (ii + 2) from nI_add ii 2]; exact nI_vp (by omega) (by omega)) dL_law_989 ?_
  refine lv_topi (fun z2 ez2 => ?_)
  refine lv_aload_n hx hb dL_law_990 rfl (lv_at hl 0 rfl) ?_
  refine lv_iload hx hb dL_law_991 (lv_at hl 4 rfl) ?_
  refine lv_iconst (v := 3) hx hb dL_law_993 (by decide) ?_
  refine lv_iadd hx hb dL_law_994 ?_
  refine va_sld hx hb hX hbl (Nat.not_le.mpr hbl) w.2 (i := ((nI ii) + 3)) (by rw [show nI ii + 3 = nI (ii + 3) from nI_add ii 3]; exact nI_vp (by omega) (by omega)) dL_law_995 ?_
  refine lv_topi (fun z3 ez3 => ?_)
  refine lv_aload_n hx hb dL_law_996 rfl (lv_at hl 3 rfl) ?_
  refine cSW (S := S) (nA := 5) (As := [.ref (gG S 10 0), .int z1, .int z2, .int z3, .ref (gG S 11 0)]) (rest := []) X w hl ((w_L_quality G S hC hO hC.v10 z1 z2 z3).post (post' := PW s S cn) (fun v S9 h9 => by rcases h9 with ⟨-, rfl, rfl⟩ | ⟨-, rfl, S8, hC8, hB8, rfl⟩ <;> first | exact ⟨⟨_, rfl⟩, StpL.rf⟩ | exact ⟨⟨_, rfl⟩, StpL.ofCB hC8 hB8 (Or.inr (Or.inl ⟨_, rfl⟩))⟩)) wYW_L_quality wM_L_193 wSt_L_quality wI_L (by decide +kernel) rfl rfl dL_law_997 ⟨Nat.le_of_ble_eq_true rfl, Nat.le_of_ble_eq_true rfl⟩ (Nat.le_of_ble_eq_true rfl) (⟨by have := hgC.2; show cLw k gC gC + 1 ≤ 601024; unfold cLw; omega, by have := hgC.2; show sLw k gC gC + 6 ≤ 7293034; unfold sLw; omega⟩) (fun v U4 H locs hp w => ?_)
  obtain ⟨⟨k9U4, rfl⟩, hs⟩ := hp
  rw [eX, eM, eO] at hl
  have hLI := hs _ _ _ _ hLI
  obtain ⟨hC, hR, hE, hO, hZs, hgC, eX, eM, eO⟩ := id hLI
  rw [← eX, ← eM, ← eO] at hl
  refine lv_istore (lv' := [(5, .int k9U4), (0, .ref b), (1, .ref (gG U4 10 0)), (2, .ref (gG U4 16 0)), (3, .ref (gG U4 11 0)), (4, .int (nI ii))]) hx hb dL_law_1000 hl (by decide) rfl (fun ls hl => ?_)
  refine lv_aload_n hx hb dL_law_1002 rfl (lv_at hl 3 rfl) ?_
  refine lv_aload_n hx hb dL_law_1003 rfl (lv_at hl 1 rfl) ?_
  refine lv_iload hx hb dL_law_1004 (lv_at hl 5 rfl) ?_
  refine lv_iconst (v := 1) hx hb dL_law_1006 (by decide) ?_
  refine lv_iadd hx hb dL_law_1007 ?_
  refine va_sld hx hb hX hbl (Nat.not_le.mpr hbl) w.2 (i := ((nI ii) + 1)) (by rw [show nI ii + 1 = nI (ii + 1) from nI_add ii 1]; exact nI_vp (by omega) (by omega)) dL_law_1008 ?_
  refine lv_topi (fun z5 ez5 => ?_)
  refine lv_aload_n hx hb dL_law_1009 rfl (lv_at hl 1 rfl) ?_
  refine lv_iload hx hb dL_law_1010 (lv_at hl 5 rfl) ?_
  refine lv_iconst (v := 2) hx hb dL_law_1012 (by decide) ?_
  refine lv_iadd hx hb dL_law_1013 ?_
  refine va_sld hx hb hX hbl (Nat.not_le.mpr hbl) w.2 (i := ((nI ii) + 2)) (by rw [show nI ii + 2 = nI (ii + 2) from nI_add ii 2]; exact nI_vp (by omega) (by omega)) dL_law_1014 ?_
  refine lv_topi (fun z6 ez6 => ?_)
  refine lv_aload_n hx hb dL_law_1015 rfl (lv_at hl 1 rfl) ?_
  refine lv_iload hx hb dL_law_1016 (lv_at hl 5 rfl) ?_
  refine lv_iconst (v := 3) hx hb dL_law_1018 (by decide) ?_
  refine lv_iadd hx hb dL_law_1019 ?_
  refine va_sld hx hb hX hbl (Nat.not_le.mpr hbl) w.2 (i := ((nI ii) + 3)) (by rw [show nI ii + 3 = nI (ii + 3) from nI_add ii 3]; exact nI_vp (by omega) (by omega)) dL_law_1020 ?_
  refine lv_topi (fun z7 ez7 => ?_)
  refine cV (S := U4) (nA := 3) (As := [.int z5, .int z6, .int z7]) (rest := []) X w hl hR.v16 ((k_X16_quality G U4 hR z5 z6 z7).post (fun v S9 h9 => PF.stp h9)) wY_X16_quality wM_L_195 wIn_X16_quality wSe_X16_X16_quality wI_X16 (by decide) rfl (by decide +kernel) rfl rfl dL_law_1021 ⟨Nat.le_of_ble_eq_true rfl, Nat.le_of_ble_eq_true rfl⟩ (Nat.le_of_ble_eq_true rfl) (⟨by have := hgC.2; show cLw k gC gC + 1 ≤ 601024; unfold cLw; omega, by have := hgC.2; show sLw k gC gC + 6 ≤ 7293034; unfold sLw; omega⟩) (fun v U8 H locs hp w => ?_)
  obtain ⟨⟨x9U8, rfl⟩, hs⟩ := hp
  rw [eX, eM, eO] at hl
  have hLI := hs _ _ _ _ hLI
  obtain ⟨hC, hR, hE, hO, hZs, hgC, eX, eM, eO⟩ := id hLI
  rw [← eX, ← eM, ← eO] at hl
  refine lv_istore (lv' := [(6, .int x9U8), (5, .int k9U4), (0, .ref b), (1, .ref (gG U8 10 0)), (2, .ref (gG U8 16 0)), (3, .ref (gG U8 11 0)), (4, .int (nI ii))]) hx hb dL_law_1024 hl (by decide) rfl (fun ls hl => ?_)
  refine lv_goto (tgt := 1585) hx hb dL_law_1026 (by decide) ?_
  refine W.widen (k := cLw (k + 1) gC gC) (n := sLw (k + 1) gC gC) (by show cLw k gC gC + 1 ≤ _; unfold cLw; omega) (by show sLw k gC gC + 6 ≤ _; unfold sLw; omega) ?_
  rw [eX, eM, eO] at hl
  exact K _ _ _ H locs _ hLI w (lv_sub hl [2, 3, 4, 5, 6] rfl)

theorem dL_law_1029 : decode cL_law 1029 = .ok (.aload_n 1, 1) := by decide +kernel
theorem dL_law_1030 : decode cL_law 1030 = .ok (.aload_n 0, 1) := by decide +kernel
theorem dL_law_1031 : decode cL_law 1031 = .ok (.iload 4, 2) := by decide +kernel
theorem dL_law_1033 : decode cL_law 1033 = .ok (.iconst 1, 1) := by decide +kernel
theorem dL_law_1034 : decode cL_law 1034 = .ok (.iadd, 1) := by decide +kernel
theorem dL_law_1035 : decode cL_law 1035 = .ok (.iaload, 1) := by decide +kernel
theorem dL_law_1036 : decode cL_law 1036 = .ok (.aload_n 0, 1) := by decide +kernel
theorem dL_law_1037 : decode cL_law 1037 = .ok (.iload 4, 2) := by decide +kernel
theorem dL_law_1039 : decode cL_law 1039 = .ok (.iconst 2, 1) := by decide +kernel
theorem dL_law_1040 : decode cL_law 1040 = .ok (.iadd, 1) := by decide +kernel
theorem dL_law_1041 : decode cL_law 1041 = .ok (.iaload, 1) := by decide +kernel
theorem dL_law_1042 : decode cL_law 1042 = .ok (.aload_n 3, 1) := by decide +kernel
theorem dL_law_1043 : decode cL_law 1043 = .ok (.invokestatic 196, 3) := by decide +kernel
theorem dL_law_1046 : decode cL_law 1046 = .ok (.istore 5, 2) := by decide +kernel
theorem dL_law_1048 : decode cL_law 1048 = .ok (.aload_n 2, 1) := by decide +kernel
theorem dL_law_1049 : decode cL_law 1049 = .ok (.aload_n 0, 1) := by decide +kernel
theorem dL_law_1050 : decode cL_law 1050 = .ok (.iload 4, 2) := by decide +kernel
theorem dL_law_1052 : decode cL_law 1052 = .ok (.iconst 1, 1) := by decide +kernel
theorem dL_law_1053 : decode cL_law 1053 = .ok (.iadd, 1) := by decide +kernel
theorem dL_law_1054 : decode cL_law 1054 = .ok (.iaload, 1) := by decide +kernel
theorem dL_law_1055 : decode cL_law 1055 = .ok (.aload_n 0, 1) := by decide +kernel
theorem dL_law_1056 : decode cL_law 1056 = .ok (.iload 4, 2) := by decide +kernel
theorem dL_law_1058 : decode cL_law 1058 = .ok (.iconst 2, 1) := by decide +kernel
theorem dL_law_1059 : decode cL_law 1059 = .ok (.iadd, 1) := by decide +kernel
theorem dL_law_1060 : decode cL_law 1060 = .ok (.iaload, 1) := by decide +kernel
theorem dL_law_1061 : decode cL_law 1061 = .ok (.invokevirtual 198, 3) := by decide +kernel
theorem dL_law_1064 : decode cL_law 1064 = .ok (.istore 6, 2) := by decide +kernel
theorem dL_law_1066 : decode cL_law 1066 = .ok (.goto 519, 3) := by decide +kernel
set_option maxHeartbeats 4000000 in
set_option maxRecDepth 100000 in
theorem lo_18 {s : State} {l : Launch} {D : va_G} {cy : Nat → ClassId} (G : Gl s l D cy) {p : Program} {e : Env} {m : MethodId} {below : List Frame} {meth : Method} {c : Code} {ret9 : Option FieldType} {b L : Nat} {xs : Nat → Int32} (X : Cx s l D cy p s m #[Value.ref b] meth c cL_law 8 "CavershamShiftLaw" ret9) (hX : va_X b L xs s s.heap) (hbl : b < s.heap.size) {S : HS} {H : Heap} {locs : List Loc} {ls : Array Slot} {ii k gC : Nat} {cn : Cn} {ax am ao : Nat} {Q : State → Prop} (w : Wd s D cy S s.heap H locs) (hl : lv_has ls 8 [(0, .ref b), (1, .ref ax), (2, .ref am), (3, .ref ao), (4, .int (nI ii))]) (hLI : LI s S gC cn ax am ao) (hi : ii + 7 ≤ L) (hL9 : L ≤ 3584) (hk : k ≤ 511) (K : ∀ (U : HS) (gC1 : Nat) (cn1 : Cn) (H : Heap) (locs : List Loc) (ls : Array Slot), LI s U gC1 cn1 ax am ao → Wd s D cy U s.heap H locs → lv_has ls 8 [(0, .ref b), (1, .ref ax), (2, .ref am), (3, .ref ao), (4, .int (nI ii))] → W p l e room_1 s m #[Value.ref b] below meth c H locs (cLw (k + 1) gC1 gC1) (sLw (k + 1) gC1 gC1) Q (F0 m 1585 ls [])) : W p l e room_1 s m #[Value.ref b] below meth c H locs (cLw k gC gC) (sLw k gC gC) Q (F0 m 1029 ls []) := by
  have hx := X.1
  have hb := X.2.1
  have hown := X.2.2.2.1
  have hts := X.2.2.2.2.1
  obtain ⟨hC, hR, hE, hO, hZs, hgC, eX, eM, eO⟩ := id hLI
  rw [← eX, ← eM, ← eO] at hl
  refine lv_aload_n hx hb dL_law_1029 rfl (lv_at hl 1 rfl) ?_
  refine lv_aload_n hx hb dL_law_1030 rfl (lv_at hl 0 rfl) ?_
  refine lv_iload hx hb dL_law_1031 (lv_at hl 4 rfl) ?_
  refine lv_iconst (v := 1) hx hb dL_law_1033 (by decide) ?_
  refine lv_iadd hx hb dL_law_1034 ?_
  refine va_sld hx hb hX hbl (Nat.not_le.mpr hbl) w.2 (i := ((nI ii) + 1)) (by rw [show nI ii + 1 = nI (ii + 1) from nI_add ii 1]; exact nI_vp (by omega) (by omega)) dL_law_1035 ?_
  refine lv_topi (fun z1 ez1 => ?_)
  refine lv_aload_n hx hb dL_law_1036 rfl (lv_at hl 0 rfl) ?_
  refine lv_iload hx hb dL_law_1037 (lv_at hl 4 rfl) ?_
  refine lv_iconst (v := 2) hx hb dL_law_1039 (by decide) ?_
  refine lv_iadd hx hb dL_law_1040 ?_
  refine va_sld hx hb hX hbl (Nat.not_le.mpr hbl) w.2 (i := ((nI ii) + 2)) (by rw [show nI ii + 2 = nI (ii + 2) from nI_add ii 2]; exact nI_vp (by omega) (by omega)) dL_law_1041 ?_
  refine lv_topi (fun z2 ez2 => ?_)
  refine lv_aload_n hx hb dL_law_1042 rfl (lv_at hl 3 rfl) ?_
  refine cSW (S := S) (nA := 4) (As := [.ref (gG S 10 0), .int z1, .int z2, .ref (gG S 11 0)]) (rest := []) X w hl ((w_L_ofTalk G S hC hO hC.v10 z1 z2).post (post' := PW s S cn) (fun v S9 h9 => by rcases h9 with ⟨-, rfl, rfl⟩ | ⟨-, rfl, rfl⟩ | ⟨-, rfl, S8, hC8, hB8, rfl⟩ <;> first | exact ⟨⟨_, rfl⟩, StpL.rf⟩ | exact ⟨⟨_, rfl⟩, StpL.ofCB hC8 hB8 (Or.inr (Or.inl ⟨_, rfl⟩))⟩)) wYW_L_ofTalk wM_L_196 wSt_L_ofTalk wI_L (by decide +kernel) rfl rfl dL_law_1043 ⟨Nat.le_of_ble_eq_true rfl, Nat.le_of_ble_eq_true rfl⟩ (Nat.le_of_ble_eq_true rfl) (⟨by have := hgC.2; show cLw k gC gC + 1 ≤ 601024; unfold cLw; omega, by have := hgC.2; show sLw k gC gC + 6 ≤ 7293034; unfold sLw; omega⟩) (fun v U3 H locs hp w => ?_)
  obtain ⟨⟨k9U3, rfl⟩, hs⟩ := hp
  rw [eX, eM, eO] at hl
  have hLI := hs _ _ _ _ hLI
  obtain ⟨hC, hR, hE, hO, hZs, hgC, eX, eM, eO⟩ := id hLI
  rw [← eX, ← eM, ← eO] at hl
  refine lv_istore (lv' := [(5, .int k9U3), (0, .ref b), (1, .ref (gG U3 10 0)), (2, .ref (gG U3 16 0)), (3, .ref (gG U3 11 0)), (4, .int (nI ii))]) hx hb dL_law_1046 hl (by decide) rfl (fun ls hl => ?_)
  refine lv_aload_n hx hb dL_law_1048 rfl (lv_at hl 3 rfl) ?_
  refine lv_aload_n hx hb dL_law_1049 rfl (lv_at hl 1 rfl) ?_
  refine lv_iload hx hb dL_law_1050 (lv_at hl 5 rfl) ?_
  refine lv_iconst (v := 1) hx hb dL_law_1052 (by decide) ?_
  refine lv_iadd hx hb dL_law_1053 ?_
  refine va_sld hx hb hX hbl (Nat.not_le.mpr hbl) w.2 (i := ((nI ii) + 1)) (by rw [show nI ii + 1 = nI (ii + 1) from nI_add ii 1]; exact nI_vp (by omega) (by omega)) dL_law_1054 ?_
  refine lv_topi (fun z4 ez4 => ?_)
  refine lv_aload_n hx hb dL_law_1055 rfl (lv_at hl 1 rfl) ?_
  refine lv_iload hx hb dL_law_1056 (lv_at hl 5 rfl) ?_
  refine lv_iconst (v := 2) hx hb dL_law_1058 (by decide) ?_
  refine lv_iadd hx hb dL_law_1059 ?_
  refine va_sld hx hb hX hbl (Nat.not_le.mpr hbl) w.2 (i := ((nI ii) + 2)) (by rw [show nI ii + 2 = nI (ii + 2) from nI_add ii 2]; exact nI_vp (by omega) (by omega)) dL_law_1060 ?_
  refine lv_topi (fun z5 ez5 => ?_)
  refine cV (S := U3) (nA := 2) (As := [.int z4, .int z5]) (rest := []) X w hl hR.v16 ((k_X16_ofTalk G U3 hR z4 z5).post (fun v S9 h9 => PF.stp h9)) wY_X16_ofTalk wM_L_198 wIn_X16_ofTalk wSe_X16_X16_ofTalk wI_X16 (by decide) rfl (by decide +kernel) rfl rfl dL_law_1061 ⟨Nat.le_of_ble_eq_true rfl, Nat.le_of_ble_eq_true rfl⟩ (Nat.le_of_ble_eq_true rfl) (⟨by have := hgC.2; show cLw k gC gC + 2 ≤ 601024; unfold cLw; omega, by have := hgC.2; show sLw k gC gC + 14 ≤ 7293034; unfold sLw; omega⟩) (fun v U6 H locs hp w => ?_)
  obtain ⟨⟨x9U6, rfl⟩, hs⟩ := hp
  rw [eX, eM, eO] at hl
  have hLI := hs _ _ _ _ hLI
  obtain ⟨hC, hR, hE, hO, hZs, hgC, eX, eM, eO⟩ := id hLI
  rw [← eX, ← eM, ← eO] at hl
  refine lv_istore (lv' := [(6, .int x9U6), (5, .int k9U3), (0, .ref b), (1, .ref (gG U6 10 0)), (2, .ref (gG U6 16 0)), (3, .ref (gG U6 11 0)), (4, .int (nI ii))]) hx hb dL_law_1064 hl (by decide) rfl (fun ls hl => ?_)
  refine lv_goto (tgt := 1585) hx hb dL_law_1066 (by decide) ?_
  refine W.widen (k := cLw (k + 1) gC gC) (n := sLw (k + 1) gC gC) (by show cLw k gC gC + 2 ≤ _; unfold cLw; omega) (by show sLw k gC gC + 14 ≤ _; unfold sLw; omega) ?_
  rw [eX, eM, eO] at hl
  exact K _ _ _ H locs _ hLI w (lv_sub hl [2, 3, 4, 5, 6] rfl)

theorem dL_law_1069 : decode cL_law 1069 = .ok (.aload_n 1, 1) := by decide +kernel
theorem dL_law_1070 : decode cL_law 1070 = .ok (.aload_n 0, 1) := by decide +kernel
theorem dL_law_1071 : decode cL_law 1071 = .ok (.iload 4, 2) := by decide +kernel
theorem dL_law_1073 : decode cL_law 1073 = .ok (.iconst 1, 1) := by decide +kernel
theorem dL_law_1074 : decode cL_law 1074 = .ok (.iadd, 1) := by decide +kernel
theorem dL_law_1075 : decode cL_law 1075 = .ok (.iaload, 1) := by decide +kernel
theorem dL_law_1076 : decode cL_law 1076 = .ok (.aload_n 0, 1) := by decide +kernel
theorem dL_law_1077 : decode cL_law 1077 = .ok (.iload 4, 2) := by decide +kernel
theorem dL_law_1079 : decode cL_law 1079 = .ok (.iconst 2, 1) := by decide +kernel
theorem dL_law_1080 : decode cL_law 1080 = .ok (.iadd, 1) := by decide +kernel
theorem dL_law_1081 : decode cL_law 1081 = .ok (.iaload, 1) := by decide +kernel
theorem dL_law_1082 : decode cL_law 1082 = .ok (.aload_n 3, 1) := by decide +kernel
theorem dL_law_1083 : decode cL_law 1083 = .ok (.invokestatic 199, 3) := by decide +kernel
theorem dL_law_1086 : decode cL_law 1086 = .ok (.istore 5, 2) := by decide +kernel
theorem dL_law_1088 : decode cL_law 1088 = .ok (.aload_n 2, 1) := by decide +kernel
theorem dL_law_1089 : decode cL_law 1089 = .ok (.aload_n 0, 1) := by decide +kernel
theorem dL_law_1090 : decode cL_law 1090 = .ok (.iload 4, 2) := by decide +kernel
theorem dL_law_1092 : decode cL_law 1092 = .ok (.iconst 1, 1) := by decide +kernel
theorem dL_law_1093 : decode cL_law 1093 = .ok (.iadd, 1) := by decide +kernel
theorem dL_law_1094 : decode cL_law 1094 = .ok (.iaload, 1) := by decide +kernel
theorem dL_law_1095 : decode cL_law 1095 = .ok (.aload_n 0, 1) := by decide +kernel
theorem dL_law_1096 : decode cL_law 1096 = .ok (.iload 4, 2) := by decide +kernel
theorem dL_law_1098 : decode cL_law 1098 = .ok (.iconst 2, 1) := by decide +kernel
theorem dL_law_1099 : decode cL_law 1099 = .ok (.iadd, 1) := by decide +kernel
theorem dL_law_1100 : decode cL_law 1100 = .ok (.iaload, 1) := by decide +kernel
theorem dL_law_1101 : decode cL_law 1101 = .ok (.invokevirtual 201, 3) := by decide +kernel
theorem dL_law_1104 : decode cL_law 1104 = .ok (.istore 6, 2) := by decide +kernel
theorem dL_law_1106 : decode cL_law 1106 = .ok (.goto 479, 3) := by decide +kernel
set_option maxHeartbeats 4000000 in
set_option maxRecDepth 100000 in
theorem lo_19 {s : State} {l : Launch} {D : va_G} {cy : Nat → ClassId} (G : Gl s l D cy) {p : Program} {e : Env} {m : MethodId} {below : List Frame} {meth : Method} {c : Code} {ret9 : Option FieldType} {b L : Nat} {xs : Nat → Int32} (X : Cx s l D cy p s m #[Value.ref b] meth c cL_law 8 "CavershamShiftLaw" ret9) (hX : va_X b L xs s s.heap) (hbl : b < s.heap.size) {S : HS} {H : Heap} {locs : List Loc} {ls : Array Slot} {ii k gC : Nat} {cn : Cn} {ax am ao : Nat} {Q : State → Prop} (w : Wd s D cy S s.heap H locs) (hl : lv_has ls 8 [(0, .ref b), (1, .ref ax), (2, .ref am), (3, .ref ao), (4, .int (nI ii))]) (hLI : LI s S gC cn ax am ao) (hi : ii + 7 ≤ L) (hL9 : L ≤ 3584) (hk : k ≤ 511) (K : ∀ (U : HS) (gC1 : Nat) (cn1 : Cn) (H : Heap) (locs : List Loc) (ls : Array Slot), LI s U gC1 cn1 ax am ao → Wd s D cy U s.heap H locs → lv_has ls 8 [(0, .ref b), (1, .ref ax), (2, .ref am), (3, .ref ao), (4, .int (nI ii))] → W p l e room_1 s m #[Value.ref b] below meth c H locs (cLw (k + 1) gC1 gC1) (sLw (k + 1) gC1 gC1) Q (F0 m 1585 ls [])) : W p l e room_1 s m #[Value.ref b] below meth c H locs (cLw k gC gC) (sLw k gC gC) Q (F0 m 1069 ls []) := by
  have hx := X.1
  have hb := X.2.1
  have hown := X.2.2.2.1
  have hts := X.2.2.2.2.1
  obtain ⟨hC, hR, hE, hO, hZs, hgC, eX, eM, eO⟩ := id hLI
  rw [← eX, ← eM, ← eO] at hl
  refine lv_aload_n hx hb dL_law_1069 rfl (lv_at hl 1 rfl) ?_
  refine lv_aload_n hx hb dL_law_1070 rfl (lv_at hl 0 rfl) ?_
  refine lv_iload hx hb dL_law_1071 (lv_at hl 4 rfl) ?_
  refine lv_iconst (v := 1) hx hb dL_law_1073 (by decide) ?_
  refine lv_iadd hx hb dL_law_1074 ?_
  refine va_sld hx hb hX hbl (Nat.not_le.mpr hbl) w.2 (i := ((nI ii) + 1)) (by rw [show nI ii + 1 = nI (ii + 1) from nI_add ii 1]; exact nI_vp (by omega) (by omega)) dL_law_1075 ?_
  refine lv_topi (fun z1 ez1 => ?_)
  refine lv_aload_n hx hb dL_law_1076 rfl (lv_at hl 0 rfl) ?_
  refine lv_iload hx hb dL_law_1077 (lv_at hl 4 rfl) ?_
  refine lv_iconst (v := 2) hx hb dL_law_1079 (by decide) ?_
  refine lv_iadd hx hb dL_law_1080 ?_
  refine va_sld hx hb hX hbl (Nat.not_le.mpr hbl) w.2 (i := ((nI ii) + 2)) (by rw [show nI ii + 2 = nI (ii + 2) from nI_add ii 2]; exact nI_vp (by omega) (by omega)) dL_law_1081 ?_
  refine lv_topi (fun z2 ez2 => ?_)
  refine lv_aload_n hx hb dL_law_1082 rfl (lv_at hl 3 rfl) ?_
  refine cSW (S := S) (nA := 4) (As := [.ref (gG S 10 0), .int z1, .int z2, .ref (gG S 11 0)]) (rest := []) X w hl ((w_L_ofReport G S hC hO hC.v10 z1 z2).post (post' := PW s S cn) (fun v S9 h9 => by rcases h9 with ⟨-, rfl, rfl⟩ | ⟨-, rfl, rfl⟩ | ⟨-, rfl, S8, hC8, hB8, rfl⟩ <;> first | exact ⟨⟨_, rfl⟩, StpL.rf⟩ | exact ⟨⟨_, rfl⟩, StpL.ofCB hC8 hB8 (Or.inr (Or.inl ⟨_, rfl⟩))⟩)) wYW_L_ofReport wM_L_199 wSt_L_ofReport wI_L (by decide +kernel) rfl rfl dL_law_1083 ⟨Nat.le_of_ble_eq_true rfl, Nat.le_of_ble_eq_true rfl⟩ (Nat.le_of_ble_eq_true rfl) (⟨by have := hgC.2; show cLw k gC gC + 1 ≤ 601024; unfold cLw; omega, by have := hgC.2; show sLw k gC gC + 6 ≤ 7293034; unfold sLw; omega⟩) (fun v U3 H locs hp w => ?_)
  obtain ⟨⟨k9U3, rfl⟩, hs⟩ := hp
  rw [eX, eM, eO] at hl
  have hLI := hs _ _ _ _ hLI
  obtain ⟨hC, hR, hE, hO, hZs, hgC, eX, eM, eO⟩ := id hLI
  rw [← eX, ← eM, ← eO] at hl
  refine lv_istore (lv' := [(5, .int k9U3), (0, .ref b), (1, .ref (gG U3 10 0)), (2, .ref (gG U3 16 0)), (3, .ref (gG U3 11 0)), (4, .int (nI ii))]) hx hb dL_law_1086 hl (by decide) rfl (fun ls hl => ?_)
  refine lv_aload_n hx hb dL_law_1088 rfl (lv_at hl 3 rfl) ?_
  refine lv_aload_n hx hb dL_law_1089 rfl (lv_at hl 1 rfl) ?_
  refine lv_iload hx hb dL_law_1090 (lv_at hl 5 rfl) ?_
  refine lv_iconst (v := 1) hx hb dL_law_1092 (by decide) ?_
  refine lv_iadd hx hb dL_law_1093 ?_
  refine va_sld hx hb hX hbl (Nat.not_le.mpr hbl) w.2 (i := ((nI ii) + 1)) (by rw [show nI ii + 1 = nI (ii + 1) from nI_add ii 1]; exact nI_vp (by omega) (by omega)) dL_law_1094 ?_
  refine lv_topi (fun z4 ez4 => ?_)
  refine lv_aload_n hx hb dL_law_1095 rfl (lv_at hl 1 rfl) ?_
  refine lv_iload hx hb dL_law_1096 (lv_at hl 5 rfl) ?_
  refine lv_iconst (v := 2) hx hb dL_law_1098 (by decide) ?_
  refine lv_iadd hx hb dL_law_1099 ?_
  refine va_sld hx hb hX hbl (Nat.not_le.mpr hbl) w.2 (i := ((nI ii) + 2)) (by rw [show nI ii + 2 = nI (ii + 2) from nI_add ii 2]; exact nI_vp (by omega) (by omega)) dL_law_1100 ?_
  refine lv_topi (fun z5 ez5 => ?_)
  refine cV (S := U3) (nA := 2) (As := [.int z4, .int z5]) (rest := []) X w hl hR.v16 ((k_X16_ofReport G U3 hR z4 z5).post (fun v S9 h9 => PF.stp h9)) wY_X16_ofReport wM_L_201 wIn_X16_ofReport wSe_X16_X16_ofReport wI_X16 (by decide) rfl (by decide +kernel) rfl rfl dL_law_1101 ⟨Nat.le_of_ble_eq_true rfl, Nat.le_of_ble_eq_true rfl⟩ (Nat.le_of_ble_eq_true rfl) (⟨by have := hgC.2; show cLw k gC gC + 2 ≤ 601024; unfold cLw; omega, by have := hgC.2; show sLw k gC gC + 18 ≤ 7293034; unfold sLw; omega⟩) (fun v U6 H locs hp w => ?_)
  obtain ⟨⟨x9U6, rfl⟩, hs⟩ := hp
  rw [eX, eM, eO] at hl
  have hLI := hs _ _ _ _ hLI
  obtain ⟨hC, hR, hE, hO, hZs, hgC, eX, eM, eO⟩ := id hLI
  rw [← eX, ← eM, ← eO] at hl
  refine lv_istore (lv' := [(6, .int x9U6), (5, .int k9U3), (0, .ref b), (1, .ref (gG U6 10 0)), (2, .ref (gG U6 16 0)), (3, .ref (gG U6 11 0)), (4, .int (nI ii))]) hx hb dL_law_1104 hl (by decide) rfl (fun ls hl => ?_)
  refine lv_goto (tgt := 1585) hx hb dL_law_1106 (by decide) ?_
  refine W.widen (k := cLw (k + 1) gC gC) (n := sLw (k + 1) gC gC) (by show cLw k gC gC + 2 ≤ _; unfold cLw; omega) (by show sLw k gC gC + 18 ≤ _; unfold sLw; omega) ?_
  rw [eX, eM, eO] at hl
  exact K _ _ _ H locs _ hLI w (lv_sub hl [2, 3, 4, 5, 6] rfl)

theorem dL_law_1109 : decode cL_law 1109 = .ok (.aload_n 1, 1) := by decide +kernel
theorem dL_law_1110 : decode cL_law 1110 = .ok (.aload_n 0, 1) := by decide +kernel
theorem dL_law_1111 : decode cL_law 1111 = .ok (.iload 4, 2) := by decide +kernel
theorem dL_law_1113 : decode cL_law 1113 = .ok (.iconst 1, 1) := by decide +kernel
theorem dL_law_1114 : decode cL_law 1114 = .ok (.iadd, 1) := by decide +kernel
theorem dL_law_1115 : decode cL_law 1115 = .ok (.iaload, 1) := by decide +kernel
theorem dL_law_1116 : decode cL_law 1116 = .ok (.aload_n 0, 1) := by decide +kernel
theorem dL_law_1117 : decode cL_law 1117 = .ok (.iload 4, 2) := by decide +kernel
theorem dL_law_1119 : decode cL_law 1119 = .ok (.iconst 2, 1) := by decide +kernel
theorem dL_law_1120 : decode cL_law 1120 = .ok (.iadd, 1) := by decide +kernel
theorem dL_law_1121 : decode cL_law 1121 = .ok (.iaload, 1) := by decide +kernel
theorem dL_law_1122 : decode cL_law 1122 = .ok (.aload_n 3, 1) := by decide +kernel
theorem dL_law_1123 : decode cL_law 1123 = .ok (.invokestatic 202, 3) := by decide +kernel
theorem dL_law_1126 : decode cL_law 1126 = .ok (.istore 5, 2) := by decide +kernel
theorem dL_law_1128 : decode cL_law 1128 = .ok (.aload_n 2, 1) := by decide +kernel
theorem dL_law_1129 : decode cL_law 1129 = .ok (.aload_n 0, 1) := by decide +kernel
theorem dL_law_1130 : decode cL_law 1130 = .ok (.iload 4, 2) := by decide +kernel
theorem dL_law_1132 : decode cL_law 1132 = .ok (.iconst 1, 1) := by decide +kernel
theorem dL_law_1133 : decode cL_law 1133 = .ok (.iadd, 1) := by decide +kernel
theorem dL_law_1134 : decode cL_law 1134 = .ok (.iaload, 1) := by decide +kernel
theorem dL_law_1135 : decode cL_law 1135 = .ok (.aload_n 0, 1) := by decide +kernel
theorem dL_law_1136 : decode cL_law 1136 = .ok (.iload 4, 2) := by decide +kernel
theorem dL_law_1138 : decode cL_law 1138 = .ok (.iconst 2, 1) := by decide +kernel
theorem dL_law_1139 : decode cL_law 1139 = .ok (.iadd, 1) := by decide +kernel
theorem dL_law_1140 : decode cL_law 1140 = .ok (.iaload, 1) := by decide +kernel
theorem dL_law_1141 : decode cL_law 1141 = .ok (.invokevirtual 204, 3) := by decide +kernel
theorem dL_law_1144 : decode cL_law 1144 = .ok (.istore 6, 2) := by decide +kernel
theorem dL_law_1146 : decode cL_law 1146 = .ok (.goto 439, 3) := by decide +kernel
set_option maxHeartbeats 4000000 in
set_option maxRecDepth 100000 in
theorem lo_20 {s : State} {l : Launch} {D : va_G} {cy : Nat → ClassId} (G : Gl s l D cy) {p : Program} {e : Env} {m : MethodId} {below : List Frame} {meth : Method} {c : Code} {ret9 : Option FieldType} {b L : Nat} {xs : Nat → Int32} (X : Cx s l D cy p s m #[Value.ref b] meth c cL_law 8 "CavershamShiftLaw" ret9) (hX : va_X b L xs s s.heap) (hbl : b < s.heap.size) {S : HS} {H : Heap} {locs : List Loc} {ls : Array Slot} {ii k gC : Nat} {cn : Cn} {ax am ao : Nat} {Q : State → Prop} (w : Wd s D cy S s.heap H locs) (hl : lv_has ls 8 [(0, .ref b), (1, .ref ax), (2, .ref am), (3, .ref ao), (4, .int (nI ii))]) (hLI : LI s S gC cn ax am ao) (hi : ii + 7 ≤ L) (hL9 : L ≤ 3584) (hk : k ≤ 511) (K : ∀ (U : HS) (gC1 : Nat) (cn1 : Cn) (H : Heap) (locs : List Loc) (ls : Array Slot), LI s U gC1 cn1 ax am ao → Wd s D cy U s.heap H locs → lv_has ls 8 [(0, .ref b), (1, .ref ax), (2, .ref am), (3, .ref ao), (4, .int (nI ii))] → W p l e room_1 s m #[Value.ref b] below meth c H locs (cLw (k + 1) gC1 gC1) (sLw (k + 1) gC1 gC1) Q (F0 m 1585 ls [])) : W p l e room_1 s m #[Value.ref b] below meth c H locs (cLw k gC gC) (sLw k gC gC) Q (F0 m 1109 ls []) := by
  have hx := X.1
  have hb := X.2.1
  have hown := X.2.2.2.1
  have hts := X.2.2.2.2.1
  obtain ⟨hC, hR, hE, hO, hZs, hgC, eX, eM, eO⟩ := id hLI
  rw [← eX, ← eM, ← eO] at hl
  refine lv_aload_n hx hb dL_law_1109 rfl (lv_at hl 1 rfl) ?_
  refine lv_aload_n hx hb dL_law_1110 rfl (lv_at hl 0 rfl) ?_
  refine lv_iload hx hb dL_law_1111 (lv_at hl 4 rfl) ?_
  refine lv_iconst (v := 1) hx hb dL_law_1113 (by decide) ?_
  refine lv_iadd hx hb dL_law_1114 ?_
  refine va_sld hx hb hX hbl (Nat.not_le.mpr hbl) w.2 (i := ((nI ii) + 1)) (by rw [show nI ii + 1 = nI (ii + 1) from nI_add ii 1]; exact nI_vp (by omega) (by omega)) dL_law_1115 ?_
  refine lv_topi (fun z1 ez1 => ?_)
  refine lv_aload_n hx hb dL_law_1116 rfl (lv_at hl 0 rfl) ?_
  refine lv_iload hx hb dL_law_1117 (lv_at hl 4 rfl) ?_
  refine lv_iconst (v := 2) hx hb dL_law_1119 (by decide) ?_
  refine lv_iadd hx hb dL_law_1120 ?_
  refine va_sld hx hb hX hbl (Nat.not_le.mpr hbl) w.2 (i := ((nI ii) + 2)) (by rw [show nI ii + 2 = nI (ii + 2) from nI_add ii 2]; exact nI_vp (by omega) (by omega)) dL_law_1121 ?_
  refine lv_topi (fun z2 ez2 => ?_)
  refine lv_aload_n hx hb dL_law_1122 rfl (lv_at hl 3 rfl) ?_
  refine cSW (S := S) (nA := 4) (As := [.ref (gG S 10 0), .int z1, .int z2, .ref (gG S 11 0)]) (rest := []) X w hl ((w_L_got G S hC hO hC.v10 z1 z2).post (post' := PW s S cn) (fun v S9 h9 => by rcases h9 with ⟨-, rfl, rfl⟩ | ⟨-, rfl, S8, hC8, hB8, rfl⟩ <;> first | exact ⟨⟨_, rfl⟩, StpL.rf⟩ | exact ⟨⟨_, rfl⟩, StpL.ofCB hC8 hB8 (Or.inr (Or.inl ⟨_, rfl⟩))⟩)) wYW_L_got wM_L_202 wSt_L_got wI_L (by decide +kernel) rfl rfl dL_law_1123 ⟨Nat.le_of_ble_eq_true rfl, Nat.le_of_ble_eq_true rfl⟩ (Nat.le_of_ble_eq_true rfl) (⟨by have := hgC.2; show cLw k gC gC + 1 ≤ 601024; unfold cLw; omega, by have := hgC.2; show sLw k gC gC + 6 ≤ 7293034; unfold sLw; omega⟩) (fun v U3 H locs hp w => ?_)
  obtain ⟨⟨k9U3, rfl⟩, hs⟩ := hp
  rw [eX, eM, eO] at hl
  have hLI := hs _ _ _ _ hLI
  obtain ⟨hC, hR, hE, hO, hZs, hgC, eX, eM, eO⟩ := id hLI
  rw [← eX, ← eM, ← eO] at hl
  refine lv_istore (lv' := [(5, .int k9U3), (0, .ref b), (1, .ref (gG U3 10 0)), (2, .ref (gG U3 16 0)), (3, .ref (gG U3 11 0)), (4, .int (nI ii))]) hx hb dL_law_1126 hl (by decide) rfl (fun ls hl => ?_)
  refine lv_aload_n hx hb dL_law_1128 rfl (lv_at hl 3 rfl) ?_
  refine lv_aload_n hx hb dL_law_1129 rfl (lv_at hl 1 rfl) ?_
  refine lv_iload hx hb dL_law_1130 (lv_at hl 5 rfl) ?_
  refine lv_iconst (v := 1) hx hb dL_law_1132 (by decide) ?_
  refine lv_iadd hx hb dL_law_1133 ?_
  refine va_sld hx hb hX hbl (Nat.not_le.mpr hbl) w.2 (i := ((nI ii) + 1)) (by rw [show nI ii + 1 = nI (ii + 1) from nI_add ii 1]; exact nI_vp (by omega) (by omega)) dL_law_1134 ?_
  refine lv_topi (fun z4 ez4 => ?_)
  refine lv_aload_n hx hb dL_law_1135 rfl (lv_at hl 1 rfl) ?_
  refine lv_iload hx hb dL_law_1136 (lv_at hl 5 rfl) ?_
  refine lv_iconst (v := 2) hx hb dL_law_1138 (by decide) ?_
  refine lv_iadd hx hb dL_law_1139 ?_
  refine va_sld hx hb hX hbl (Nat.not_le.mpr hbl) w.2 (i := ((nI ii) + 2)) (by rw [show nI ii + 2 = nI (ii + 2) from nI_add ii 2]; exact nI_vp (by omega) (by omega)) dL_law_1140 ?_
  refine lv_topi (fun z5 ez5 => ?_)
  refine cV (S := U3) (nA := 2) (As := [.int z4, .int z5]) (rest := []) X w hl hR.v16 ((k_X16_got G U3 hR z4 z5).post (fun v S9 h9 => PF.stp h9)) wY_X16_got wM_L_204 wIn_X16_got wSe_X16_X16_got wI_X16 (by decide) rfl (by decide +kernel) rfl rfl dL_law_1141 ⟨Nat.le_of_ble_eq_true rfl, Nat.le_of_ble_eq_true rfl⟩ (Nat.le_of_ble_eq_true rfl) (⟨by have := hgC.2; show cLw k gC gC + 1 ≤ 601024; unfold cLw; omega, by have := hgC.2; show sLw k gC gC + 6 ≤ 7293034; unfold sLw; omega⟩) (fun v U6 H locs hp w => ?_)
  obtain ⟨⟨x9U6, rfl⟩, hs⟩ := hp
  rw [eX, eM, eO] at hl
  have hLI := hs _ _ _ _ hLI
  obtain ⟨hC, hR, hE, hO, hZs, hgC, eX, eM, eO⟩ := id hLI
  rw [← eX, ← eM, ← eO] at hl
  refine lv_istore (lv' := [(6, .int x9U6), (5, .int k9U3), (0, .ref b), (1, .ref (gG U6 10 0)), (2, .ref (gG U6 16 0)), (3, .ref (gG U6 11 0)), (4, .int (nI ii))]) hx hb dL_law_1144 hl (by decide) rfl (fun ls hl => ?_)
  refine lv_goto (tgt := 1585) hx hb dL_law_1146 (by decide) ?_
  refine W.widen (k := cLw (k + 1) gC gC) (n := sLw (k + 1) gC gC) (by show cLw k gC gC + 1 ≤ _; unfold cLw; omega) (by show sLw k gC gC + 6 ≤ _; unfold sLw; omega) ?_
  rw [eX, eM, eO] at hl
  exact K _ _ _ H locs _ hLI w (lv_sub hl [2, 3, 4, 5, 6] rfl)

theorem dL_law_1149 : decode cL_law 1149 = .ok (.aload_n 1, 1) := by decide +kernel
theorem dL_law_1150 : decode cL_law 1150 = .ok (.aload_n 0, 1) := by decide +kernel
theorem dL_law_1151 : decode cL_law 1151 = .ok (.iload 4, 2) := by decide +kernel
theorem dL_law_1153 : decode cL_law 1153 = .ok (.iconst 1, 1) := by decide +kernel
theorem dL_law_1154 : decode cL_law 1154 = .ok (.iadd, 1) := by decide +kernel
theorem dL_law_1155 : decode cL_law 1155 = .ok (.iaload, 1) := by decide +kernel
theorem dL_law_1156 : decode cL_law 1156 = .ok (.aload_n 0, 1) := by decide +kernel
theorem dL_law_1157 : decode cL_law 1157 = .ok (.iload 4, 2) := by decide +kernel
theorem dL_law_1159 : decode cL_law 1159 = .ok (.iconst 2, 1) := by decide +kernel
theorem dL_law_1160 : decode cL_law 1160 = .ok (.iadd, 1) := by decide +kernel
theorem dL_law_1161 : decode cL_law 1161 = .ok (.iaload, 1) := by decide +kernel
theorem dL_law_1162 : decode cL_law 1162 = .ok (.aload_n 3, 1) := by decide +kernel
theorem dL_law_1163 : decode cL_law 1163 = .ok (.invokestatic 205, 3) := by decide +kernel
theorem dL_law_1166 : decode cL_law 1166 = .ok (.istore 5, 2) := by decide +kernel
theorem dL_law_1168 : decode cL_law 1168 = .ok (.aload_n 2, 1) := by decide +kernel
theorem dL_law_1169 : decode cL_law 1169 = .ok (.aload_n 0, 1) := by decide +kernel
theorem dL_law_1170 : decode cL_law 1170 = .ok (.iload 4, 2) := by decide +kernel
theorem dL_law_1172 : decode cL_law 1172 = .ok (.iconst 1, 1) := by decide +kernel
theorem dL_law_1173 : decode cL_law 1173 = .ok (.iadd, 1) := by decide +kernel
theorem dL_law_1174 : decode cL_law 1174 = .ok (.iaload, 1) := by decide +kernel
theorem dL_law_1175 : decode cL_law 1175 = .ok (.aload_n 0, 1) := by decide +kernel
theorem dL_law_1176 : decode cL_law 1176 = .ok (.iload 4, 2) := by decide +kernel
theorem dL_law_1178 : decode cL_law 1178 = .ok (.iconst 2, 1) := by decide +kernel
theorem dL_law_1179 : decode cL_law 1179 = .ok (.iadd, 1) := by decide +kernel
theorem dL_law_1180 : decode cL_law 1180 = .ok (.iaload, 1) := by decide +kernel
theorem dL_law_1181 : decode cL_law 1181 = .ok (.invokevirtual 207, 3) := by decide +kernel
theorem dL_law_1184 : decode cL_law 1184 = .ok (.istore 6, 2) := by decide +kernel
theorem dL_law_1186 : decode cL_law 1186 = .ok (.goto 399, 3) := by decide +kernel
set_option maxHeartbeats 4000000 in
set_option maxRecDepth 100000 in
theorem lo_21 {s : State} {l : Launch} {D : va_G} {cy : Nat → ClassId} (G : Gl s l D cy) {p : Program} {e : Env} {m : MethodId} {below : List Frame} {meth : Method} {c : Code} {ret9 : Option FieldType} {b L : Nat} {xs : Nat → Int32} (X : Cx s l D cy p s m #[Value.ref b] meth c cL_law 8 "CavershamShiftLaw" ret9) (hX : va_X b L xs s s.heap) (hbl : b < s.heap.size) {S : HS} {H : Heap} {locs : List Loc} {ls : Array Slot} {ii k gC : Nat} {cn : Cn} {ax am ao : Nat} {Q : State → Prop} (w : Wd s D cy S s.heap H locs) (hl : lv_has ls 8 [(0, .ref b), (1, .ref ax), (2, .ref am), (3, .ref ao), (4, .int (nI ii))]) (hLI : LI s S gC cn ax am ao) (hi : ii + 7 ≤ L) (hL9 : L ≤ 3584) (hk : k ≤ 511) (K : ∀ (U : HS) (gC1 : Nat) (cn1 : Cn) (H : Heap) (locs : List Loc) (ls : Array Slot), LI s U gC1 cn1 ax am ao → Wd s D cy U s.heap H locs → lv_has ls 8 [(0, .ref b), (1, .ref ax), (2, .ref am), (3, .ref ao), (4, .int (nI ii))] → W p l e room_1 s m #[Value.ref b] below meth c H locs (cLw (k + 1) gC1 gC1) (sLw (k + 1) gC1 gC1) Q (F0 m 1585 ls [])) : W p l e room_1 s m #[Value.ref b] below meth c H locs (cLw k gC gC) (sLw k gC gC) Q (F0 m 1149 ls []) := by
  have hx := X.1
  have hb := X.2.1
  have hown := X.2.2.2.1
  have hts := X.2.2.2.2.1
  obtain ⟨hC, hR, hE, hO, hZs, hgC, eX, eM, eO⟩ := id hLI
  rw [← eX, ← eM, ← eO] at hl
  refine lv_aload_n hx hb dL_law_1149 rfl (lv_at hl 1 rfl) ?_
  refine lv_aload_n hx hb dL_law_1150 rfl (lv_at hl 0 rfl) ?_
  refine lv_iload hx hb dL_law_1151 (lv_at hl 4 rfl) ?_
  refine lv_iconst (v := 1) hx hb dL_law_1153 (by decide) ?_
  refine lv_iadd hx hb dL_law_1154 ?_
  refine va_sld hx hb hX hbl (Nat.not_le.mpr hbl) w.2 (i := ((nI ii) + 1)) (by rw [show nI ii + 1 = nI (ii + 1) from nI_add ii 1]; exact nI_vp (by omega) (by omega)) dL_law_1155 ?_
  refine lv_topi (fun z1 ez1 => ?_)
  refine lv_aload_n hx hb dL_law_1156 rfl (lv_at hl 0 rfl) ?_
  refine lv_iload hx hb dL_law_1157 (lv_at hl 4 rfl) ?_
  refine lv_iconst (v := 2) hx hb dL_law_1159 (by decide) ?_
  refine lv_iadd hx hb dL_law_1160 ?_
  refine va_sld hx hb hX hbl (Nat.not_le.mpr hbl) w.2 (i := ((nI ii) + 2)) (by rw [show nI ii + 2 = nI (ii + 2) from nI_add ii 2]; exact nI_vp (by omega) (by omega)) dL_law_1161 ?_
  refine lv_topi (fun z2 ez2 => ?_)
  refine lv_aload_n hx hb dL_law_1162 rfl (lv_at hl 3 rfl) ?_
  refine cSW (S := S) (nA := 4) (As := [.ref (gG S 10 0), .int z1, .int z2, .ref (gG S 11 0)]) (rest := []) X w hl ((w_L_ofReader G S hC hO hC.v10 z1 z2).post (post' := PW s S cn) (fun v S9 h9 => by rcases h9 with ⟨-, rfl, rfl⟩ | ⟨-, rfl, rfl⟩ | ⟨-, rfl, S8, hC8, hB8, rfl⟩ <;> first | exact ⟨⟨_, rfl⟩, StpL.rf⟩ | exact ⟨⟨_, rfl⟩, StpL.ofCB hC8 hB8 (Or.inr (Or.inl ⟨_, rfl⟩))⟩)) wYW_L_ofReader wM_L_205 wSt_L_ofReader wI_L (by decide +kernel) rfl rfl dL_law_1163 ⟨Nat.le_of_ble_eq_true rfl, Nat.le_of_ble_eq_true rfl⟩ (Nat.le_of_ble_eq_true rfl) (⟨by have := hgC.2; show cLw k gC gC + 1 ≤ 601024; unfold cLw; omega, by have := hgC.2; show sLw k gC gC + 6 ≤ 7293034; unfold sLw; omega⟩) (fun v U3 H locs hp w => ?_)
  obtain ⟨⟨k9U3, rfl⟩, hs⟩ := hp
  rw [eX, eM, eO] at hl
  have hLI := hs _ _ _ _ hLI
  obtain ⟨hC, hR, hE, hO, hZs, hgC, eX, eM, eO⟩ := id hLI
  rw [← eX, ← eM, ← eO] at hl
  refine lv_istore (lv' := [(5, .int k9U3), (0, .ref b), (1, .ref (gG U3 10 0)), (2, .ref (gG U3 16 0)), (3, .ref (gG U3 11 0)), (4, .int (nI ii))]) hx hb dL_law_1166 hl (by decide) rfl (fun ls hl => ?_)
  refine lv_aload_n hx hb dL_law_1168 rfl (lv_at hl 3 rfl) ?_
  refine lv_aload_n hx hb dL_law_1169 rfl (lv_at hl 1 rfl) ?_
  refine lv_iload hx hb dL_law_1170 (lv_at hl 5 rfl) ?_
  refine lv_iconst (v := 1) hx hb dL_law_1172 (by decide) ?_
  refine lv_iadd hx hb dL_law_1173 ?_
  refine va_sld hx hb hX hbl (Nat.not_le.mpr hbl) w.2 (i := ((nI ii) + 1)) (by rw [show nI ii + 1 = nI (ii + 1) from nI_add ii 1]; exact nI_vp (by omega) (by omega)) dL_law_1174 ?_
  refine lv_topi (fun z4 ez4 => ?_)
  refine lv_aload_n hx hb dL_law_1175 rfl (lv_at hl 1 rfl) ?_
  refine lv_iload hx hb dL_law_1176 (lv_at hl 5 rfl) ?_
  refine lv_iconst (v := 2) hx hb dL_law_1178 (by decide) ?_
  refine lv_iadd hx hb dL_law_1179 ?_
  refine va_sld hx hb hX hbl (Nat.not_le.mpr hbl) w.2 (i := ((nI ii) + 2)) (by rw [show nI ii + 2 = nI (ii + 2) from nI_add ii 2]; exact nI_vp (by omega) (by omega)) dL_law_1180 ?_
  refine lv_topi (fun z5 ez5 => ?_)
  refine cV (S := U3) (nA := 2) (As := [.int z4, .int z5]) (rest := []) X w hl hR.v16 ((k_X16_ofReader G U3 hR z4 z5).post (fun v S9 h9 => PF.stp h9)) wY_X16_ofReader wM_L_207 wIn_X16_ofReader wSe_X16_X16_ofReader wI_X16 (by decide) rfl (by decide +kernel) rfl rfl dL_law_1181 ⟨Nat.le_of_ble_eq_true rfl, Nat.le_of_ble_eq_true rfl⟩ (Nat.le_of_ble_eq_true rfl) (⟨by have := hgC.2; show cLw k gC gC + 2 ≤ 601024; unfold cLw; omega, by have := hgC.2; show sLw k gC gC + 11 ≤ 7293034; unfold sLw; omega⟩) (fun v U6 H locs hp w => ?_)
  obtain ⟨⟨x9U6, rfl⟩, hs⟩ := hp
  rw [eX, eM, eO] at hl
  have hLI := hs _ _ _ _ hLI
  obtain ⟨hC, hR, hE, hO, hZs, hgC, eX, eM, eO⟩ := id hLI
  rw [← eX, ← eM, ← eO] at hl
  refine lv_istore (lv' := [(6, .int x9U6), (5, .int k9U3), (0, .ref b), (1, .ref (gG U6 10 0)), (2, .ref (gG U6 16 0)), (3, .ref (gG U6 11 0)), (4, .int (nI ii))]) hx hb dL_law_1184 hl (by decide) rfl (fun ls hl => ?_)
  refine lv_goto (tgt := 1585) hx hb dL_law_1186 (by decide) ?_
  refine W.widen (k := cLw (k + 1) gC gC) (n := sLw (k + 1) gC gC) (by show cLw k gC gC + 2 ≤ _; unfold cLw; omega) (by show sLw k gC gC + 11 ≤ _; unfold sLw; omega) ?_
  rw [eX, eM, eO] at hl
  exact K _ _ _ H locs _ hLI w (lv_sub hl [2, 3, 4, 5, 6] rfl)

theorem dL_law_1189 : decode cL_law 1189 = .ok (.aload_n 1, 1) := by decide +kernel
theorem dL_law_1190 : decode cL_law 1190 = .ok (.aload_n 0, 1) := by decide +kernel
theorem dL_law_1191 : decode cL_law 1191 = .ok (.iload 4, 2) := by decide +kernel
theorem dL_law_1193 : decode cL_law 1193 = .ok (.iconst 1, 1) := by decide +kernel
theorem dL_law_1194 : decode cL_law 1194 = .ok (.iadd, 1) := by decide +kernel
theorem dL_law_1195 : decode cL_law 1195 = .ok (.iaload, 1) := by decide +kernel
theorem dL_law_1196 : decode cL_law 1196 = .ok (.aload_n 0, 1) := by decide +kernel
theorem dL_law_1197 : decode cL_law 1197 = .ok (.iload 4, 2) := by decide +kernel
theorem dL_law_1199 : decode cL_law 1199 = .ok (.iconst 2, 1) := by decide +kernel
theorem dL_law_1200 : decode cL_law 1200 = .ok (.iadd, 1) := by decide +kernel
theorem dL_law_1201 : decode cL_law 1201 = .ok (.iaload, 1) := by decide +kernel
theorem dL_law_1202 : decode cL_law 1202 = .ok (.aload_n 0, 1) := by decide +kernel
theorem dL_law_1203 : decode cL_law 1203 = .ok (.iload 4, 2) := by decide +kernel
theorem dL_law_1205 : decode cL_law 1205 = .ok (.iconst 3, 1) := by decide +kernel
theorem dL_law_1206 : decode cL_law 1206 = .ok (.iadd, 1) := by decide +kernel
theorem dL_law_1207 : decode cL_law 1207 = .ok (.iaload, 1) := by decide +kernel
theorem dL_law_1208 : decode cL_law 1208 = .ok (.aload_n 0, 1) := by decide +kernel
theorem dL_law_1209 : decode cL_law 1209 = .ok (.iload 4, 2) := by decide +kernel
theorem dL_law_1211 : decode cL_law 1211 = .ok (.iconst 4, 1) := by decide +kernel
theorem dL_law_1212 : decode cL_law 1212 = .ok (.iadd, 1) := by decide +kernel
theorem dL_law_1213 : decode cL_law 1213 = .ok (.iaload, 1) := by decide +kernel
theorem dL_law_1214 : decode cL_law 1214 = .ok (.aload_n 3, 1) := by decide +kernel
theorem dL_law_1215 : decode cL_law 1215 = .ok (.invokestatic 208, 3) := by decide +kernel
theorem dL_law_1218 : decode cL_law 1218 = .ok (.istore 5, 2) := by decide +kernel
theorem dL_law_1220 : decode cL_law 1220 = .ok (.aload_n 2, 1) := by decide +kernel
theorem dL_law_1221 : decode cL_law 1221 = .ok (.aload_n 0, 1) := by decide +kernel
theorem dL_law_1222 : decode cL_law 1222 = .ok (.iload 4, 2) := by decide +kernel
theorem dL_law_1224 : decode cL_law 1224 = .ok (.iconst 1, 1) := by decide +kernel
theorem dL_law_1225 : decode cL_law 1225 = .ok (.iadd, 1) := by decide +kernel
theorem dL_law_1226 : decode cL_law 1226 = .ok (.iaload, 1) := by decide +kernel
theorem dL_law_1227 : decode cL_law 1227 = .ok (.aload_n 0, 1) := by decide +kernel
theorem dL_law_1228 : decode cL_law 1228 = .ok (.iload 4, 2) := by decide +kernel
theorem dL_law_1230 : decode cL_law 1230 = .ok (.iconst 2, 1) := by decide +kernel
theorem dL_law_1231 : decode cL_law 1231 = .ok (.iadd, 1) := by decide +kernel
theorem dL_law_1232 : decode cL_law 1232 = .ok (.iaload, 1) := by decide +kernel
theorem dL_law_1233 : decode cL_law 1233 = .ok (.aload_n 0, 1) := by decide +kernel
theorem dL_law_1234 : decode cL_law 1234 = .ok (.iload 4, 2) := by decide +kernel
theorem dL_law_1236 : decode cL_law 1236 = .ok (.iconst 3, 1) := by decide +kernel
theorem dL_law_1237 : decode cL_law 1237 = .ok (.iadd, 1) := by decide +kernel
theorem dL_law_1238 : decode cL_law 1238 = .ok (.iaload, 1) := by decide +kernel
theorem dL_law_1239 : decode cL_law 1239 = .ok (.aload_n 0, 1) := by decide +kernel
theorem dL_law_1240 : decode cL_law 1240 = .ok (.iload 4, 2) := by decide +kernel
theorem dL_law_1242 : decode cL_law 1242 = .ok (.iconst 4, 1) := by decide +kernel
theorem dL_law_1243 : decode cL_law 1243 = .ok (.iadd, 1) := by decide +kernel
theorem dL_law_1244 : decode cL_law 1244 = .ok (.iaload, 1) := by decide +kernel
theorem dL_law_1245 : decode cL_law 1245 = .ok (.invokevirtual 210, 3) := by decide +kernel
theorem dL_law_1248 : decode cL_law 1248 = .ok (.istore 6, 2) := by decide +kernel
theorem dL_law_1250 : decode cL_law 1250 = .ok (.goto 335, 3) := by decide +kernel
set_option maxHeartbeats 4000000 in
set_option maxRecDepth 100000 in
theorem lo_22 {s : State} {l : Launch} {D : va_G} {cy : Nat → ClassId} (G : Gl s l D cy) {p : Program} {e : Env} {m : MethodId} {below : List Frame} {meth : Method} {c : Code} {ret9 : Option FieldType} {b L : Nat} {xs : Nat → Int32} (X : Cx s l D cy p s m #[Value.ref b] meth c cL_law 8 "CavershamShiftLaw" ret9) (hX : va_X b L xs s s.heap) (hbl : b < s.heap.size) {S : HS} {H : Heap} {locs : List Loc} {ls : Array Slot} {ii k gC : Nat} {cn : Cn} {ax am ao : Nat} {Q : State → Prop} (w : Wd s D cy S s.heap H locs) (hl : lv_has ls 8 [(0, .ref b), (1, .ref ax), (2, .ref am), (3, .ref ao), (4, .int (nI ii))]) (hLI : LI s S gC cn ax am ao) (hi : ii + 7 ≤ L) (hL9 : L ≤ 3584) (hk : k ≤ 511) (K : ∀ (U : HS) (gC1 : Nat) (cn1 : Cn) (H : Heap) (locs : List Loc) (ls : Array Slot), LI s U gC1 cn1 ax am ao → Wd s D cy U s.heap H locs → lv_has ls 8 [(0, .ref b), (1, .ref ax), (2, .ref am), (3, .ref ao), (4, .int (nI ii))] → W p l e room_1 s m #[Value.ref b] below meth c H locs (cLw (k + 1) gC1 gC1) (sLw (k + 1) gC1 gC1) Q (F0 m 1585 ls [])) : W p l e room_1 s m #[Value.ref b] below meth c H locs (cLw k gC gC) (sLw k gC gC) Q (F0 m 1189 ls []) := by
  have hx := X.1
  have hb := X.2.1
  have hown := X.2.2.2.1
  have hts := X.2.2.2.2.1
  obtain ⟨hC, hR, hE, hO, hZs, hgC, eX, eM, eO⟩ := id hLI
  rw [← eX, ← eM, ← eO] at hl
  refine lv_aload_n hx hb dL_law_1189 rfl (lv_at hl 1 rfl) ?_
  refine lv_aload_n hx hb dL_law_1190 rfl (lv_at hl 0 rfl) ?_
  refine lv_iload hx hb dL_law_1191 (lv_at hl 4 rfl) ?_
  refine lv_iconst (v := 1) hx hb dL_law_1193 (by decide) ?_
  refine lv_iadd hx hb dL_law_1194 ?_
  refine va_sld hx hb hX hbl (Nat.not_le.mpr hbl) w.2 (i := ((nI ii) + 1)) (by rw [show nI ii + 1 = nI (ii + 1) from nI_add ii 1]; exact nI_vp (by omega) (by omega)) dL_law_1195 ?_
  refine lv_topi (fun z1 ez1 => ?_)
  refine lv_aload_n hx hb dL_law_1196 rfl (lv_at hl 0 rfl) ?_
  refine lv_iload hx hb dL_law_1197 (lv_at hl 4 rfl) ?_
  refine lv_iconst (v := 2) hx hb dL_law_1199 (by decide) ?_
  refine lv_iadd hx hb dL_law_1200 ?_
  refine va_sld hx hb hX hbl (Nat.not_le.mpr hbl) w.2 (i := ((nI ii) + 2)) (by rw [show nI ii + 2 = nI (ii + 2) from nI_add ii 2]; exact nI_vp (by omega) (by omega)) dL_law_1201 ?_
  refine lv_topi (fun z2 ez2 => ?_)
  refine lv_aload_n hx hb dL_law_1202 rfl (lv_at hl 0 rfl) ?_
  refine lv_iload hx hb dL_law_1203 (lv_at hl 4 rfl) ?_
  refine lv_iconst (v := 3) hx hb dL_law_1205 (by decide) ?_
  refine lv_iadd hx hb dL_law_1206 ?_
  refine va_sld hx hb hX hbl (Nat.not_le.mpr hbl) w.2 (i := ((nI ii) + 3)) (by rw [show nI ii + 3 = nI (ii + 3) from nI_add ii 3]; exact nI_vp (by omega) (by omega)) dL_law_1207 ?_
  refine lv_topi (fun z3 ez3 => ?_)
  refine lv_aload_n hx hb dL_law_1208 rfl (lv_at hl 0 rfl) ?_
  refine lv_iload hx hb dL_law_1209 (lv_at hl 4 rfl) ?_
  refine lv_iconst (v := 4) hx hb dL_law_1211 (by decide) ?_
  refine lv_iadd hx hb dL_law_1212 ?_
  refine va_sld hx hb hX hbl (Nat.not_le.mpr hbl) w.2 (i := ((nI ii) + 4)) (by rw [show nI ii + 4 = nI (ii + 4) from nI_add ii 4]; exact nI_vp (by omega) (by omega)) dL_law_1213 ?_
  refine lv_topi (fun z4 ez4 => ?_)
  refine lv_aload_n hx hb dL_law_1214 rfl (lv_at hl 3 rfl) ?_
  refine cSW (S := S) (nA := 6) (As := [.ref (gG S 10 0), .int z1, .int z2, .int z3, .int z4, .ref (gG S 11 0)]) (rest := []) X w hl ((w_L_used G S hC hO hC.v10 z1 z2 z3 z4).post (post' := PW s S cn) (fun v S9 h9 => by rcases h9 with ⟨-, rfl, rfl⟩ | ⟨-, rfl, S8, hC8, hB8, rfl⟩ <;> first | exact ⟨⟨_, rfl⟩, StpL.rf⟩ | exact ⟨⟨_, rfl⟩, StpL.ofCB hC8 hB8 (Or.inr (Or.inl ⟨_, rfl⟩))⟩)) wYW_L_used wM_L_208 wSt_L_used wI_L (by decide +kernel) rfl rfl dL_law_1215 ⟨Nat.le_of_ble_eq_true rfl, Nat.le_of_ble_eq_true rfl⟩ (Nat.le_of_ble_eq_true rfl) (⟨by have := hgC.2; show cLw k gC gC + 1 ≤ 601024; unfold cLw; omega, by have := hgC.2; show sLw k gC gC + 6 ≤ 7293034; unfold sLw; omega⟩) (fun v U5 H locs hp w => ?_)
  obtain ⟨⟨k9U5, rfl⟩, hs⟩ := hp
  rw [eX, eM, eO] at hl
  have hLI := hs _ _ _ _ hLI
  obtain ⟨hC, hR, hE, hO, hZs, hgC, eX, eM, eO⟩ := id hLI
  rw [← eX, ← eM, ← eO] at hl
  refine lv_istore (lv' := [(5, .int k9U5), (0, .ref b), (1, .ref (gG U5 10 0)), (2, .ref (gG U5 16 0)), (3, .ref (gG U5 11 0)), (4, .int (nI ii))]) hx hb dL_law_1218 hl (by decide) rfl (fun ls hl => ?_)
  refine lv_aload_n hx hb dL_law_1220 rfl (lv_at hl 3 rfl) ?_
  refine lv_aload_n hx hb dL_law_1221 rfl (lv_at hl 1 rfl) ?_
  refine lv_iload hx hb dL_law_1222 (lv_at hl 5 rfl) ?_
  refine lv_iconst (v := 1) hx hb dL_law_1224 (by decide) ?_
  refine lv_iadd hx hb dL_law_1225 ?_
  refine va_sld hx hb hX hbl (Nat.not_le.mpr hbl) w.2 (i := ((nI ii) + 1)) (by rw [show nI ii + 1 = nI (ii + 1) from nI_add ii 1]; exact nI_vp (by omega) (by omega)) dL_law_1226 ?_
  refine lv_topi (fun z6 ez6 => ?_)
  refine lv_aload_n hx hb dL_law_1227 rfl (lv_at hl 1 rfl) ?_
  refine lv_iload hx hb dL_law_1228 (lv_at hl 5 rfl) ?_
  refine lv_iconst (v := 2) hx hb dL_law_1230 (by decide) ?_
  refine lv_iadd hx hb dL_law_1231 ?_
  refine va_sld hx hb hX hbl (Nat.not_le.mpr hbl) w.2 (i := ((nI ii) + 2)) (by rw [show nI ii + 2 = nI (ii + 2) from nI_add ii 2]; exact nI_vp (by omega) (by omega)) dL_law_1232 ?_
  refine lv_topi (fun z7 ez7 => ?_)
  refine lv_aload_n hx hb dL_law_1233 rfl (lv_at hl 1 rfl) ?_
  refine lv_iload hx hb dL_law_1234 (lv_at hl 5 rfl) ?_
  refine lv_iconst (v := 3) hx hb dL_law_1236 (by decide) ?_
  refine lv_iadd hx hb dL_law_1237 ?_
  refine va_sld hx hb hX hbl (Nat.not_le.mpr hbl) w.2 (i := ((nI ii) + 3)) (by rw [show nI ii + 3 = nI (ii + 3) from nI_add ii 3]; exact nI_vp (by omega) (by omega)) dL_law_1238 ?_
  refine lv_topi (fun z8 ez8 => ?_)
  refine lv_aload_n hx hb dL_law_1239 rfl (lv_at hl 1 rfl) ?_
  refine lv_iload hx hb dL_law_1240 (lv_at hl 5 rfl) ?_
  refine lv_iconst (v := 4) hx hb dL_law_1242 (by decide) ?_
  refine lv_iadd hx hb dL_law_1243 ?_
  refine va_sld hx hb hX hbl (Nat.not_le.mpr hbl) w.2 (i := ((nI ii) + 4)) (by rw [show nI ii + 4 = nI (ii + 4) from nI_add ii 4]; exact nI_vp (by omega) (by omega)) dL_law_1244 ?_
  refine lv_topi (fun z9 ez9 => ?_)
  refine cV (S := U5) (nA := 4) (As := [.int z6, .int z7, .int z8, .int z9]) (rest := []) X w hl hR.v16 ((k_X16_used G U5 hR z6 z7 z8 z9).post (fun v S9 h9 => PF.stp h9)) wY_X16_used wM_L_210 wIn_X16_used wSe_X16_X16_used wI_X16 (by decide) rfl (by decide +kernel) rfl rfl dL_law_1245 ⟨Nat.le_of_ble_eq_true rfl, Nat.le_of_ble_eq_true rfl⟩ (Nat.le_of_ble_eq_true rfl) (⟨by have := hgC.2; show cLw k gC gC + 1 ≤ 601024; unfold cLw; omega, by have := hgC.2; show sLw k gC gC + 6 ≤ 7293034; unfold sLw; omega⟩) (fun v U10 H locs hp w => ?_)
  obtain ⟨⟨x9U10, rfl⟩, hs⟩ := hp
  rw [eX, eM, eO] at hl
  have hLI := hs _ _ _ _ hLI
  obtain ⟨hC, hR, hE, hO, hZs, hgC, eX, eM, eO⟩ := id hLI
  rw [← eX, ← eM, ← eO] at hl
  refine lv_istore (lv' := [(6, .int x9U10), (5, .int k9U5), (0, .ref b), (1, .ref (gG U10 10 0)), (2, .ref (gG U10 16 0)), (3, .ref (gG U10 11 0)), (4, .int (nI ii))]) hx hb dL_law_1248 hl (by decide) rfl (fun ls hl => ?_)
  refine lv_goto (tgt := 1585) hx hb dL_law_1250 (by decide) ?_
  refine W.widen (k := cLw (k + 1) gC gC) (n := sLw (k + 1) gC gC) (by show cLw k gC gC + 1 ≤ _; unfold cLw; omega) (by show sLw k gC gC + 6 ≤ _; unfold sLw; omega) ?_
  rw [eX, eM, eO] at hl
  exact K _ _ _ H locs _ hLI w (lv_sub hl [2, 3, 4, 5, 6] rfl)

theorem dL_law_1253 : decode cL_law 1253 = .ok (.aload_n 1, 1) := by decide +kernel
theorem dL_law_1254 : decode cL_law 1254 = .ok (.aload_n 0, 1) := by decide +kernel
theorem dL_law_1255 : decode cL_law 1255 = .ok (.iload 4, 2) := by decide +kernel
theorem dL_law_1257 : decode cL_law 1257 = .ok (.iconst 1, 1) := by decide +kernel
theorem dL_law_1258 : decode cL_law 1258 = .ok (.iadd, 1) := by decide +kernel
theorem dL_law_1259 : decode cL_law 1259 = .ok (.iaload, 1) := by decide +kernel
theorem dL_law_1260 : decode cL_law 1260 = .ok (.aload_n 3, 1) := by decide +kernel
theorem dL_law_1261 : decode cL_law 1261 = .ok (.invokestatic 211, 3) := by decide +kernel
theorem dL_law_1264 : decode cL_law 1264 = .ok (.istore 5, 2) := by decide +kernel
theorem dL_law_1266 : decode cL_law 1266 = .ok (.aload_n 2, 1) := by decide +kernel
theorem dL_law_1267 : decode cL_law 1267 = .ok (.aload_n 0, 1) := by decide +kernel
theorem dL_law_1268 : decode cL_law 1268 = .ok (.iload 4, 2) := by decide +kernel
theorem dL_law_1270 : decode cL_law 1270 = .ok (.iconst 1, 1) := by decide +kernel
theorem dL_law_1271 : decode cL_law 1271 = .ok (.iadd, 1) := by decide +kernel
theorem dL_law_1272 : decode cL_law 1272 = .ok (.iaload, 1) := by decide +kernel
theorem dL_law_1273 : decode cL_law 1273 = .ok (.invokevirtual 213, 3) := by decide +kernel
theorem dL_law_1276 : decode cL_law 1276 = .ok (.istore 6, 2) := by decide +kernel
theorem dL_law_1278 : decode cL_law 1278 = .ok (.goto 307, 3) := by decide +kernel
set_option maxHeartbeats 4000000 in
set_option maxRecDepth 100000 in
theorem lo_23 {s : State} {l : Launch} {D : va_G} {cy : Nat → ClassId} (G : Gl s l D cy) {p : Program} {e : Env} {m : MethodId} {below : List Frame} {meth : Method} {c : Code} {ret9 : Option FieldType} {b L : Nat} {xs : Nat → Int32} (X : Cx s l D cy p s m #[Value.ref b] meth c cL_law 8 "CavershamShiftLaw" ret9) (hX : va_X b L xs s s.heap) (hbl : b < s.heap.size) {S : HS} {H : Heap} {locs : List Loc} {ls : Array Slot} {ii k gC : Nat} {cn : Cn} {ax am ao : Nat} {Q : State → Prop} (w : Wd s D cy S s.heap H locs) (hl : lv_has ls 8 [(0, .ref b), (1, .ref ax), (2, .ref am), (3, .ref ao), (4, .int (nI ii))]) (hLI : LI s S gC cn ax am ao) (hi : ii + 7 ≤ L) (hL9 : L ≤ 3584) (hk : k ≤ 511) (K : ∀ (U : HS) (gC1 : Nat) (cn1 : Cn) (H : Heap) (locs : List Loc) (ls : Array Slot), LI s U gC1 cn1 ax am ao → Wd s D cy U s.heap H locs → lv_has ls 8 [(0, .ref b), (1, .ref ax), (2, .ref am), (3, .ref ao), (4, .int (nI ii))] → W p l e room_1 s m #[Value.ref b] below meth c H locs (cLw (k + 1) gC1 gC1) (sLw (k + 1) gC1 gC1) Q (F0 m 1585 ls [])) : W p l e room_1 s m #[Value.ref b] below meth c H locs (cLw k gC gC) (sLw k gC gC) Q (F0 m 1253 ls []) := by
  have hx := X.1
  have hb := X.2.1
  have hown := X.2.2.2.1
  have hts := X.2.2.2.2.1
  obtain ⟨hC, hR, hE, hO, hZs, hgC, eX, eM, eO⟩ := id hLI
  rw [← eX, ← eM, ← eO] at hl
  refine lv_aload_n hx hb dL_law_1253 rfl (lv_at hl 1 rfl) ?_
  refine lv_aload_n hx hb dL_law_1254 rfl (lv_at hl 0 rfl) ?_
  refine lv_iload hx hb dL_law_1255 (lv_at hl 4 rfl) ?_
  refine lv_iconst (v := 1) hx hb dL_law_1257 (by decide) ?_
  refine lv_iadd hx hb dL_law_1258 ?_
  refine va_sld hx hb hX hbl (Nat.not_le.mpr hbl) w.2 (i := ((nI ii) + 1)) (by rw [show nI ii + 1 = nI (ii + 1) from nI_add ii 1]; exact nI_vp (by omega) (by omega)) dL_law_1259 ?_
  refine lv_topi (fun z1 ez1 => ?_)
  refine lv_aload_n hx hb dL_law_1260 rfl (lv_at hl 3 rfl) ?_
  refine cSW (S := S) (nA := 3) (As := [.ref (gG S 10 0), .int z1, .ref (gG S 11 0)]) (rest := []) X w hl ((w_L_gone G S hC hO hC.v10 z1).post (post' := PW s S cn) (fun v S9 h9 => by rcases h9 with ⟨-, rfl, rfl⟩ | ⟨-, rfl, S8, hC8, hB8, rfl⟩ <;> first | exact ⟨⟨_, rfl⟩, StpL.rf⟩ | exact ⟨⟨_, rfl⟩, StpL.ofCB hC8 hB8 (Or.inr (Or.inl ⟨_, rfl⟩))⟩)) wYW_L_gone wM_L_211 wSt_L_gone wI_L (by decide +kernel) rfl rfl dL_law_1261 ⟨Nat.le_of_ble_eq_true rfl, Nat.le_of_ble_eq_true rfl⟩ (Nat.le_of_ble_eq_true rfl) (⟨by have := hgC.2; show cLw k gC gC + 1 ≤ 601024; unfold cLw; omega, by have := hgC.2; show sLw k gC gC + 6 ≤ 7293034; unfold sLw; omega⟩) (fun v U2 H locs hp w => ?_)
  obtain ⟨⟨k9U2, rfl⟩, hs⟩ := hp
  rw [eX, eM, eO] at hl
  have hLI := hs _ _ _ _ hLI
  obtain ⟨hC, hR, hE, hO, hZs, hgC, eX, eM, eO⟩ := id hLI
  rw [← eX, ← eM, ← eO] at hl
  refine lv_istore (lv' := [(5, .int k9U2), (0, .ref b), (1, .ref (gG U2 10 0)), (2, .ref (gG U2 16 0)), (3, .ref (gG U2 11 0)), (4, .int (nI ii))]) hx hb dL_law_1264 hl (by decide) rfl (fun ls hl => ?_)
  refine lv_aload_n hx hb dL_law_1266 rfl (lv_at hl 3 rfl) ?_
  refine lv_aload_n hx hb dL_law_1267 rfl (lv_at hl 1 rfl) ?_
  refine lv_iload hx hb dL_law_1268 (lv_at hl 5 rfl) ?_
  refine lv_iconst (v := 1) hx hb dL_law_1270 (by decide) ?_
  refine lv_iadd hx hb dL_law_1271 ?_
  refine va_sld hx hb hX hbl (Nat.not_le.mpr hbl) w.2 (i := ((nI ii) + 1)) (by rw [show nI ii + 1 = nI (ii + 1) from nI_add ii 1]; exact nI_vp (by omega) (by omega)) dL_law_1272 ?_
  refine lv_topi (fun z3 ez3 => ?_)
  refine cV (S := U2) (nA := 1) (As := [.int z3]) (rest := []) X w hl hR.v16 ((k_X16_gone G U2 hR z3).post (fun v S9 h9 => PF.stp h9)) wY_X16_gone wM_L_213 wIn_X16_gone wSe_X16_X16_gone wI_X16 (by decide) rfl (by decide +kernel) rfl rfl dL_law_1273 ⟨Nat.le_of_ble_eq_true rfl, Nat.le_of_ble_eq_true rfl⟩ (Nat.le_of_ble_eq_true rfl) (⟨by have := hgC.2; show cLw k gC gC + 1 ≤ 601024; unfold cLw; omega, by have := hgC.2; show sLw k gC gC + 6 ≤ 7293034; unfold sLw; omega⟩) (fun v U4 H locs hp w => ?_)
  obtain ⟨⟨x9U4, rfl⟩, hs⟩ := hp
  rw [eX, eM, eO] at hl
  have hLI := hs _ _ _ _ hLI
  obtain ⟨hC, hR, hE, hO, hZs, hgC, eX, eM, eO⟩ := id hLI
  rw [← eX, ← eM, ← eO] at hl
  refine lv_istore (lv' := [(6, .int x9U4), (5, .int k9U2), (0, .ref b), (1, .ref (gG U4 10 0)), (2, .ref (gG U4 16 0)), (3, .ref (gG U4 11 0)), (4, .int (nI ii))]) hx hb dL_law_1276 hl (by decide) rfl (fun ls hl => ?_)
  refine lv_goto (tgt := 1585) hx hb dL_law_1278 (by decide) ?_
  refine W.widen (k := cLw (k + 1) gC gC) (n := sLw (k + 1) gC gC) (by show cLw k gC gC + 1 ≤ _; unfold cLw; omega) (by show sLw k gC gC + 6 ≤ _; unfold sLw; omega) ?_
  rw [eX, eM, eO] at hl
  exact K _ _ _ H locs _ hLI w (lv_sub hl [2, 3, 4, 5, 6] rfl)

theorem dL_law_1281 : decode cL_law 1281 = .ok (.aload_n 1, 1) := by decide +kernel
theorem dL_law_1282 : decode cL_law 1282 = .ok (.aload_n 0, 1) := by decide +kernel
theorem dL_law_1283 : decode cL_law 1283 = .ok (.iload 4, 2) := by decide +kernel
theorem dL_law_1285 : decode cL_law 1285 = .ok (.iconst 1, 1) := by decide +kernel
theorem dL_law_1286 : decode cL_law 1286 = .ok (.iadd, 1) := by decide +kernel
theorem dL_law_1287 : decode cL_law 1287 = .ok (.iaload, 1) := by decide +kernel
theorem dL_law_1288 : decode cL_law 1288 = .ok (.aload_n 3, 1) := by decide +kernel
theorem dL_law_1289 : decode cL_law 1289 = .ok (.invokestatic 214, 3) := by decide +kernel
theorem dL_law_1292 : decode cL_law 1292 = .ok (.istore 5, 2) := by decide +kernel
theorem dL_law_1294 : decode cL_law 1294 = .ok (.aload_n 2, 1) := by decide +kernel
theorem dL_law_1295 : decode cL_law 1295 = .ok (.aload_n 0, 1) := by decide +kernel
theorem dL_law_1296 : decode cL_law 1296 = .ok (.iload 4, 2) := by decide +kernel
theorem dL_law_1298 : decode cL_law 1298 = .ok (.iconst 1, 1) := by decide +kernel
theorem dL_law_1299 : decode cL_law 1299 = .ok (.iadd, 1) := by decide +kernel
theorem dL_law_1300 : decode cL_law 1300 = .ok (.iaload, 1) := by decide +kernel
theorem dL_law_1301 : decode cL_law 1301 = .ok (.invokevirtual 216, 3) := by decide +kernel
theorem dL_law_1304 : decode cL_law 1304 = .ok (.istore 6, 2) := by decide +kernel
theorem dL_law_1306 : decode cL_law 1306 = .ok (.goto 279, 3) := by decide +kernel
set_option maxHeartbeats 4000000 in
set_option maxRecDepth 100000 in
theorem lo_24 {s : State} {l : Launch} {D : va_G} {cy : Nat → ClassId} (G : Gl s l D cy) {p : Program} {e : Env} {m : MethodId} {below : List Frame} {meth : Method} {c : Code} {ret9 : Option FieldType} {b L : Nat} {xs : Nat → Int32} (X : Cx s l D cy p s m #[Value.ref b] meth c cL_law 8 "CavershamShiftLaw" ret9) (hX : va_X b L xs s s.heap) (hbl : b < s.heap.size) {S : HS} {H : Heap} {locs : List Loc} {ls : Array Slot} {ii k gC : Nat} {cn : Cn} {ax am ao : Nat} {Q : State → Prop} (w : Wd s D cy S s.heap H locs) (hl : lv_has ls 8 [(0, .ref b), (1, .ref ax), (2, .ref am), (3, .ref ao), (4, .int (nI ii))]) (hLI : LI s S gC cn ax am ao) (hi : ii + 7 ≤ L) (hL9 : L ≤ 3584) (hk : k ≤ 511) (K : ∀ (U : HS) (gC1 : Nat) (cn1 : Cn) (H : Heap) (locs : List Loc) (ls : Array Slot), LI s U gC1 cn1 ax am ao → Wd s D cy U s.heap H locs → lv_has ls 8 [(0, .ref b), (1, .ref ax), (2, .ref am), (3, .ref ao), (4, .int (nI ii))] → W p l e room_1 s m #[Value.ref b] below meth c H locs (cLw (k + 1) gC1 gC1) (sLw (k + 1) gC1 gC1) Q (F0 m 1585 ls [])) : W p l e room_1 s m #[Value.ref b] below meth c H locs (cLw k gC gC) (sLw k gC gC) Q (F0 m 1281 ls []) := by
  have hx := X.1
  have hb := X.2.1
  have hown := X.2.2.2.1
  have hts := X.2.2.2.2.1
  obtain ⟨hC, hR, hE, hO, hZs, hgC, eX, eM, eO⟩ := id hLI
  rw [← eX, ← eM, ← eO] at hl
  refine lv_aload_n hx hb dL_law_1281 rfl (lv_at hl 1 rfl) ?_
  refine lv_aload_n hx hb dL_law_1282 rfl (lv_at hl 0 rfl) ?_
  refine lv_iload hx hb dL_law_1283 (lv_at hl 4 rfl) ?_
  refine lv_iconst (v := 1) hx hb dL_law_1285 (by decide) ?_
  refine lv_iadd hx hb dL_law_1286 ?_
  refine va_sld hx hb hX hbl (Nat.not_le.mpr hbl) w.2 (i := ((nI ii) + 1)) (by rw [show nI ii + 1 = nI (ii + 1) from nI_add ii 1]; exact nI_vp (by omega) (by omega)) dL_law_1287 ?_
  refine lv_topi (fun z1 ez1 => ?_)
  refine lv_aload_n hx hb dL_law_1288 rfl (lv_at hl 3 rfl) ?_
  refine cSW (S := S) (nA := 3) (As := [.ref (gG S 10 0), .int z1, .ref (gG S 11 0)]) (rest := []) X w hl ((w_L_first G S hC hO hC.v10 z1).post (post' := PW s S cn) (fun v S9 h9 => by rcases h9 with ⟨-, rfl, rfl⟩ | ⟨-, rfl, S8, hC8, hB8, rfl⟩ <;> first | exact ⟨⟨_, rfl⟩, StpL.rf⟩ | exact ⟨⟨_, rfl⟩, StpL.ofCB hC8 hB8 (Or.inr (Or.inl ⟨_, rfl⟩))⟩)) wYW_L_first wM_L_214 wSt_L_first wI_L (by decide +kernel) rfl rfl dL_law_1289 ⟨Nat.le_of_ble_eq_true rfl, Nat.le_of_ble_eq_true rfl⟩ (Nat.le_of_ble_eq_true rfl) (⟨by have := hgC.2; show cLw k gC gC + 1 ≤ 601024; unfold cLw; omega, by have := hgC.2; show sLw k gC gC + 6 ≤ 7293034; unfold sLw; omega⟩) (fun v U2 H locs hp w => ?_)
  obtain ⟨⟨k9U2, rfl⟩, hs⟩ := hp
  rw [eX, eM, eO] at hl
  have hLI := hs _ _ _ _ hLI
  obtain ⟨hC, hR, hE, hO, hZs, hgC, eX, eM, eO⟩ := id hLI
  rw [← eX, ← eM, ← eO] at hl
  refine lv_istore (lv' := [(5, .int k9U2), (0, .ref b), (1, .ref (gG U2 10 0)), (2, .ref (gG U2 16 0)), (3, .ref (gG U2 11 0)), (4, .int (nI ii))]) hx hb dL_law_1292 hl (by decide) rfl (fun ls hl => ?_)
  refine lv_aload_n hx hb dL_law_1294 rfl (lv_at hl 3 rfl) ?_
  refine lv_aload_n hx hb dL_law_1295 rfl (lv_at hl 1 rfl) ?_
  refine lv_iload hx hb dL_law_1296 (lv_at hl 5 rfl) ?_
  refine lv_iconst (v := 1) hx hb dL_law_1298 (by decide) ?_
  refine lv_iadd hx hb dL_law_1299 ?_
  refine va_sld hx hb hX hbl (Nat.not_le.mpr hbl) w.2 (i := ((nI ii) + 1)) (by rw [show nI ii + 1 = nI (ii + 1) from nI_add ii 1]; exact nI_vp (by omega) (by omega)) dL_law_1300 ?_
  refine lv_topi (fun z3 ez3 => ?_)
  refine cV (S := U2) (nA := 1) (As := [.int z3]) (rest := []) X w hl hR.v16 ((k_X16_first G U2 hR z3).post (fun v S9 h9 => PF.stp h9)) wY_X16_first wM_L_216 wIn_X16_first wSe_X16_X16_first wI_X16 (by decide) rfl (by decide +kernel) rfl rfl dL_law_1301 ⟨Nat.le_of_ble_eq_true rfl, Nat.le_of_ble_eq_true rfl⟩ (Nat.le_of_ble_eq_true rfl) (⟨by have := hgC.2; show cLw k gC gC + 1 ≤ 601024; unfold cLw; omega, by have := hgC.2; show sLw k gC gC + 6 ≤ 7293034; unfold sLw; omega⟩) (fun v U4 H locs hp w => ?_)
  obtain ⟨⟨x9U4, rfl⟩, hs⟩ := hp
  rw [eX, eM, eO] at hl
  have hLI := hs _ _ _ _ hLI
  obtain ⟨hC, hR, hE, hO, hZs, hgC, eX, eM, eO⟩ := id hLI
  rw [← eX, ← eM, ← eO] at hl
  refine lv_istore (lv' := [(6, .int x9U4), (5, .int k9U2), (0, .ref b), (1, .ref (gG U4 10 0)), (2, .ref (gG U4 16 0)), (3, .ref (gG U4 11 0)), (4, .int (nI ii))]) hx hb dL_law_1304 hl (by decide) rfl (fun ls hl => ?_)
  refine lv_goto (tgt := 1585) hx hb dL_law_1306 (by decide) ?_
  refine W.widen (k := cLw (k + 1) gC gC) (n := sLw (k + 1) gC gC) (by show cLw k gC gC + 1 ≤ _; unfold cLw; omega) (by show sLw k gC gC + 6 ≤ _; unfold sLw; omega) ?_
  rw [eX, eM, eO] at hl
  exact K _ _ _ H locs _ hLI w (lv_sub hl [2, 3, 4, 5, 6] rfl)

theorem dL_law_1309 : decode cL_law 1309 = .ok (.aload_n 1, 1) := by decide +kernel
theorem dL_law_1310 : decode cL_law 1310 = .ok (.aload_n 0, 1) := by decide +kernel
theorem dL_law_1311 : decode cL_law 1311 = .ok (.iload 4, 2) := by decide +kernel
theorem dL_law_1313 : decode cL_law 1313 = .ok (.iconst 1, 1) := by decide +kernel
theorem dL_law_1314 : decode cL_law 1314 = .ok (.iadd, 1) := by decide +kernel
theorem dL_law_1315 : decode cL_law 1315 = .ok (.iaload, 1) := by decide +kernel
theorem dL_law_1316 : decode cL_law 1316 = .ok (.aload_n 3, 1) := by decide +kernel
theorem dL_law_1317 : decode cL_law 1317 = .ok (.invokestatic 217, 3) := by decide +kernel
theorem dL_law_1320 : decode cL_law 1320 = .ok (.istore 5, 2) := by decide +kernel
theorem dL_law_1322 : decode cL_law 1322 = .ok (.aload_n 2, 1) := by decide +kernel
theorem dL_law_1323 : decode cL_law 1323 = .ok (.aload_n 0, 1) := by decide +kernel
theorem dL_law_1324 : decode cL_law 1324 = .ok (.iload 4, 2) := by decide +kernel
theorem dL_law_1326 : decode cL_law 1326 = .ok (.iconst 1, 1) := by decide +kernel
theorem dL_law_1327 : decode cL_law 1327 = .ok (.iadd, 1) := by decide +kernel
theorem dL_law_1328 : decode cL_law 1328 = .ok (.iaload, 1) := by decide +kernel
theorem dL_law_1329 : decode cL_law 1329 = .ok (.invokevirtual 219, 3) := by decide +kernel
theorem dL_law_1332 : decode cL_law 1332 = .ok (.dstore 6, 2) := by decide +kernel
theorem dL_law_1334 : decode cL_law 1334 = .ok (.goto 251, 3) := by decide +kernel
set_option maxHeartbeats 4000000 in
set_option maxRecDepth 100000 in
theorem lo_25 {s : State} {l : Launch} {D : va_G} {cy : Nat → ClassId} (G : Gl s l D cy) {p : Program} {e : Env} {m : MethodId} {below : List Frame} {meth : Method} {c : Code} {ret9 : Option FieldType} {b L : Nat} {xs : Nat → Int32} (X : Cx s l D cy p s m #[Value.ref b] meth c cL_law 8 "CavershamShiftLaw" ret9) (hX : va_X b L xs s s.heap) (hbl : b < s.heap.size) {S : HS} {H : Heap} {locs : List Loc} {ls : Array Slot} {ii k gC : Nat} {cn : Cn} {ax am ao : Nat} {Q : State → Prop} (w : Wd s D cy S s.heap H locs) (hl : lv_has ls 8 [(0, .ref b), (1, .ref ax), (2, .ref am), (3, .ref ao), (4, .int (nI ii))]) (hLI : LI s S gC cn ax am ao) (hi : ii + 7 ≤ L) (hL9 : L ≤ 3584) (hk : k ≤ 511) (K : ∀ (U : HS) (gC1 : Nat) (cn1 : Cn) (H : Heap) (locs : List Loc) (ls : Array Slot), LI s U gC1 cn1 ax am ao → Wd s D cy U s.heap H locs → lv_has ls 8 [(0, .ref b), (1, .ref ax), (2, .ref am), (3, .ref ao), (4, .int (nI ii))] → W p l e room_1 s m #[Value.ref b] below meth c H locs (cLw (k + 1) gC1 gC1) (sLw (k + 1) gC1 gC1) Q (F0 m 1585 ls [])) : W p l e room_1 s m #[Value.ref b] below meth c H locs (cLw k gC gC) (sLw k gC gC) Q (F0 m 1309 ls []) := by
  have hx := X.1
  have hb := X.2.1
  have hown := X.2.2.2.1
  have hts := X.2.2.2.2.1
  obtain ⟨hC, hR, hE, hO, hZs, hgC, eX, eM, eO⟩ := id hLI
  rw [← eX, ← eM, ← eO] at hl
  refine lv_aload_n hx hb dL_law_1309 rfl (lv_at hl 1 rfl) ?_
  refine lv_aload_n hx hb dL_law_1310 rfl (lv_at hl 0 rfl) ?_
  refine lv_iload hx hb dL_law_1311 (lv_at hl 4 rfl) ?_
  refine lv_iconst (v := 1) hx hb dL_law_1313 (by decide) ?_
  refine lv_iadd hx hb dL_law_1314 ?_
  refine va_sld hx hb hX hbl (Nat.not_le.mpr hbl) w.2 (i := ((nI ii) + 1)) (by rw [show nI ii + 1 = nI (ii + 1) from nI_add ii 1]; exact nI_vp (by omega) (by omega)) dL_law_1315 ?_
  refine lv_topi (fun z1 ez1 => ?_)
  refine lv_aload_n hx hb dL_law_1316 rfl (lv_at hl 3 rfl) ?_
  refine cSW (S := S) (nA := 3) (As := [.ref (gG S 10 0), .int z1, .ref (gG S 11 0)]) (rest := []) X w hl ((w_L_clarity G S hC hO hC.v10 z1).post (post' := PW s S cn) (fun v S9 h9 => by rcases h9 with ⟨-, rfl, rfl⟩ | ⟨-, rfl, S8, hC8, hB8, rfl⟩ <;> first | exact ⟨⟨_, rfl⟩, StpL.rf⟩ | exact ⟨⟨_, rfl⟩, StpL.ofCB hC8 hB8 (Or.inr (Or.inr (Or.inl ⟨_, rfl⟩)))⟩)) wYW_L_clarity wM_L_217 wSt_L_clarity wI_L (by decide +kernel) rfl rfl dL_law_1317 ⟨Nat.le_of_ble_eq_true rfl, Nat.le_of_ble_eq_true rfl⟩ (Nat.le_of_ble_eq_true rfl) (⟨by have := hgC.2; show cLw k gC gC + 1 ≤ 601024; unfold cLw; omega, by have := hgC.2; show sLw k gC gC + 6 ≤ 7293034; unfold sLw; omega⟩) (fun v U2 H locs hp w => ?_)
  obtain ⟨⟨k9U2, rfl⟩, hs⟩ := hp
  rw [eX, eM, eO] at hl
  have hLI := hs _ _ _ _ hLI
  obtain ⟨hC, hR, hE, hO, hZs, hgC, eX, eM, eO⟩ := id hLI
  rw [← eX, ← eM, ← eO] at hl
  refine lv_istore (lv' := [(5, .int k9U2), (0, .ref b), (1, .ref (gG U2 10 0)), (2, .ref (gG U2 16 0)), (3, .ref (gG U2 11 0)), (4, .int (nI ii))]) hx hb dL_law_1320 hl (by decide) rfl (fun ls hl => ?_)
  refine lv_aload_n hx hb dL_law_1322 rfl (lv_at hl 3 rfl) ?_
  refine lv_aload_n hx hb dL_law_1323 rfl (lv_at hl 1 rfl) ?_
  refine lv_iload hx hb dL_law_1324 (lv_at hl 5 rfl) ?_
  refine lv_iconst (v := 1) hx hb dL_law_1326 (by decide) ?_
  refine lv_iadd hx hb dL_law_1327 ?_
  refine va_sld hx hb hX hbl (Nat.not_le.mpr hbl) w.2 (i := ((nI ii) + 1)) (by rw [show nI ii + 1 = nI (ii + 1) from nI_add ii 1]; exact nI_vp (by omega) (by omega)) dL_law_1328 ?_
  refine lv_topi (fun z3 ez3 => ?_)
  refine cV (S := U2) (nA := 1) (As := [.int z3]) (rest := []) X w hl hR.v16 ((k_X16_clarity G U2 hR z3).post (fun v S9 h9 => PFd.stp h9)) wY_X16_clarity wM_L_219 wIn_X16_clarity wSe_X16_X16_clarity wI_X16 (by decide) rfl (by decide +kernel) rfl rfl dL_law_1329 ⟨Nat.le_of_ble_eq_true rfl, Nat.le_of_ble_eq_true rfl⟩ (Nat.le_of_ble_eq_true rfl) (⟨by have := hgC.2; show cLw k gC gC + 1 ≤ 601024; unfold cLw; omega, by have := hgC.2; show sLw k gC gC + 6 ≤ 7293034; unfold sLw; omega⟩) (fun v U4 H locs hp w => ?_)
  obtain ⟨⟨x9U4, rfl⟩, hs⟩ := hp
  rw [eX, eM, eO] at hl
  have hLI := hs _ _ _ _ hLI
  obtain ⟨hC, hR, hE, hO, hZs, hgC, eX, eM, eO⟩ := id hLI
  rw [← eX, ← eM, ← eO] at hl
  refine lv_dstore (lv' := [(6, .double x9U4), (5, .int k9U2), (0, .ref b), (1, .ref (gG U4 10 0)), (2, .ref (gG U4 16 0)), (3, .ref (gG U4 11 0)), (4, .int (nI ii))]) hx hb dL_law_1332 hl (by decide) rfl (fun ls hl => ?_)
  refine lv_goto (tgt := 1585) hx hb dL_law_1334 (by decide) ?_
  refine W.widen (k := cLw (k + 1) gC gC) (n := sLw (k + 1) gC gC) (by show cLw k gC gC + 1 ≤ _; unfold cLw; omega) (by show sLw k gC gC + 6 ≤ _; unfold sLw; omega) ?_
  rw [eX, eM, eO] at hl
  exact K _ _ _ H locs _ hLI w (lv_sub hl [2, 3, 4, 5, 6] rfl)

theorem dL_law_1337 : decode cL_law 1337 = .ok (.aload_n 1, 1) := by decide +kernel
theorem dL_law_1338 : decode cL_law 1338 = .ok (.aload_n 0, 1) := by decide +kernel
theorem dL_law_1339 : decode cL_law 1339 = .ok (.iload 4, 2) := by decide +kernel
theorem dL_law_1341 : decode cL_law 1341 = .ok (.iconst 1, 1) := by decide +kernel
theorem dL_law_1342 : decode cL_law 1342 = .ok (.iadd, 1) := by decide +kernel
theorem dL_law_1343 : decode cL_law 1343 = .ok (.iaload, 1) := by decide +kernel
theorem dL_law_1344 : decode cL_law 1344 = .ok (.aload_n 3, 1) := by decide +kernel
theorem dL_law_1345 : decode cL_law 1345 = .ok (.invokestatic 220, 3) := by decide +kernel
theorem dL_law_1348 : decode cL_law 1348 = .ok (.istore 5, 2) := by decide +kernel
theorem dL_law_1350 : decode cL_law 1350 = .ok (.aload_n 2, 1) := by decide +kernel
theorem dL_law_1351 : decode cL_law 1351 = .ok (.aload_n 0, 1) := by decide +kernel
theorem dL_law_1352 : decode cL_law 1352 = .ok (.iload 4, 2) := by decide +kernel
theorem dL_law_1354 : decode cL_law 1354 = .ok (.iconst 1, 1) := by decide +kernel
theorem dL_law_1355 : decode cL_law 1355 = .ok (.iadd, 1) := by decide +kernel
theorem dL_law_1356 : decode cL_law 1356 = .ok (.iaload, 1) := by decide +kernel
theorem dL_law_1357 : decode cL_law 1357 = .ok (.invokevirtual 222, 3) := by decide +kernel
theorem dL_law_1360 : decode cL_law 1360 = .ok (.istore 6, 2) := by decide +kernel
theorem dL_law_1362 : decode cL_law 1362 = .ok (.goto 223, 3) := by decide +kernel
set_option maxHeartbeats 4000000 in
set_option maxRecDepth 100000 in
theorem lo_26 {s : State} {l : Launch} {D : va_G} {cy : Nat → ClassId} (G : Gl s l D cy) {p : Program} {e : Env} {m : MethodId} {below : List Frame} {meth : Method} {c : Code} {ret9 : Option FieldType} {b L : Nat} {xs : Nat → Int32} (X : Cx s l D cy p s m #[Value.ref b] meth c cL_law 8 "CavershamShiftLaw" ret9) (hX : va_X b L xs s s.heap) (hbl : b < s.heap.size) {S : HS} {H : Heap} {locs : List Loc} {ls : Array Slot} {ii k gC : Nat} {cn : Cn} {ax am ao : Nat} {Q : State → Prop} (w : Wd s D cy S s.heap H locs) (hl : lv_has ls 8 [(0, .ref b), (1, .ref ax), (2, .ref am), (3, .ref ao), (4, .int (nI ii))]) (hLI : LI s S gC cn ax am ao) (hi : ii + 7 ≤ L) (hL9 : L ≤ 3584) (hk : k ≤ 511) (K : ∀ (U : HS) (gC1 : Nat) (cn1 : Cn) (H : Heap) (locs : List Loc) (ls : Array Slot), LI s U gC1 cn1 ax am ao → Wd s D cy U s.heap H locs → lv_has ls 8 [(0, .ref b), (1, .ref ax), (2, .ref am), (3, .ref ao), (4, .int (nI ii))] → W p l e room_1 s m #[Value.ref b] below meth c H locs (cLw (k + 1) gC1 gC1) (sLw (k + 1) gC1 gC1) Q (F0 m 1585 ls [])) : W p l e room_1 s m #[Value.ref b] below meth c H locs (cLw k gC gC) (sLw k gC gC) Q (F0 m 1337 ls []) := by
  have hx := X.1
  have hb := X.2.1
  have hown := X.2.2.2.1
  have hts := X.2.2.2.2.1
  obtain ⟨hC, hR, hE, hO, hZs, hgC, eX, eM, eO⟩ := id hLI
  rw [← eX, ← eM, ← eO] at hl
  refine lv_aload_n hx hb dL_law_1337 rfl (lv_at hl 1 rfl) ?_
  refine lv_aload_n hx hb dL_law_1338 rfl (lv_at hl 0 rfl) ?_
  refine lv_iload hx hb dL_law_1339 (lv_at hl 4 rfl) ?_
  refine lv_iconst (v := 1) hx hb dL_law_1341 (by decide) ?_
  refine lv_iadd hx hb dL_law_1342 ?_
  refine va_sld hx hb hX hbl (Nat.not_le.mpr hbl) w.2 (i := ((nI ii) + 1)) (by rw [show nI ii + 1 = nI (ii + 1) from nI_add ii 1]; exact nI_vp (by omega) (by omega)) dL_law_1343 ?_
  refine lv_topi (fun z1 ez1 => ?_)
  refine lv_aload_n hx hb dL_law_1344 rfl (lv_at hl 3 rfl) ?_
  refine cSW (S := S) (nA := 3) (As := [.ref (gG S 10 0), .int z1, .ref (gG S 11 0)]) (rest := []) X w hl ((w_L_desk G S hC hO hC.v10 z1).post (post' := PW s S cn) (fun v S9 h9 => by rcases h9 with ⟨-, rfl, rfl⟩ | ⟨-, rfl, S8, hC8, hB8, rfl⟩ <;> first | exact ⟨⟨_, rfl⟩, StpL.rf⟩ | exact ⟨⟨_, rfl⟩, StpL.ofCB hC8 hB8 (Or.inr (Or.inl ⟨_, rfl⟩))⟩)) wYW_L_desk wM_L_220 wSt_L_desk wI_L (by decide +kernel) rfl rfl dL_law_1345 ⟨Nat.le_of_ble_eq_true rfl, Nat.le_of_ble_eq_true rfl⟩ (Nat.le_of_ble_eq_true rfl) (⟨by have := hgC.2; show cLw k gC gC + 1 ≤ 601024; unfold cLw; omega, by have := hgC.2; show sLw k gC gC + 6 ≤ 7293034; unfold sLw; omega⟩) (fun v U2 H locs hp w => ?_)
  obtain ⟨⟨k9U2, rfl⟩, hs⟩ := hp
  rw [eX, eM, eO] at hl
  have hLI := hs _ _ _ _ hLI
  obtain ⟨hC, hR, hE, hO, hZs, hgC, eX, eM, eO⟩ := id hLI
  rw [← eX, ← eM, ← eO] at hl
  refine lv_istore (lv' := [(5, .int k9U2), (0, .ref b), (1, .ref (gG U2 10 0)), (2, .ref (gG U2 16 0)), (3, .ref (gG U2 11 0)), (4, .int (nI ii))]) hx hb dL_law_1348 hl (by decide) rfl (fun ls hl => ?_)
  refine lv_aload_n hx hb dL_law_1350 rfl (lv_at hl 3 rfl) ?_
  refine lv_aload_n hx hb dL_law_1351 rfl (lv_at hl 1 rfl) ?_
  refine lv_iload hx hb dL_law_1352 (lv_at hl 5 rfl) ?_
  refine lv_iconst (v := 1) hx hb dL_law_1354 (by decide) ?_
  refine lv_iadd hx hb dL_law_1355 ?_
  refine va_sld hx hb hX hbl (Nat.not_le.mpr hbl) w.2 (i := ((nI ii) + 1)) (by rw [show nI ii + 1 = nI (ii + 1) from nI_add ii 1]; exact nI_vp (by omega) (by omega)) dL_law_1356 ?_
  refine lv_topi (fun z3 ez3 => ?_)
  refine cV (S := U2) (nA := 1) (As := [.int z3]) (rest := []) X w hl hR.v16 ((k_X16_desk G U2 hR z3).post (fun v S9 h9 => PF.stp h9)) wY_X16_desk wM_L_222 wIn_X16_desk wSe_X16_X16_desk wI_X16 (by decide) rfl (by decide +kernel) rfl rfl dL_law_1357 ⟨Nat.le_of_ble_eq_true rfl, Nat.le_of_ble_eq_true rfl⟩ (Nat.le_of_ble_eq_true rfl) (⟨by have := hgC.2; show cLw k gC gC + 3 ≤ 601024; unfold cLw; omega, by have := hgC.2; show sLw k gC gC + 30 ≤ 7293034; unfold sLw; omega⟩) (fun v U4 H locs hp w => ?_)
  obtain ⟨⟨x9U4, rfl⟩, hs⟩ := hp
  rw [eX, eM, eO] at hl
  have hLI := hs _ _ _ _ hLI
  obtain ⟨hC, hR, hE, hO, hZs, hgC, eX, eM, eO⟩ := id hLI
  rw [← eX, ← eM, ← eO] at hl
  refine lv_istore (lv' := [(6, .int x9U4), (5, .int k9U2), (0, .ref b), (1, .ref (gG U4 10 0)), (2, .ref (gG U4 16 0)), (3, .ref (gG U4 11 0)), (4, .int (nI ii))]) hx hb dL_law_1360 hl (by decide) rfl (fun ls hl => ?_)
  refine lv_goto (tgt := 1585) hx hb dL_law_1362 (by decide) ?_
  refine W.widen (k := cLw (k + 1) gC gC) (n := sLw (k + 1) gC gC) (by show cLw k gC gC + 3 ≤ _; unfold cLw; omega) (by show sLw k gC gC + 30 ≤ _; unfold sLw; omega) ?_
  rw [eX, eM, eO] at hl
  exact K _ _ _ H locs _ hLI w (lv_sub hl [2, 3, 4, 5, 6] rfl)

theorem dL_law_1365 : decode cL_law 1365 = .ok (.aload_n 1, 1) := by decide +kernel
theorem dL_law_1366 : decode cL_law 1366 = .ok (.aload_n 0, 1) := by decide +kernel
theorem dL_law_1367 : decode cL_law 1367 = .ok (.iload 4, 2) := by decide +kernel
theorem dL_law_1369 : decode cL_law 1369 = .ok (.iconst 1, 1) := by decide +kernel
theorem dL_law_1370 : decode cL_law 1370 = .ok (.iadd, 1) := by decide +kernel
theorem dL_law_1371 : decode cL_law 1371 = .ok (.iaload, 1) := by decide +kernel
theorem dL_law_1372 : decode cL_law 1372 = .ok (.aload_n 3, 1) := by decide +kernel
theorem dL_law_1373 : decode cL_law 1373 = .ok (.invokestatic 223, 3) := by decide +kernel
theorem dL_law_1376 : decode cL_law 1376 = .ok (.istore 5, 2) := by decide +kernel
theorem dL_law_1378 : decode cL_law 1378 = .ok (.aload_n 2, 1) := by decide +kernel
theorem dL_law_1379 : decode cL_law 1379 = .ok (.aload_n 0, 1) := by decide +kernel
theorem dL_law_1380 : decode cL_law 1380 = .ok (.iload 4, 2) := by decide +kernel
theorem dL_law_1382 : decode cL_law 1382 = .ok (.iconst 1, 1) := by decide +kernel
theorem dL_law_1383 : decode cL_law 1383 = .ok (.iadd, 1) := by decide +kernel
theorem dL_law_1384 : decode cL_law 1384 = .ok (.iaload, 1) := by decide +kernel
theorem dL_law_1385 : decode cL_law 1385 = .ok (.invokevirtual 225, 3) := by decide +kernel
theorem dL_law_1388 : decode cL_law 1388 = .ok (.astore 6, 2) := by decide +kernel
theorem dL_law_1390 : decode cL_law 1390 = .ok (.goto 195, 3) := by decide +kernel
set_option maxHeartbeats 4000000 in
set_option maxRecDepth 100000 in
theorem lo_27 {s : State} {l : Launch} {D : va_G} {cy : Nat → ClassId} (G : Gl s l D cy) {p : Program} {e : Env} {m : MethodId} {below : List Frame} {meth : Method} {c : Code} {ret9 : Option FieldType} {b L : Nat} {xs : Nat → Int32} (X : Cx s l D cy p s m #[Value.ref b] meth c cL_law 8 "CavershamShiftLaw" ret9) (hX : va_X b L xs s s.heap) (hbl : b < s.heap.size) {S : HS} {H : Heap} {locs : List Loc} {ls : Array Slot} {ii k gC : Nat} {cn : Cn} {ax am ao : Nat} {Q : State → Prop} (w : Wd s D cy S s.heap H locs) (hl : lv_has ls 8 [(0, .ref b), (1, .ref ax), (2, .ref am), (3, .ref ao), (4, .int (nI ii))]) (hLI : LI s S gC cn ax am ao) (hi : ii + 7 ≤ L) (hL9 : L ≤ 3584) (hk : k ≤ 511) (K : ∀ (U : HS) (gC1 : Nat) (cn1 : Cn) (H : Heap) (locs : List Loc) (ls : Array Slot), LI s U gC1 cn1 ax am ao → Wd s D cy U s.heap H locs → lv_has ls 8 [(0, .ref b), (1, .ref ax), (2, .ref am), (3, .ref ao), (4, .int (nI ii))] → W p l e room_1 s m #[Value.ref b] below meth c H locs (cLw (k + 1) gC1 gC1) (sLw (k + 1) gC1 gC1) Q (F0 m 1585 ls [])) : W p l e room_1 s m #[Value.ref b] below meth c H locs (cLw k gC gC) (sLw k gC gC) Q (F0 m 1365 ls []) := by
  have hx := X.1
  have hb := X.2.1
  have hown := X.2.2.2.1
  have hts := X.2.2.2.2.1
  obtain ⟨hC, hR, hE, hO, hZs, hgC, eX, eM, eO⟩ := id hLI
  rw [← eX, ← eM, ← eO] at hl
  refine lv_aload_n hx hb dL_law_1365 rfl (lv_at hl 1 rfl) ?_
  refine lv_aload_n hx hb dL_law_1366 rfl (lv_at hl 0 rfl) ?_
  refine lv_iload hx hb dL_law_1367 (lv_at hl 4 rfl) ?_
  refine lv_iconst (v := 1) hx hb dL_law_1369 (by decide) ?_
  refine lv_iadd hx hb dL_law_1370 ?_
  refine va_sld hx hb hX hbl (Nat.not_le.mpr hbl) w.2 (i := ((nI ii) + 1)) (by rw [show nI ii + 1 = nI (ii + 1) from nI_add ii 1]; exact nI_vp (by omega) (by omega)) dL_law_1371 ?_
  refine lv_topi (fun z1 ez1 => ?_)
  refine lv_aload_n hx hb dL_law_1372 rfl (lv_at hl 3 rfl) ?_
  refine cSW (S := S) (nA := 3) (As := [.ref (gG S 10 0), .int z1, .ref (gG S 11 0)]) (rest := []) X w hl (w_L_tell G S hC hO hZs hC.v10 z1) wYW_L_tell wM_L_223 wSt_L_tell wI_L (by decide +kernel) rfl rfl dL_law_1373 ⟨Nat.le_of_ble_eq_true rfl, Nat.le_of_ble_eq_true rfl⟩ (Nat.le_of_ble_eq_true rfl) (⟨by have := hgC.2; show cLw k gC gC + 12 ≤ 601024; unfold cLw; omega, by have := hgC.2; show sLw k gC gC + 1900 ≤ 7293034; unfold sLw; omega⟩) (fun v U2 H locs hp w => ?_)
  obtain ⟨⟨k9U2, rfl⟩, hs⟩ := hp
  rw [eX, eM, eO] at hl
  have hLI := hs _ _ _ _ hLI
  obtain ⟨hC, hR, hE, hO, hZs, hgC, eX, eM, eO⟩ := id hLI
  rw [← eX, ← eM, ← eO] at hl
  refine lv_istore (lv' := [(5, .int k9U2), (0, .ref b), (1, .ref (gG U2 10 0)), (2, .ref (gG U2 16 0)), (3, .ref (gG U2 11 0)), (4, .int (nI ii))]) hx hb dL_law_1376 hl (by decide) rfl (fun ls hl => ?_)
  refine lv_aload_n hx hb dL_law_1378 rfl (lv_at hl 3 rfl) ?_
  refine lv_aload_n hx hb dL_law_1379 rfl (lv_at hl 1 rfl) ?_
  refine lv_iload hx hb dL_law_1380 (lv_at hl 5 rfl) ?_
  refine lv_iconst (v := 1) hx hb dL_law_1382 (by decide) ?_
  refine lv_iadd hx hb dL_law_1383 ?_
  refine va_sld hx hb hX hbl (Nat.not_le.mpr hbl) w.2 (i := ((nI ii) + 1)) (by rw [show nI ii + 1 = nI (ii + 1) from nI_add ii 1]; exact nI_vp (by omega) (by omega)) dL_law_1384 ?_
  refine lv_topi (fun z3 ez3 => ?_)
  refine cV (S := U2) (nA := 1) (As := [.int z3]) (rest := []) X w hl hR.v16 (k_X16_tell G U2 hR hZs z3) wY_X16_tell wM_L_225 wIn_X16_tell wSe_X16_X16_tell wI_X16 (by decide) rfl (by decide +kernel) rfl rfl dL_law_1385 ⟨Nat.le_of_ble_eq_true rfl, Nat.le_of_ble_eq_true rfl⟩ (Nat.le_of_ble_eq_true rfl) (⟨by have := hgC.2; show cLw k gC gC + 30 ≤ 601024; unfold cLw; omega, by have := hgC.2; show sLw k gC gC + 4200 ≤ 7293034; unfold sLw; omega⟩) (fun v U4 H locs hp w => ?_)
  obtain ⟨⟨x9U4, rfl⟩, h1, hk1⟩ := hp
  have hs : StpL s cn U2 U4 := StpL.ofR h1 hk1
  rw [eX, eM, eO] at hl
  have hLI := hs _ _ _ _ hLI
  obtain ⟨hC, hR, hE, hO, hZs, hgC, eX, eM, eO⟩ := id hLI
  rw [← eX, ← eM, ← eO] at hl
  refine lv_astore (lv' := [(6, .ref x9U4), (5, .int k9U2), (0, .ref b), (1, .ref (gG U4 10 0)), (2, .ref (gG U4 16 0)), (3, .ref (gG U4 11 0)), (4, .int (nI ii))]) hx hb dL_law_1388 hl (by decide) rfl (fun ls hl => ?_)
  refine lv_goto (tgt := 1585) hx hb dL_law_1390 (by decide) ?_
  refine W.widen (k := cLw (k + 1) gC gC) (n := sLw (k + 1) gC gC) (by show cLw k gC gC + 30 ≤ _; unfold cLw; omega) (by show sLw k gC gC + 4200 ≤ _; unfold sLw; omega) ?_
  rw [eX, eM, eO] at hl
  exact K _ _ _ H locs _ hLI w (lv_sub hl [2, 3, 4, 5, 6] rfl)

theorem dL_law_1393 : decode cL_law 1393 = .ok (.aload_n 1, 1) := by decide +kernel
theorem dL_law_1394 : decode cL_law 1394 = .ok (.aload_n 0, 1) := by decide +kernel
theorem dL_law_1395 : decode cL_law 1395 = .ok (.iload 4, 2) := by decide +kernel
theorem dL_law_1397 : decode cL_law 1397 = .ok (.iconst 1, 1) := by decide +kernel
theorem dL_law_1398 : decode cL_law 1398 = .ok (.iadd, 1) := by decide +kernel
theorem dL_law_1399 : decode cL_law 1399 = .ok (.iaload, 1) := by decide +kernel
theorem dL_law_1400 : decode cL_law 1400 = .ok (.aload_n 3, 1) := by decide +kernel
theorem dL_law_1401 : decode cL_law 1401 = .ok (.invokestatic 226, 3) := by decide +kernel
theorem dL_law_1404 : decode cL_law 1404 = .ok (.istore 5, 2) := by decide +kernel
theorem dL_law_1406 : decode cL_law 1406 = .ok (.aload_n 2, 1) := by decide +kernel
theorem dL_law_1407 : decode cL_law 1407 = .ok (.aload_n 0, 1) := by decide +kernel
theorem dL_law_1408 : decode cL_law 1408 = .ok (.iload 4, 2) := by decide +kernel
theorem dL_law_1410 : decode cL_law 1410 = .ok (.iconst 1, 1) := by decide +kernel
theorem dL_law_1411 : decode cL_law 1411 = .ok (.iadd, 1) := by decide +kernel
theorem dL_law_1412 : decode cL_law 1412 = .ok (.iaload, 1) := by decide +kernel
theorem dL_law_1413 : decode cL_law 1413 = .ok (.invokevirtual 228, 3) := by decide +kernel
theorem dL_law_1416 : decode cL_law 1416 = .ok (.istore 6, 2) := by decide +kernel
theorem dL_law_1418 : decode cL_law 1418 = .ok (.goto 167, 3) := by decide +kernel
set_option maxHeartbeats 4000000 in
set_option maxRecDepth 100000 in
theorem lo_28 {s : State} {l : Launch} {D : va_G} {cy : Nat → ClassId} (G : Gl s l D cy) {p : Program} {e : Env} {m : MethodId} {below : List Frame} {meth : Method} {c : Code} {ret9 : Option FieldType} {b L : Nat} {xs : Nat → Int32} (X : Cx s l D cy p s m #[Value.ref b] meth c cL_law 8 "CavershamShiftLaw" ret9) (hX : va_X b L xs s s.heap) (hbl : b < s.heap.size) {S : HS} {H : Heap} {locs : List Loc} {ls : Array Slot} {ii k gC : Nat} {cn : Cn} {ax am ao : Nat} {Q : State → Prop} (w : Wd s D cy S s.heap H locs) (hl : lv_has ls 8 [(0, .ref b), (1, .ref ax), (2, .ref am), (3, .ref ao), (4, .int (nI ii))]) (hLI : LI s S gC cn ax am ao) (hi : ii + 7 ≤ L) (hL9 : L ≤ 3584) (hk : k ≤ 511) (K : ∀ (U : HS) (gC1 : Nat) (cn1 : Cn) (H : Heap) (locs : List Loc) (ls : Array Slot), LI s U gC1 cn1 ax am ao → Wd s D cy U s.heap H locs → lv_has ls 8 [(0, .ref b), (1, .ref ax), (2, .ref am), (3, .ref ao), (4, .int (nI ii))] → W p l e room_1 s m #[Value.ref b] below meth c H locs (cLw (k + 1) gC1 gC1) (sLw (k + 1) gC1 gC1) Q (F0 m 1585 ls [])) : W p l e room_1 s m #[Value.ref b] below meth c H locs (cLw k gC gC) (sLw k gC gC) Q (F0 m 1393 ls []) := by
  have hx := X.1
  have hb := X.2.1
  have hown := X.2.2.2.1
  have hts := X.2.2.2.2.1
  obtain ⟨hC, hR, hE, hO, hZs, hgC, eX, eM, eO⟩ := id hLI
  rw [← eX, ← eM, ← eO] at hl
  refine lv_aload_n hx hb dL_law_1393 rfl (lv_at hl 1 rfl) ?_
  refine lv_aload_n hx hb dL_law_1394 rfl (lv_at hl 0 rfl) ?_
  refine lv_iload hx hb dL_law_1395 (lv_at hl 4 rfl) ?_
  refine lv_iconst (v := 1) hx hb dL_law_1397 (by decide) ?_
  refine lv_iadd hx hb dL_law_1398 ?_
  refine va_sld hx hb hX hbl (Nat.not_le.mpr hbl) w.2 (i := ((nI ii) + 1)) (by rw [show nI ii + 1 = nI (ii + 1) from nI_add ii 1]; exact nI_vp (by omega) (by omega)) dL_law_1399 ?_
  refine lv_topi (fun z1 ez1 => ?_)
  refine lv_aload_n hx hb dL_law_1400 rfl (lv_at hl 3 rfl) ?_
  refine cSW (S := S) (nA := 3) (As := [.ref (gG S 10 0), .int z1, .ref (gG S 11 0)]) (rest := []) X w hl ((w_L_best G S hC hO hC.v10 z1).post (post' := PW s S cn) (fun v S9 h9 => by rcases h9 with ⟨-, rfl, rfl⟩ | ⟨-, rfl, S8, hC8, hB8, rfl⟩ <;> first | exact ⟨⟨_, rfl⟩, StpL.rf⟩ | exact ⟨⟨_, rfl⟩, StpL.ofCB hC8 hB8 (Or.inr (Or.inl ⟨_, rfl⟩))⟩)) wYW_L_best wM_L_226 wSt_L_best wI_L (by decide +kernel) rfl rfl dL_law_1401 ⟨Nat.le_of_ble_eq_true rfl, Nat.le_of_ble_eq_true rfl⟩ (Nat.le_of_ble_eq_true rfl) (⟨by have := hgC.2; show cLw k gC gC + 1 ≤ 601024; unfold cLw; omega, by have := hgC.2; show sLw k gC gC + 6 ≤ 7293034; unfold sLw; omega⟩) (fun v U2 H locs hp w => ?_)
  obtain ⟨⟨k9U2, rfl⟩, hs⟩ := hp
  rw [eX, eM, eO] at hl
  have hLI := hs _ _ _ _ hLI
  obtain ⟨hC, hR, hE, hO, hZs, hgC, eX, eM, eO⟩ := id hLI
  rw [← eX, ← eM, ← eO] at hl
  refine lv_istore (lv' := [(5, .int k9U2), (0, .ref b), (1, .ref (gG U2 10 0)), (2, .ref (gG U2 16 0)), (3, .ref (gG U2 11 0)), (4, .int (nI ii))]) hx hb dL_law_1404 hl (by decide) rfl (fun ls hl => ?_)
  refine lv_aload_n hx hb dL_law_1406 rfl (lv_at hl 3 rfl) ?_
  refine lv_aload_n hx hb dL_law_1407 rfl (lv_at hl 1 rfl) ?_
  refine lv_iload hx hb dL_law_1408 (lv_at hl 5 rfl) ?_
  refine lv_iconst (v := 1) hx hb dL_law_1410 (by decide) ?_
  refine lv_iadd hx hb dL_law_1411 ?_
  refine va_sld hx hb hX hbl (Nat.not_le.mpr hbl) w.2 (i := ((nI ii) + 1)) (by rw [show nI ii + 1 = nI (ii + 1) from nI_add ii 1]; exact nI_vp (by omega) (by omega)) dL_law_1412 ?_
  refine lv_topi (fun z3 ez3 => ?_)
  refine cV (S := U2) (nA := 1) (As := [.int z3]) (rest := []) X w hl hR.v16 ((k_X16_best G U2 hR z3).post (fun v S9 h9 => PF.stp h9)) wY_X16_best wM_L_228 wIn_X16_best wSe_X16_X16_best wI_X16 (by decide) rfl (by decide +kernel) rfl rfl dL_law_1413 ⟨Nat.le_of_ble_eq_true rfl, Nat.le_of_ble_eq_true rfl⟩ (Nat.le_of_ble_eq_true rfl) (⟨by have := hgC.2; show cLw k gC gC + 3 ≤ 601024; unfold cLw; omega, by have := hgC.2; show sLw k gC gC + 54 ≤ 7293034; unfold sLw; omega⟩) (fun v U4 H locs hp w => ?_)
  obtain ⟨⟨x9U4, rfl⟩, hs⟩ := hp
  rw [eX, eM, eO] at hl
  have hLI := hs _ _ _ _ hLI
  obtain ⟨hC, hR, hE, hO, hZs, hgC, eX, eM, eO⟩ := id hLI
  rw [← eX, ← eM, ← eO] at hl
  refine lv_istore (lv' := [(6, .int x9U4), (5, .int k9U2), (0, .ref b), (1, .ref (gG U4 10 0)), (2, .ref (gG U4 16 0)), (3, .ref (gG U4 11 0)), (4, .int (nI ii))]) hx hb dL_law_1416 hl (by decide) rfl (fun ls hl => ?_)
  refine lv_goto (tgt := 1585) hx hb dL_law_1418 (by decide) ?_
  refine W.widen (k := cLw (k + 1) gC gC) (n := sLw (k + 1) gC gC) (by show cLw k gC gC + 3 ≤ _; unfold cLw; omega) (by show sLw k gC gC + 54 ≤ _; unfold sLw; omega) ?_
  rw [eX, eM, eO] at hl
  exact K _ _ _ H locs _ hLI w (lv_sub hl [2, 3, 4, 5, 6] rfl)

theorem dL_law_1421 : decode cL_law 1421 = .ok (.aload_n 1, 1) := by decide +kernel
theorem dL_law_1422 : decode cL_law 1422 = .ok (.aload_n 0, 1) := by decide +kernel
theorem dL_law_1423 : decode cL_law 1423 = .ok (.iload 4, 2) := by decide +kernel
theorem dL_law_1425 : decode cL_law 1425 = .ok (.iconst 1, 1) := by decide +kernel
theorem dL_law_1426 : decode cL_law 1426 = .ok (.iadd, 1) := by decide +kernel
theorem dL_law_1427 : decode cL_law 1427 = .ok (.iaload, 1) := by decide +kernel
theorem dL_law_1428 : decode cL_law 1428 = .ok (.aload_n 0, 1) := by decide +kernel
theorem dL_law_1429 : decode cL_law 1429 = .ok (.iload 4, 2) := by decide +kernel
theorem dL_law_1431 : decode cL_law 1431 = .ok (.iconst 2, 1) := by decide +kernel
theorem dL_law_1432 : decode cL_law 1432 = .ok (.iadd, 1) := by decide +kernel
theorem dL_law_1433 : decode cL_law 1433 = .ok (.iaload, 1) := by decide +kernel
theorem dL_law_1434 : decode cL_law 1434 = .ok (.aload_n 0, 1) := by decide +kernel
theorem dL_law_1435 : decode cL_law 1435 = .ok (.iload 4, 2) := by decide +kernel
theorem dL_law_1437 : decode cL_law 1437 = .ok (.iconst 3, 1) := by decide +kernel
theorem dL_law_1438 : decode cL_law 1438 = .ok (.iadd, 1) := by decide +kernel
theorem dL_law_1439 : decode cL_law 1439 = .ok (.iaload, 1) := by decide +kernel
theorem dL_law_1440 : decode cL_law 1440 = .ok (.ifCond .eq 7, 3) := by decide +kernel
theorem dL_law_1443 : decode cL_law 1443 = .ok (.iconst 1, 1) := by decide +kernel
theorem dL_law_1444 : decode cL_law 1444 = .ok (.goto 4, 3) := by decide +kernel
theorem dL_law_1447 : decode cL_law 1447 = .ok (.iconst 0, 1) := by decide +kernel
theorem dL_law_1448 : decode cL_law 1448 = .ok (.aload_n 3, 1) := by decide +kernel
theorem dL_law_1449 : decode cL_law 1449 = .ok (.invokestatic 229, 3) := by decide +kernel
theorem dL_law_1452 : decode cL_law 1452 = .ok (.istore 5, 2) := by decide +kernel
theorem dL_law_1454 : decode cL_law 1454 = .ok (.aload_n 2, 1) := by decide +kernel
theorem dL_law_1455 : decode cL_law 1455 = .ok (.aload_n 0, 1) := by decide +kernel
theorem dL_law_1456 : decode cL_law 1456 = .ok (.iload 4, 2) := by decide +kernel
theorem dL_law_1458 : decode cL_law 1458 = .ok (.iconst 1, 1) := by decide +kernel
theorem dL_law_1459 : decode cL_law 1459 = .ok (.iadd, 1) := by decide +kernel
theorem dL_law_1460 : decode cL_law 1460 = .ok (.iaload, 1) := by decide +kernel
theorem dL_law_1461 : decode cL_law 1461 = .ok (.aload_n 0, 1) := by decide +kernel
theorem dL_law_1462 : decode cL_law 1462 = .ok (.iload 4, 2) := by decide +kernel
theorem dL_law_1464 : decode cL_law 1464 = .ok (.iconst 2, 1) := by decide +kernel
theorem dL_law_1465 : decode cL_law 1465 = .ok (.iadd, 1) := by decide +kernel
theorem dL_law_1466 : decode cL_law 1466 = .ok (.iaload, 1) := by decide +kernel
theorem dL_law_1467 : decode cL_law 1467 = .ok (.aload_n 0, 1) := by decide +kernel
theorem dL_law_1468 : decode cL_law 1468 = .ok (.iload 4, 2) := by decide +kernel
theorem dL_law_1470 : decode cL_law 1470 = .ok (.iconst 3, 1) := by decide +kernel
theorem dL_law_1471 : decode cL_law 1471 = .ok (.iadd, 1) := by decide +kernel
theorem dL_law_1472 : decode cL_law 1472 = .ok (.iaload, 1) := by decide +kernel
theorem dL_law_1473 : decode cL_law 1473 = .ok (.ifCond .eq 7, 3) := by decide +kernel
theorem dL_law_1476 : decode cL_law 1476 = .ok (.iconst 1, 1) := by decide +kernel
theorem dL_law_1477 : decode cL_law 1477 = .ok (.goto 4, 3) := by decide +kernel
theorem dL_law_1480 : decode cL_law 1480 = .ok (.iconst 0, 1) := by decide +kernel
theorem dL_law_1481 : decode cL_law 1481 = .ok (.invokevirtual 231, 3) := by decide +kernel
theorem dL_law_1484 : decode cL_law 1484 = .ok (.istore 6, 2) := by decide +kernel
theorem dL_law_1486 : decode cL_law 1486 = .ok (.aload_n 2, 1) := by decide +kernel
theorem dL_law_1487 : decode cL_law 1487 = .ok (.invokevirtual 232, 3) := by decide +kernel
theorem dL_law_1490 : decode cL_law 1490 = .ok (.iload 5, 2) := by decide +kernel
theorem dL_law_1492 : decode cL_law 1492 = .ok (.if_icmp .eq 5, 3) := by decide +kernel
theorem dL_law_1497 : decode cL_law 1497 = .ok (.iload 5, 2) := by decide +kernel
theorem dL_law_1499 : decode cL_law 1499 = .ok (.ifCond .ne 16, 3) := by decide +kernel
theorem dL_law_1502 : decode cL_law 1502 = .ok (.aload_n 3, 1) := by decide +kernel
theorem dL_law_1503 : decode cL_law 1503 = .ok (.getfield 13, 3) := by decide +kernel
theorem dL_law_1506 : decode cL_law 1506 = .ok (.iload 6, 2) := by decide +kernel
theorem dL_law_1508 : decode cL_law 1508 = .ok (.i2l, 1) := by decide +kernel
theorem dL_law_1509 : decode cL_law 1509 = .ok (.lcmp, 1) := by decide +kernel
theorem dL_law_1510 : decode cL_law 1510 = .ok (.ifCond .eq 5, 3) := by decide +kernel
theorem dL_law_1515 : decode cL_law 1515 = .ok (.goto 70, 3) := by decide +kernel
set_option maxHeartbeats 4000000 in
set_option maxRecDepth 100000 in
theorem lo_29 {s : State} {l : Launch} {D : va_G} {cy : Nat → ClassId} (G : Gl s l D cy) {p : Program} {e : Env} {m : MethodId} {below : List Frame} {meth : Method} {c : Code} {ret9 : Option FieldType} {b L : Nat} {xs : Nat → Int32} (X : Cx s l D cy p s m #[Value.ref b] meth c cL_law 8 "CavershamShiftLaw" ret9) (hX : va_X b L xs s s.heap) (hbl : b < s.heap.size) {S : HS} {H : Heap} {locs : List Loc} {ls : Array Slot} {ii k gC : Nat} {cn : Cn} {ax am ao : Nat} {Q : State → Prop} (w : Wd s D cy S s.heap H locs) (hl : lv_has ls 8 [(0, .ref b), (1, .ref ax), (2, .ref am), (3, .ref ao), (4, .int (nI ii))]) (hLI : LI s S gC cn ax am ao) (hi : ii + 7 ≤ L) (hL9 : L ≤ 3584) (hk : k ≤ 511) (K : ∀ (U : HS) (gC1 : Nat) (cn1 : Cn) (H : Heap) (locs : List Loc) (ls : Array Slot), LI s U gC1 cn1 ax am ao → Wd s D cy U s.heap H locs → lv_has ls 8 [(0, .ref b), (1, .ref ax), (2, .ref am), (3, .ref ao), (4, .int (nI ii))] → W p l e room_1 s m #[Value.ref b] below meth c H locs (cLw (k + 1) gC1 gC1) (sLw (k + 1) gC1 gC1) Q (F0 m 1585 ls [])) : W p l e room_1 s m #[Value.ref b] below meth c H locs (cLw k gC gC) (sLw k gC gC) Q (F0 m 1421 ls []) := by
  have hx := X.1
  have hb := X.2.1
  have hown := X.2.2.2.1
  have hts := X.2.2.2.2.1
  obtain ⟨hC, hR, hE, hO, hZs, hgC, eX, eM, eO⟩ := id hLI
  rw [← eX, ← eM, ← eO] at hl
  refine lv_aload_n hx hb dL_law_1421 rfl (lv_at hl 1 rfl) ?_
  refine lv_aload_n hx hb dL_law_1422 rfl (lv_at hl 0 rfl) ?_
  refine lv_iload hx hb dL_law_1423 (lv_at hl 4 rfl) ?_
  refine lv_iconst (v := 1) hx hb dL_law_1425 (by decide) ?_
  refine lv_iadd hx hb dL_law_1426 ?_
  refine va_sld hx hb hX hbl (Nat.not_le.mpr hbl) w.2 (i := ((nI ii) + 1)) (by rw [show nI ii + 1 = nI (ii + 1) from nI_add ii 1]; exact nI_vp (by omega) (by omega)) dL_law_1427 ?_
  refine lv_topi (fun z1 ez1 => ?_)
  refine lv_aload_n hx hb dL_law_1428 rfl (lv_at hl 0 rfl) ?_
  refine lv_iload hx hb dL_law_1429 (lv_at hl 4 rfl) ?_
  refine lv_iconst (v := 2) hx hb dL_law_1431 (by decide) ?_
  refine lv_iadd hx hb dL_law_1432 ?_
  refine va_sld hx hb hX hbl (Nat.not_le.mpr hbl) w.2 (i := ((nI ii) + 2)) (by rw [show nI ii + 2 = nI (ii + 2) from nI_add ii 2]; exact nI_vp (by omega) (by omega)) dL_law_1433 ?_
  refine lv_topi (fun z2 ez2 => ?_)
  refine lv_aload_n hx hb dL_law_1434 rfl (lv_at hl 0 rfl) ?_
  refine lv_iload hx hb dL_law_1435 (lv_at hl 4 rfl) ?_
  refine lv_iconst (v := 3) hx hb dL_law_1437 (by decide) ?_
  refine lv_iadd hx hb dL_law_1438 ?_
  refine va_sld hx hb hX hbl (Nat.not_le.mpr hbl) w.2 (i := ((nI ii) + 3)) (by rw [show nI ii + 3 = nI (ii + 3) from nI_add ii 3]; exact nI_vp (by omega) (by omega)) dL_law_1439 ?_
  refine lv_topi (fun z3 ez3 => ?_)
  refine lv_if_eq (tgt := 1447) hx hb dL_law_1440 (by decide) (fun hbz => ?_) (fun hbz => ?_)
  · skip
    refine lv_iconst (v := 0) hx hb dL_law_1447 (by decide) ?_
    refine lv_aload_n hx hb dL_law_1448 rfl (lv_at hl 3 rfl) ?_
    refine cSW (S := S) (nA := 5) (As := [.ref (gG S 10 0), .int z1, .int z2, .int 0, .ref (gG S 11 0)]) (rest := []) X w hl (w_L_bestAt G S hC hO hC.v10 z1 z2 0) wYW_L_bestAt wM_L_229 wSt_L_bestAt wI_L (by decide +kernel) rfl rfl dL_law_1449 ⟨Nat.le_of_ble_eq_true rfl, Nat.le_of_ble_eq_true rfl⟩ (Nat.le_of_ble_eq_true rfl) (⟨by have := hgC.2; show cLw k gC gC + 1 ≤ 601024; unfold cLw; omega, by have := hgC.2; show sLw k gC gC + 6 ≤ 7293034; unfold sLw; omega⟩) (fun v U1 H locs hp w => ?_)
    rcases hp with ⟨hkC, rfl, rfl⟩ | ⟨hkC, rfl, S9, hC9, hB9, rfl⟩
    · refine lv_istore (lv' := [(5, .int 1), (0, .ref b), (1, .ref (gG S 10 0)), (2, .ref (gG S 16 0)), (3, .ref (gG S 11 0)), (4, .int (nI ii))]) hx hb dL_law_1452 hl (by decide) rfl (fun ls hl => ?_)
      refine lv_aload_n hx hb dL_law_1454 rfl (lv_at hl 3 rfl) ?_
      refine lv_aload_n hx hb dL_law_1455 rfl (lv_at hl 1 rfl) ?_
      refine lv_iload hx hb dL_law_1456 (lv_at hl 5 rfl) ?_
      refine lv_iconst (v := 1) hx hb dL_law_1458 (by decide) ?_
      refine lv_iadd hx hb dL_law_1459 ?_
      refine va_sld hx hb hX hbl (Nat.not_le.mpr hbl) w.2 (i := ((nI ii) + 1)) (by rw [show nI ii + 1 = nI (ii + 1) from nI_add ii 1]; exact nI_vp (by omega) (by omega)) dL_law_1460 ?_
      refine lv_topi (fun z4 ez4 => ?_)
      refine lv_aload_n hx hb dL_law_1461 rfl (lv_at hl 1 rfl) ?_
      refine lv_iload hx hb dL_law_1462 (lv_at hl 5 rfl) ?_
      refine lv_iconst (v := 2) hx hb dL_law_1464 (by decide) ?_
      refine lv_iadd hx hb dL_law_1465 ?_
      refine va_sld hx hb hX hbl (Nat.not_le.mpr hbl) w.2 (i := ((nI ii) + 2)) (by rw [show nI ii + 2 = nI (ii + 2) from nI_add ii 2]; exact nI_vp (by omega) (by omega)) dL_law_1466 ?_
      refine lv_topi (fun z5 ez5 => ?_)
      refine lv_aload_n hx hb dL_law_1467 rfl (lv_at hl 1 rfl) ?_
      refine lv_iload hx hb dL_law_1468 (lv_at hl 5 rfl) ?_
      refine lv_iconst (v := 3) hx hb dL_law_1470 (by decide) ?_
      refine lv_iadd hx hb dL_law_1471 ?_
      refine va_sld hx hb hX hbl (Nat.not_le.mpr hbl) w.2 (i := ((nI ii) + 3)) (by rw [show nI ii + 3 = nI (ii + 3) from nI_add ii 3]; exact nI_vp (by omega) (by omega)) dL_law_1472 ?_
      refine lv_topi (fun z6 ez6 => ?_)
      obtain rfl : z3 = z6 := ez3.trans ez6.symm
      refine lv_if_eq (tgt := 1480) hx hb dL_law_1473 (by decide) (fun hbz2 => ?_) (fun hbz2 => ?_)
      · skip
        refine lv_iconst (v := 0) hx hb dL_law_1480 (by decide) ?_
        obtain rfl : z1 = z4 := ez1.trans ez4.symm
        obtain rfl : z2 = z5 := ez2.trans ez5.symm
        refine cV (S := S) (nA := 3) (As := [.int z1, .int z2, .int 0]) (rest := []) X w hl hR.v16 (k_X16_bestAt G S hR z1 z2 0) wY_X16_bestAt wM_L_231 wIn_X16_bestAt wSe_X16_X16_bestAt wI_X16 (by decide) rfl (by decide +kernel) rfl rfl dL_law_1481 ⟨Nat.le_of_ble_eq_true rfl, Nat.le_of_ble_eq_true rfl⟩ (Nat.le_of_ble_eq_true rfl) (⟨by have := hgC.2; show cLw k gC gC + 3 ≤ 601024; unfold cLw; omega, by have := hgC.2; show sLw k gC gC + 54 ≤ 7293034; unfold sLw; omega⟩) (fun v U2 H locs hp w => ?_)
        rcases hp with ⟨hkR, ⟨y9, rfl⟩, hX9, hk9, e256⟩ | ⟨hkR, -⟩
        · rw [hkC] at e256
          have hs : StpL s cn S U2 := StpL.ofR hX9 hk9
          rw [eX, eM, eO] at hl
          have hLI := hs _ _ _ _ hLI
          obtain ⟨hC, hR, hE, hO, hZs, hgC, eX, eM, eO⟩ := id hLI
          rw [← eX, ← eM, ← eO] at hl
          refine lv_istore (lv' := [(6, .int y9), (5, .int 1), (0, .ref b), (1, .ref (gG U2 10 0)), (2, .ref (gG U2 16 0)), (3, .ref (gG U2 11 0)), (4, .int (nI ii))]) hx hb dL_law_1484 hl (by decide) rfl (fun ls hl => ?_)
          refine lv_aload_n hx hb dL_law_1486 rfl (lv_at hl 4 rfl) ?_
          refine cV (S := U2) (nA := 0) (As := []) (rest := []) X w hl hR.v16 (m_X16_thr9 G U2 hR.v16) wY_X16_thrown wM_L_232 wIn_X16_thrown wSe_X16_X16_thrown wI_X16 (by decide) rfl (by decide +kernel) rfl rfl dL_law_1487 ⟨Nat.le_of_ble_eq_true rfl, Nat.le_of_ble_eq_true rfl⟩ (Nat.le_of_ble_eq_true rfl) (⟨by have := hgC.2; show cLw k gC gC + 3 ≤ 601024; unfold cLw; omega, by have := hgC.2; show sLw k gC gC + 54 ≤ 7293034; unfold sLw; omega⟩) (fun v U3 H locs hp w => ?_)
          obtain ⟨rfl, rfl⟩ := hp
          refine lv_topi (fun z8 ez8 => ?_)
          obtain rfl : z8 = 1 := ez8.trans (e256.trans (by decide))
          refine lv_iload hx hb dL_law_1490 (lv_at hl 1 rfl) ?_
          refine lv_icmp_eq (tgt := 1497) hx hb dL_law_1492 (by decide) (fun hc7 => ?_) (fun hc7 => ?_)
          · refine lv_iload hx hb dL_law_1497 (lv_at hl 1 rfl) ?_
            refine lv_if_ne (tgt := 1515) hx hb dL_law_1499 (by decide) (fun hc8 => ?_) (fun hc8 => ?_)
            · refine lv_goto (tgt := 1585) hx hb dL_law_1515 (by decide) ?_
              refine W.widen (k := cLw (k + 1) gC gC) (n := sLw (k + 1) gC gC) (by show cLw k gC gC + 3 ≤ _; unfold cLw; omega) (by show sLw k gC gC + 54 ≤ _; unfold sLw; omega) ?_
              rw [eX, eM, eO] at hl
              exact K _ _ _ H locs _ hLI w (lv_sub hl [2, 3, 4, 5, 6] rfl)
            · exact absurd hc8 (by decide)
          · exact absurd hc7 (by decide)
        · exact absurd (hkC.symm.trans hkR) (by decide)
      · exact absurd hbz hbz2
    · obtain ⟨hR9, eX9, eM9, eO9⟩ := hLI.mid (Int32.toInt64 (if (0 : Int32) = 0 then rS (bCk (bQ cn.2.2.2.2.2.2 cn.1 cn.2.1 cn.2.2.1 z1) z2.toNatClampNeg) else rM (bCk (bQ cn.2.2.2.2.2.2 cn.1 cn.2.1 cn.2.2.1 z1) z2.toNatClampNeg))) hB9
      rw [eX, eM, eO] at hl
      rw [← eX9, ← eM9, ← eO9] at hl
      refine lv_istore (lv' := [(5, .int 0), (0, .ref b), (1, .ref (gG (sL S9 176 (Int32.toInt64 (if (0 : Int32) = 0 then rS (bCk (bQ cn.2.2.2.2.2.2 cn.1 cn.2.1 cn.2.2.1 z1) z2.toNatClampNeg) else rM (bCk (bQ cn.2.2.2.2.2.2 cn.1 cn.2.1 cn.2.2.1 z1) z2.toNatClampNeg)))) 10 0)), (2, .ref (gG (sL S9 176 (Int32.toInt64 (if (0 : Int32) = 0 then rS (bCk (bQ cn.2.2.2.2.2.2 cn.1 cn.2.1 cn.2.2.1 z1) z2.toNatClampNeg) else rM (bCk (bQ cn.2.2.2.2.2.2 cn.1 cn.2.1 cn.2.2.1 z1) z2.toNatClampNeg)))) 16 0)), (3, .ref (gG (sL S9 176 (Int32.toInt64 (if (0 : Int32) = 0 then rS (bCk (bQ cn.2.2.2.2.2.2 cn.1 cn.2.1 cn.2.2.1 z1) z2.toNatClampNeg) else rM (bCk (bQ cn.2.2.2.2.2.2 cn.1 cn.2.1 cn.2.2.1 z1) z2.toNatClampNeg)))) 11 0)), (4, .int (nI ii))]) hx hb dL_law_1452 hl (by decide) rfl (fun ls hl => ?_)
      refine lv_aload_n hx hb dL_law_1454 rfl (lv_at hl 3 rfl) ?_
      refine lv_aload_n hx hb dL_law_1455 rfl (lv_at hl 1 rfl) ?_
      refine lv_iload hx hb dL_law_1456 (lv_at hl 5 rfl) ?_
      refine lv_iconst (v := 1) hx hb dL_law_1458 (by decide) ?_
      refine lv_iadd hx hb dL_law_1459 ?_
      refine va_sld hx hb hX hbl (Nat.not_le.mpr hbl) w.2 (i := ((nI ii) + 1)) (by rw [show nI ii + 1 = nI (ii + 1) from nI_add ii 1]; exact nI_vp (by omega) (by omega)) dL_law_1460 ?_
      refine lv_topi (fun z9 ez9 => ?_)
      refine lv_aload_n hx hb dL_law_1461 rfl (lv_at hl 1 rfl) ?_
      refine lv_iload hx hb dL_law_1462 (lv_at hl 5 rfl) ?_
      refine lv_iconst (v := 2) hx hb dL_law_1464 (by decide) ?_
      refine lv_iadd hx hb dL_law_1465 ?_
      refine va_sld hx hb hX hbl (Nat.not_le.mpr hbl) w.2 (i := ((nI ii) + 2)) (by rw [show nI ii + 2 = nI (ii + 2) from nI_add ii 2]; exact nI_vp (by omega) (by omega)) dL_law_1466 ?_
      refine lv_topi (fun z10 ez10 => ?_)
      refine lv_aload_n hx hb dL_law_1467 rfl (lv_at hl 1 rfl) ?_
      refine lv_iload hx hb dL_law_1468 (lv_at hl 5 rfl) ?_
      refine lv_iconst (v := 3) hx hb dL_law_1470 (by decide) ?_
      refine lv_iadd hx hb dL_law_1471 ?_
      refine va_sld hx hb hX hbl (Nat.not_le.mpr hbl) w.2 (i := ((nI ii) + 3)) (by rw [show nI ii + 3 = nI (ii + 3) from nI_add ii 3]; exact nI_vp (by omega) (by omega)) dL_law_1472 ?_
      refine lv_topi (fun z11 ez11 => ?_)
      obtain rfl : z3 = z11 := ez3.trans ez11.symm
      refine lv_if_eq (tgt := 1480) hx hb dL_law_1473 (by decide) (fun hbz2 => ?_) (fun hbz2 => ?_)
      · skip
        refine lv_iconst (v := 0) hx hb dL_law_1480 (by decide) ?_
        obtain rfl : z1 = z9 := ez1.trans ez9.symm
        obtain rfl : z2 = z10 := ez2.trans ez10.symm
        refine cV (S := (sL S9 176 (Int32.toInt64 (if (0 : Int32) = 0 then rS (bCk (bQ cn.2.2.2.2.2.2 cn.1 cn.2.1 cn.2.2.1 z1) z2.toNatClampNeg) else rM (bCk (bQ cn.2.2.2.2.2.2 cn.1 cn.2.1 cn.2.2.1 z1) z2.toNatClampNeg))))) (nA := 3) (As := [.int z1, .int z2, .int 0]) (rest := []) X w hl hR9.v16 (k_X16_bestAt G (sL S9 176 (Int32.toInt64 (if (0 : Int32) = 0 then rS (bCk (bQ cn.2.2.2.2.2.2 cn.1 cn.2.1 cn.2.2.1 z1) z2.toNatClampNeg) else rM (bCk (bQ cn.2.2.2.2.2.2 cn.1 cn.2.1 cn.2.2.1 z1) z2.toNatClampNeg)))) hR9 z1 z2 0) wY_X16_bestAt wM_L_231 wIn_X16_bestAt wSe_X16_X16_bestAt wI_X16 (by decide) rfl (by decide +kernel) rfl rfl dL_law_1481 ⟨Nat.le_of_ble_eq_true rfl, Nat.le_of_ble_eq_true rfl⟩ (Nat.le_of_ble_eq_true rfl) (⟨by have := hgC.2; show cLw k gC gC + 3 ≤ 601024; unfold cLw; omega, by have := hgC.2; show sLw k gC gC + 54 ≤ 7293034; unfold sLw; omega⟩) (fun v U2 H locs hp w => ?_)
        rcases hp with ⟨hkR, -⟩ | ⟨hkR, rfl, hX8, hB8, e256⟩
        · exact absurd hkC hkR
        · obtain ⟨hLI, eL9⟩ := hLI.told (gN := gC) hC9 hB9 hX8 hB8 hgC
          rw [eX9, eM9, eO9] at hl
          obtain ⟨hC, hR, hE, hO, hZs, hgC, eX, eM, eO⟩ := id hLI
          rw [← eX, ← eM, ← eO] at hl
          refine lv_istore (lv' := [(6, .int (if (0 : Int32) = 0 then rS (bCk (bQ cn.2.2.2.2.2.2 cn.1 cn.2.1 cn.2.2.1 z1) z2.toNatClampNeg) else rM (bCk (bQ cn.2.2.2.2.2.2 cn.1 cn.2.1 cn.2.2.1 z1) z2.toNatClampNeg))), (5, .int 0), (0, .ref b), (1, .ref (gG U2 10 0)), (2, .ref (gG U2 16 0)), (3, .ref (gG U2 11 0)), (4, .int (nI ii))]) hx hb dL_law_1484 hl (by decide) rfl (fun ls hl => ?_)
          refine lv_aload_n hx hb dL_law_1486 rfl (lv_at hl 4 rfl) ?_
          refine cV (S := U2) (nA := 0) (As := []) (rest := []) X w hl hR.v16 (m_X16_thr9 G U2 hR.v16) wY_X16_thrown wM_L_232 wIn_X16_thrown wSe_X16_X16_thrown wI_X16 (by decide) rfl (by decide +kernel) rfl rfl dL_law_1487 ⟨Nat.le_of_ble_eq_true rfl, Nat.le_of_ble_eq_true rfl⟩ (Nat.le_of_ble_eq_true rfl) (⟨by have := hgC.2; show cLw k gC gC + 3 ≤ 601024; unfold cLw; omega, by have := hgC.2; show sLw k gC gC + 54 ≤ 7293034; unfold sLw; omega⟩) (fun v U3 H locs hp w => ?_)
          obtain ⟨rfl, rfl⟩ := hp
          refine lv_topi (fun z8 ez8 => ?_)
          obtain rfl : z8 = 0 := ez8.trans (e256.trans (by decide))
          refine lv_iload hx hb dL_law_1490 (lv_at hl 1 rfl) ?_
          refine lv_icmp_eq (tgt := 1497) hx hb dL_law_1492 (by decide) (fun hc12 => ?_) (fun hc12 => ?_)
          · refine lv_iload hx hb dL_law_1497 (lv_at hl 1 rfl) ?_
            refine lv_if_ne (tgt := 1515) hx hb dL_law_1499 (by decide) (fun hc13 => ?_) (fun hc13 => ?_)
            · exact absurd hc13 (by decide)
            · refine lv_aload_n hx hb dL_law_1502 rfl (lv_at hl 5 rfl) ?_
              refine gN_n (S := U2) (x := Int32.toInt64 (if (0 : Int32) = 0 then rS (bCk (bQ cn.2.2.2.2.2.2 cn.1 cn.2.1 cn.2.2.1 z1) z2.toNatClampNeg) else rM (bCk (bQ cn.2.2.2.2.2.2 cn.1 cn.2.1 cn.2.2.1 z1) z2.toNatClampNeg))) X w hO.1 wFN_L_13 eL9 dL_law_1503 ?_
              refine lv_iload hx hb dL_law_1506 (lv_at hl 0 rfl) ?_
              refine lv_i2l hx hb dL_law_1508 rfl ?_
              refine W.lcmp hx hb dL_law_1509 ?_
              refine lv_topi (fun z7 ez7 => ?_)
              obtain rfl : z7 = 0 := ez7.trans (lcmp_0 _)
              refine lv_if_eq (tgt := 1515) hx hb dL_law_1510 (by decide) (fun hc14 => ?_) (fun hc14 => ?_)
              · refine lv_goto (tgt := 1585) hx hb dL_law_1515 (by decide) ?_
                refine W.widen (k := cLw (k + 1) gC gC) (n := sLw (k + 1) gC gC) (by show cLw k gC gC + 3 ≤ _; unfold cLw; omega) (by show sLw k gC gC + 54 ≤ _; unfold sLw; omega) ?_
                rw [eX, eM, eO] at hl
                exact K _ _ _ H locs _ hLI w (lv_sub hl [2, 3, 4, 5, 6] rfl)
              · exact absurd hc14 (by decide)
          · exact absurd hc12 (by decide)
      · exact absurd hbz hbz2
  · skip
    refine lv_iconst (v := 1) hx hb dL_law_1443 (by decide) ?_
    refine lv_goto (tgt := 1448) hx hb dL_law_1444 (by decide) ?_
    refine lv_aload_n hx hb dL_law_1448 rfl (lv_at hl 3 rfl) ?_
    refine cSW (S := S) (nA := 5) (As := [.ref (gG S 10 0), .int z1, .int z2, .int 1, .ref (gG S 11 0)]) (rest := []) X w hl (w_L_bestAt G S hC hO hC.v10 z1 z2 1) wYW_L_bestAt wM_L_229 wSt_L_bestAt wI_L (by decide +kernel) rfl rfl dL_law_1449 ⟨Nat.le_of_ble_eq_true rfl, Nat.le_of_ble_eq_true rfl⟩ (Nat.le_of_ble_eq_true rfl) (⟨by have := hgC.2; show cLw k gC gC + 1 ≤ 601024; unfold cLw; omega, by have := hgC.2; show sLw k gC gC + 6 ≤ 7293034; unfold sLw; omega⟩) (fun v U1 H locs hp w => ?_)
    rcases hp with ⟨hkC, rfl, rfl⟩ | ⟨hkC, rfl, S9, hC9, hB9, rfl⟩
    · refine lv_istore (lv' := [(5, .int 1), (0, .ref b), (1, .ref (gG S 10 0)), (2, .ref (gG S 16 0)), (3, .ref (gG S 11 0)), (4, .int (nI ii))]) hx hb dL_law_1452 hl (by decide) rfl (fun ls hl => ?_)
      refine lv_aload_n hx hb dL_law_1454 rfl (lv_at hl 3 rfl) ?_
      refine lv_aload_n hx hb dL_law_1455 rfl (lv_at hl 1 rfl) ?_
      refine lv_iload hx hb dL_law_1456 (lv_at hl 5 rfl) ?_
      refine lv_iconst (v := 1) hx hb dL_law_1458 (by decide) ?_
      refine lv_iadd hx hb dL_law_1459 ?_
      refine va_sld hx hb hX hbl (Nat.not_le.mpr hbl) w.2 (i := ((nI ii) + 1)) (by rw [show nI ii + 1 = nI (ii + 1) from nI_add ii 1]; exact nI_vp (by omega) (by omega)) dL_law_1460 ?_
      refine lv_topi (fun z15 ez15 => ?_)
      refine lv_aload_n hx hb dL_law_1461 rfl (lv_at hl 1 rfl) ?_
      refine lv_iload hx hb dL_law_1462 (lv_at hl 5 rfl) ?_
      refine lv_iconst (v := 2) hx hb dL_law_1464 (by decide) ?_
      refine lv_iadd hx hb dL_law_1465 ?_
      refine va_sld hx hb hX hbl (Nat.not_le.mpr hbl) w.2 (i := ((nI ii) + 2)) (by rw [show nI ii + 2 = nI (ii + 2) from nI_add ii 2]; exact nI_vp (by omega) (by omega)) dL_law_1466 ?_
      refine lv_topi (fun z16 ez16 => ?_)
      refine lv_aload_n hx hb dL_law_1467 rfl (lv_at hl 1 rfl) ?_
      refine lv_iload hx hb dL_law_1468 (lv_at hl 5 rfl) ?_
      refine lv_iconst (v := 3) hx hb dL_law_1470 (by decide) ?_
      refine lv_iadd hx hb dL_law_1471 ?_
      refine va_sld hx hb hX hbl (Nat.not_le.mpr hbl) w.2 (i := ((nI ii) + 3)) (by rw [show nI ii + 3 = nI (ii + 3) from nI_add ii 3]; exact nI_vp (by omega) (by omega)) dL_law_1472 ?_
      refine lv_topi (fun z17 ez17 => ?_)
      obtain rfl : z3 = z17 := ez3.trans ez17.symm
      refine lv_if_eq (tgt := 1480) hx hb dL_law_1473 (by decide) (fun hbz2 => ?_) (fun hbz2 => ?_)
      · exact absurd hbz2 hbz
      · skip
        refine lv_iconst (v := 1) hx hb dL_law_1476 (by decide) ?_
        refine lv_goto (tgt := 1481) hx hb dL_law_1477 (by decide) ?_
        obtain rfl : z1 = z15 := ez1.trans ez15.symm
        obtain rfl : z2 = z16 := ez2.trans ez16.symm
        refine cV (S := S) (nA := 3) (As := [.int z1, .int z2, .int 1]) (rest := []) X w hl hR.v16 (k_X16_bestAt G S hR z1 z2 1) wY_X16_bestAt wM_L_231 wIn_X16_bestAt wSe_X16_X16_bestAt wI_X16 (by decide) rfl (by decide +kernel) rfl rfl dL_law_1481 ⟨Nat.le_of_ble_eq_true rfl, Nat.le_of_ble_eq_true rfl⟩ (Nat.le_of_ble_eq_true rfl) (⟨by have := hgC.2; show cLw k gC gC + 3 ≤ 601024; unfold cLw; omega, by have := hgC.2; show sLw k gC gC + 54 ≤ 7293034; unfold sLw; omega⟩) (fun v U2 H locs hp w => ?_)
        rcases hp with ⟨hkR, ⟨y9, rfl⟩, hX9, hk9, e256⟩ | ⟨hkR, -⟩
        · rw [hkC] at e256
          have hs : StpL s cn S U2 := StpL.ofR hX9 hk9
          rw [eX, eM, eO] at hl
          have hLI := hs _ _ _ _ hLI
          obtain ⟨hC, hR, hE, hO, hZs, hgC, eX, eM, eO⟩ := id hLI
          rw [← eX, ← eM, ← eO] at hl
          refine lv_istore (lv' := [(6, .int y9), (5, .int 1), (0, .ref b), (1, .ref (gG U2 10 0)), (2, .ref (gG U2 16 0)), (3, .ref (gG U2 11 0)), (4, .int (nI ii))]) hx hb dL_law_1484 hl (by decide) rfl (fun ls hl => ?_)
          refine lv_aload_n hx hb dL_law_1486 rfl (lv_at hl 4 rfl) ?_
          refine cV (S := U2) (nA := 0) (As := []) (rest := []) X w hl hR.v16 (m_X16_thr9 G U2 hR.v16) wY_X16_thrown wM_L_232 wIn_X16_thrown wSe_X16_X16_thrown wI_X16 (by decide) rfl (by decide +kernel) rfl rfl dL_law_1487 ⟨Nat.le_of_ble_eq_true rfl, Nat.le_of_ble_eq_true rfl⟩ (Nat.le_of_ble_eq_true rfl) (⟨by have := hgC.2; show cLw k gC gC + 3 ≤ 601024; unfold cLw; omega, by have := hgC.2; show sLw k gC gC + 54 ≤ 7293034; unfold sLw; omega⟩) (fun v U3 H locs hp w => ?_)
          obtain ⟨rfl, rfl⟩ := hp
          refine lv_topi (fun z8 ez8 => ?_)
          obtain rfl : z8 = 1 := ez8.trans (e256.trans (by decide))
          refine lv_iload hx hb dL_law_1490 (lv_at hl 1 rfl) ?_
          refine lv_icmp_eq (tgt := 1497) hx hb dL_law_1492 (by decide) (fun hc18 => ?_) (fun hc18 => ?_)
          · refine lv_iload hx hb dL_law_1497 (lv_at hl 1 rfl) ?_
            refine lv_if_ne (tgt := 1515) hx hb dL_law_1499 (by decide) (fun hc19 => ?_) (fun hc19 => ?_)
            · refine lv_goto (tgt := 1585) hx hb dL_law_1515 (by decide) ?_
              refine W.widen (k := cLw (k + 1) gC gC) (n := sLw (k + 1) gC gC) (by show cLw k gC gC + 3 ≤ _; unfold cLw; omega) (by show sLw k gC gC + 54 ≤ _; unfold sLw; omega) ?_
              rw [eX, eM, eO] at hl
              exact K _ _ _ H locs _ hLI w (lv_sub hl [2, 3, 4, 5, 6] rfl)
            · exact absurd hc19 (by decide)
          · exact absurd hc18 (by decide)
        · exact absurd (hkC.symm.trans hkR) (by decide)
    · obtain ⟨hR9, eX9, eM9, eO9⟩ := hLI.mid (Int32.toInt64 (if (1 : Int32) = 0 then rS (bCk (bQ cn.2.2.2.2.2.2 cn.1 cn.2.1 cn.2.2.1 z1) z2.toNatClampNeg) else rM (bCk (bQ cn.2.2.2.2.2.2 cn.1 cn.2.1 cn.2.2.1 z1) z2.toNatClampNeg))) hB9
      rw [eX, eM, eO] at hl
      rw [← eX9, ← eM9, ← eO9] at hl
      refine lv_istore (lv' := [(5, .int 0), (0, .ref b), (1, .ref (gG (sL S9 176 (Int32.toInt64 (if (1 : Int32) = 0 then rS (bCk (bQ cn.2.2.2.2.2.2 cn.1 cn.2.1 cn.2.2.1 z1) z2.toNatClampNeg) else rM (bCk (bQ cn.2.2.2.2.2.2 cn.1 cn.2.1 cn.2.2.1 z1) z2.toNatClampNeg)))) 10 0)), (2, .ref (gG (sL S9 176 (Int32.toInt64 (if (1 : Int32) = 0 then rS (bCk (bQ cn.2.2.2.2.2.2 cn.1 cn.2.1 cn.2.2.1 z1) z2.toNatClampNeg) else rM (bCk (bQ cn.2.2.2.2.2.2 cn.1 cn.2.1 cn.2.2.1 z1) z2.toNatClampNeg)))) 16 0)), (3, .ref (gG (sL S9 176 (Int32.toInt64 (if (1 : Int32) = 0 then rS (bCk (bQ cn.2.2.2.2.2.2 cn.1 cn.2.1 cn.2.2.1 z1) z2.toNatClampNeg) else rM (bCk (bQ cn.2.2.2.2.2.2 cn.1 cn.2.1 cn.2.2.1 z1) z2.toNatClampNeg)))) 11 0)), (4, .int (nI ii))]) hx hb dL_law_1452 hl (by decide) rfl (fun ls hl => ?_)
      refine lv_aload_n hx hb dL_law_1454 rfl (lv_at hl 3 rfl) ?_
      refine lv_aload_n hx hb dL_law_1455 rfl (lv_at hl 1 rfl) ?_
      refine lv_iload hx hb dL_law_1456 (lv_at hl 5 rfl) ?_
      refine lv_iconst (v := 1) hx hb dL_law_1458 (by decide) ?_
      refine lv_iadd hx hb dL_law_1459 ?_
      refine va_sld hx hb hX hbl (Nat.not_le.mpr hbl) w.2 (i := ((nI ii) + 1)) (by rw [show nI ii + 1 = nI (ii + 1) from nI_add ii 1]; exact nI_vp (by omega) (by omega)) dL_law_1460 ?_
      refine lv_topi (fun z20 ez20 => ?_)
      refine lv_aload_n hx hb dL_law_1461 rfl (lv_at hl 1 rfl) ?_
      refine lv_iload hx hb dL_law_1462 (lv_at hl 5 rfl) ?_
      refine lv_iconst (v := 2) hx hb dL_law_1464 (by decide) ?_
      refine lv_iadd hx hb dL_law_1465 ?_
      refine va_sld hx hb hX hbl (Nat.not_le.mpr hbl) w.2 (i := ((nI ii) + 2)) (by rw [show nI ii + 2 = nI (ii + 2) from nI_add ii 2]; exact nI_vp (by omega) (by omega)) dL_law_1466 ?_
      refine lv_topi (fun z21 ez21 => ?_)
      refine lv_aload_n hx hb dL_law_1467 rfl (lv_at hl 1 rfl) ?_
      refine lv_iload hx hb dL_law_1468 (lv_at hl 5 rfl) ?_
      refine lv_iconst (v := 3) hx hb dL_law_1470 (by decide) ?_
      refine lv_iadd hx hb dL_law_1471 ?_
      refine va_sld hx hb hX hbl (Nat.not_le.mpr hbl) w.2 (i := ((nI ii) + 3)) (by rw [show nI ii + 3 = nI (ii + 3) from nI_add ii 3]; exact nI_vp (by omega) (by omega)) dL_law_1472 ?_
      refine lv_topi (fun z22 ez22 => ?_)
      obtain rfl : z3 = z22 := ez3.trans ez22.symm
      refine lv_if_eq (tgt := 1480) hx hb dL_law_1473 (by decide) (fun hbz2 => ?_) (fun hbz2 => ?_)
      · exact absurd hbz2 hbz
      · skip
        refine lv_iconst (v := 1) hx hb dL_law_1476 (by decide) ?_
        refine lv_goto (tgt := 1481) hx hb dL_law_1477 (by decide) ?_
        obtain rfl : z1 = z20 := ez1.trans ez20.symm
        obtain rfl : z2 = z21 := ez2.trans ez21.symm
        refine cV (S := (sL S9 176 (Int32.toInt64 (if (1 : Int32) = 0 then rS (bCk (bQ cn.2.2.2.2.2.2 cn.1 cn.2.1 cn.2.2.1 z1) z2.toNatClampNeg) else rM (bCk (bQ cn.2.2.2.2.2.2 cn.1 cn.2.1 cn.2.2.1 z1) z2.toNatClampNeg))))) (nA := 3) (As := [.int z1, .int z2, .int 1]) (rest := []) X w hl hR9.v16 (k_X16_bestAt G (sL S9 176 (Int32.toInt64 (if (1 : Int32) = 0 then rS (bCk (bQ cn.2.2.2.2.2.2 cn.1 cn.2.1 cn.2.2.1 z1) z2.toNatClampNeg) else rM (bCk (bQ cn.2.2.2.2.2.2 cn.1 cn.2.1 cn.2.2.1 z1) z2.toNatClampNeg)))) hR9 z1 z2 1) wY_X16_bestAt wM_L_231 wIn_X16_bestAt wSe_X16_X16_bestAt wI_X16 (by decide) rfl (by decide +kernel) rfl rfl dL_law_1481 ⟨Nat.le_of_ble_eq_true rfl, Nat.le_of_ble_eq_true rfl⟩ (Nat.le_of_ble_eq_true rfl) (⟨by have := hgC.2; show cLw k gC gC + 3 ≤ 601024; unfold cLw; omega, by have := hgC.2; show sLw k gC gC + 54 ≤ 7293034; unfold sLw; omega⟩) (fun v U2 H locs hp w => ?_)
        rcases hp with ⟨hkR, -⟩ | ⟨hkR, rfl, hX8, hB8, e256⟩
        · exact absurd hkC hkR
        · obtain ⟨hLI, eL9⟩ := hLI.told (gN := gC) hC9 hB9 hX8 hB8 hgC
          rw [eX9, eM9, eO9] at hl
          obtain ⟨hC, hR, hE, hO, hZs, hgC, eX, eM, eO⟩ := id hLI
          rw [← eX, ← eM, ← eO] at hl
          refine lv_istore (lv' := [(6, .int (if (1 : Int32) = 0 then rS (bCk (bQ cn.2.2.2.2.2.2 cn.1 cn.2.1 cn.2.2.1 z1) z2.toNatClampNeg) else rM (bCk (bQ cn.2.2.2.2.2.2 cn.1 cn.2.1 cn.2.2.1 z1) z2.toNatClampNeg))), (5, .int 0), (0, .ref b), (1, .ref (gG U2 10 0)), (2, .ref (gG U2 16 0)), (3, .ref (gG U2 11 0)), (4, .int (nI ii))]) hx hb dL_law_1484 hl (by decide) rfl (fun ls hl => ?_)
          refine lv_aload_n hx hb dL_law_1486 rfl (lv_at hl 4 rfl) ?_
          refine cV (S := U2) (nA := 0) (As := []) (rest := []) X w hl hR.v16 (m_X16_thr9 G U2 hR.v16) wY_X16_thrown wM_L_232 wIn_X16_thrown wSe_X16_X16_thrown wI_X16 (by decide) rfl (by decide +kernel) rfl rfl dL_law_1487 ⟨Nat.le_of_ble_eq_true rfl, Nat.le_of_ble_eq_true rfl⟩ (Nat.le_of_ble_eq_true rfl) (⟨by have := hgC.2; show cLw k gC gC + 3 ≤ 601024; unfold cLw; omega, by have := hgC.2; show sLw k gC gC + 54 ≤ 7293034; unfold sLw; omega⟩) (fun v U3 H locs hp w => ?_)
          obtain ⟨rfl, rfl⟩ := hp
          refine lv_topi (fun z8 ez8 => ?_)
          obtain rfl : z8 = 0 := ez8.trans (e256.trans (by decide))
          refine lv_iload hx hb dL_law_1490 (lv_at hl 1 rfl) ?_
          refine lv_icmp_eq (tgt := 1497) hx hb dL_law_1492 (by decide) (fun hc23 => ?_) (fun hc23 => ?_)
          · refine lv_iload hx hb dL_law_1497 (lv_at hl 1 rfl) ?_
            refine lv_if_ne (tgt := 1515) hx hb dL_law_1499 (by decide) (fun hc24 => ?_) (fun hc24 => ?_)
            · exact absurd hc24 (by decide)
            · refine lv_aload_n hx hb dL_law_1502 rfl (lv_at hl 5 rfl) ?_
              refine gN_n (S := U2) (x := Int32.toInt64 (if (1 : Int32) = 0 then rS (bCk (bQ cn.2.2.2.2.2.2 cn.1 cn.2.1 cn.2.2.1 z1) z2.toNatClampNeg) else rM (bCk (bQ cn.2.2.2.2.2.2 cn.1 cn.2.1 cn.2.2.1 z1) z2.toNatClampNeg))) X w hO.1 wFN_L_13 eL9 dL_law_1503 ?_
              refine lv_iload hx hb dL_law_1506 (lv_at hl 0 rfl) ?_
              refine lv_i2l hx hb dL_law_1508 rfl ?_
              refine W.lcmp hx hb dL_law_1509 ?_
              refine lv_topi (fun z7 ez7 => ?_)
              obtain rfl : z7 = 0 := ez7.trans (lcmp_0 _)
              refine lv_if_eq (tgt := 1515) hx hb dL_law_1510 (by decide) (fun hc25 => ?_) (fun hc25 => ?_)
              · refine lv_goto (tgt := 1585) hx hb dL_law_1515 (by decide) ?_
                refine W.widen (k := cLw (k + 1) gC gC) (n := sLw (k + 1) gC gC) (by show cLw k gC gC + 3 ≤ _; unfold cLw; omega) (by show sLw k gC gC + 54 ≤ _; unfold sLw; omega) ?_
                rw [eX, eM, eO] at hl
                exact K _ _ _ H locs _ hLI w (lv_sub hl [2, 3, 4, 5, 6] rfl)
              · exact absurd hc25 (by decide)
          · exact absurd hc23 (by decide)

theorem dL_law_1518 : decode cL_law 1518 = .ok (.aload_n 1, 1) := by decide +kernel
theorem dL_law_1519 : decode cL_law 1519 = .ok (.aload_n 0, 1) := by decide +kernel
theorem dL_law_1520 : decode cL_law 1520 = .ok (.iload 4, 2) := by decide +kernel
theorem dL_law_1522 : decode cL_law 1522 = .ok (.iconst 1, 1) := by decide +kernel
theorem dL_law_1523 : decode cL_law 1523 = .ok (.iadd, 1) := by decide +kernel
theorem dL_law_1524 : decode cL_law 1524 = .ok (.iaload, 1) := by decide +kernel
theorem dL_law_1525 : decode cL_law 1525 = .ok (.aload_n 3, 1) := by decide +kernel
theorem dL_law_1526 : decode cL_law 1526 = .ok (.invokestatic 235, 3) := by decide +kernel
theorem dL_law_1529 : decode cL_law 1529 = .ok (.istore 5, 2) := by decide +kernel
theorem dL_law_1531 : decode cL_law 1531 = .ok (.aload_n 2, 1) := by decide +kernel
theorem dL_law_1532 : decode cL_law 1532 = .ok (.aload_n 0, 1) := by decide +kernel
theorem dL_law_1533 : decode cL_law 1533 = .ok (.iload 4, 2) := by decide +kernel
theorem dL_law_1535 : decode cL_law 1535 = .ok (.iconst 1, 1) := by decide +kernel
theorem dL_law_1536 : decode cL_law 1536 = .ok (.iadd, 1) := by decide +kernel
theorem dL_law_1537 : decode cL_law 1537 = .ok (.iaload, 1) := by decide +kernel
theorem dL_law_1538 : decode cL_law 1538 = .ok (.invokevirtual 237, 3) := by decide +kernel
theorem dL_law_1541 : decode cL_law 1541 = .ok (.istore 6, 2) := by decide +kernel
theorem dL_law_1543 : decode cL_law 1543 = .ok (.goto 42, 3) := by decide +kernel
set_option maxHeartbeats 4000000 in
set_option maxRecDepth 100000 in
theorem lo_30 {s : State} {l : Launch} {D : va_G} {cy : Nat → ClassId} (G : Gl s l D cy) {p : Program} {e : Env} {m : MethodId} {below : List Frame} {meth : Method} {c : Code} {ret9 : Option FieldType} {b L : Nat} {xs : Nat → Int32} (X : Cx s l D cy p s m #[Value.ref b] meth c cL_law 8 "CavershamShiftLaw" ret9) (hX : va_X b L xs s s.heap) (hbl : b < s.heap.size) {S : HS} {H : Heap} {locs : List Loc} {ls : Array Slot} {ii k gC : Nat} {cn : Cn} {ax am ao : Nat} {Q : State → Prop} (w : Wd s D cy S s.heap H locs) (hl : lv_has ls 8 [(0, .ref b), (1, .ref ax), (2, .ref am), (3, .ref ao), (4, .int (nI ii))]) (hLI : LI s S gC cn ax am ao) (hi : ii + 7 ≤ L) (hL9 : L ≤ 3584) (hk : k ≤ 511) (K : ∀ (U : HS) (gC1 : Nat) (cn1 : Cn) (H : Heap) (locs : List Loc) (ls : Array Slot), LI s U gC1 cn1 ax am ao → Wd s D cy U s.heap H locs → lv_has ls 8 [(0, .ref b), (1, .ref ax), (2, .ref am), (3, .ref ao), (4, .int (nI ii))] → W p l e room_1 s m #[Value.ref b] below meth c H locs (cLw (k + 1) gC1 gC1) (sLw (k + 1) gC1 gC1) Q (F0 m 1585 ls [])) : W p l e room_1 s m #[Value.ref b] below meth c H locs (cLw k gC gC) (sLw k gC gC) Q (F0 m 1518 ls []) := by
  have hx := X.1
  have hb := X.2.1
  have hown := X.2.2.2.1
  have hts := X.2.2.2.2.1
  obtain ⟨hC, hR, hE, hO, hZs, hgC, eX, eM, eO⟩ := id hLI
  rw [← eX, ← eM, ← eO] at hl
  refine lv_aload_n hx hb dL_law_1518 rfl (lv_at hl 1 rfl) ?_
  refine lv_aload_n hx hb dL_law_1519 rfl (lv_at hl 0 rfl) ?_
  refine lv_iload hx hb dL_law_1520 (lv_at hl 4 rfl) ?_
  refine lv_iconst (v := 1) hx hb dL_law_1522 (by decide) ?_
  refine lv_iadd hx hb dL_law_1523 ?_
  refine va_sld hx hb hX hbl (Nat.not_le.mpr hbl) w.2 (i := ((nI ii) + 1)) (by rw [show nI ii + 1 = nI (ii + 1) from nI_add ii 1]; exact nI_vp (by omega) (by omega)) dL_law_1524 ?_
  refine lv_topi (fun z1 ez1 => ?_)
  refine lv_aload_n hx hb dL_law_1525 rfl (lv_at hl 3 rfl) ?_
  refine cSW (S := S) (nA := 3) (As := [.ref (gG S 10 0), .int z1, .ref (gG S 11 0)]) (rest := []) X w hl ((w_L_wouldHear G S hC hO hC.v10 z1).post (post' := PW s S cn) (fun v S9 h9 => by rcases h9 with ⟨-, rfl, rfl⟩ | ⟨-, rfl, rfl⟩ | ⟨-, rfl, S8, hC8, hB8, rfl⟩ <;> first | exact ⟨⟨_, rfl⟩, StpL.rf⟩ | exact ⟨⟨_, rfl⟩, StpL.ofCB hC8 hB8 (Or.inr (Or.inl ⟨_, rfl⟩))⟩)) wYW_L_wouldHear wM_L_235 wSt_L_wouldHear wI_L (by decide +kernel) rfl rfl dL_law_1526 ⟨Nat.le_of_ble_eq_true rfl, Nat.le_of_ble_eq_true rfl⟩ (Nat.le_of_ble_eq_true rfl) (⟨by have := hgC.2; show cLw k gC gC + 1 ≤ 601024; unfold cLw; omega, by have := hgC.2; show sLw k gC gC + 6 ≤ 7293034; unfold sLw; omega⟩) (fun v U2 H locs hp w => ?_)
  obtain ⟨⟨k9U2, rfl⟩, hs⟩ := hp
  rw [eX, eM, eO] at hl
  have hLI := hs _ _ _ _ hLI
  obtain ⟨hC, hR, hE, hO, hZs, hgC, eX, eM, eO⟩ := id hLI
  rw [← eX, ← eM, ← eO] at hl
  refine lv_istore (lv' := [(5, .int k9U2), (0, .ref b), (1, .ref (gG U2 10 0)), (2, .ref (gG U2 16 0)), (3, .ref (gG U2 11 0)), (4, .int (nI ii))]) hx hb dL_law_1529 hl (by decide) rfl (fun ls hl => ?_)
  refine lv_aload_n hx hb dL_law_1531 rfl (lv_at hl 3 rfl) ?_
  refine lv_aload_n hx hb dL_law_1532 rfl (lv_at hl 1 rfl) ?_
  refine lv_iload hx hb dL_law_1533 (lv_at hl 5 rfl) ?_
  refine lv_iconst (v := 1) hx hb dL_law_1535 (by decide) ?_
  refine lv_iadd hx hb dL_law_1536 ?_
  refine va_sld hx hb hX hbl (Nat.not_le.mpr hbl) w.2 (i := ((nI ii) + 1)) (by rw [show nI ii + 1 = nI (ii + 1) from nI_add ii 1]; exact nI_vp (by omega) (by omega)) dL_law_1537 ?_
  refine lv_topi (fun z3 ez3 => ?_)
  refine cV (S := U2) (nA := 1) (As := [.int z3]) (rest := []) X w hl hR.v16 ((k_X16_wouldHear G U2 hR z3).post (fun v S9 h9 => PF.stp h9)) wY_X16_wouldHear wM_L_237 wIn_X16_wouldHear wSe_X16_X16_wouldHear wI_X16 (by decide) rfl (by decide +kernel) rfl rfl dL_law_1538 ⟨Nat.le_of_ble_eq_true rfl, Nat.le_of_ble_eq_true rfl⟩ (Nat.le_of_ble_eq_true rfl) (⟨by have := hgC.2; show cLw k gC gC + 1 ≤ 601024; unfold cLw; omega, by have := hgC.2; show sLw k gC gC + 6 ≤ 7293034; unfold sLw; omega⟩) (fun v U4 H locs hp w => ?_)
  obtain ⟨⟨x9U4, rfl⟩, hs⟩ := hp
  rw [eX, eM, eO] at hl
  have hLI := hs _ _ _ _ hLI
  obtain ⟨hC, hR, hE, hO, hZs, hgC, eX, eM, eO⟩ := id hLI
  rw [← eX, ← eM, ← eO] at hl
  refine lv_istore (lv' := [(6, .int x9U4), (5, .int k9U2), (0, .ref b), (1, .ref (gG U4 10 0)), (2, .ref (gG U4 16 0)), (3, .ref (gG U4 11 0)), (4, .int (nI ii))]) hx hb dL_law_1541 hl (by decide) rfl (fun ls hl => ?_)
  refine lv_goto (tgt := 1585) hx hb dL_law_1543 (by decide) ?_
  refine W.widen (k := cLw (k + 1) gC gC) (n := sLw (k + 1) gC gC) (by show cLw k gC gC + 1 ≤ _; unfold cLw; omega) (by show sLw k gC gC + 6 ≤ _; unfold sLw; omega) ?_
  rw [eX, eM, eO] at hl
  exact K _ _ _ H locs _ hLI w (lv_sub hl [2, 3, 4, 5, 6] rfl)

theorem dL_law_1546 : decode cL_law 1546 = .ok (.aload_n 1, 1) := by decide +kernel
theorem dL_law_1547 : decode cL_law 1547 = .ok (.invokevirtual 238, 3) := by decide +kernel
theorem dL_law_1550 : decode cL_law 1550 = .ok (.pop, 1) := by decide +kernel
theorem dL_law_1551 : decode cL_law 1551 = .ok (.aload_n 2, 1) := by decide +kernel
theorem dL_law_1552 : decode cL_law 1552 = .ok (.invokevirtual 241, 3) := by decide +kernel
theorem dL_law_1555 : decode cL_law 1555 = .ok (.pop, 1) := by decide +kernel
theorem dL_law_1556 : decode cL_law 1556 = .ok (.goto 29, 3) := by decide +kernel
set_option maxHeartbeats 4000000 in
set_option maxRecDepth 100000 in
theorem lo_31 {s : State} {l : Launch} {D : va_G} {cy : Nat → ClassId} (G : Gl s l D cy) {p : Program} {e : Env} {m : MethodId} {below : List Frame} {meth : Method} {c : Code} {ret9 : Option FieldType} {b L : Nat} {xs : Nat → Int32} (X : Cx s l D cy p s m #[Value.ref b] meth c cL_law 8 "CavershamShiftLaw" ret9) (hX : va_X b L xs s s.heap) (hbl : b < s.heap.size) {S : HS} {H : Heap} {locs : List Loc} {ls : Array Slot} {ii k gC : Nat} {cn : Cn} {ax am ao : Nat} {Q : State → Prop} (w : Wd s D cy S s.heap H locs) (hl : lv_has ls 8 [(0, .ref b), (1, .ref ax), (2, .ref am), (3, .ref ao), (4, .int (nI ii))]) (hLI : LI s S gC cn ax am ao) (hi : ii + 7 ≤ L) (hL9 : L ≤ 3584) (hk : k ≤ 511) (K : ∀ (U : HS) (gC1 : Nat) (cn1 : Cn) (H : Heap) (locs : List Loc) (ls : Array Slot), LI s U gC1 cn1 ax am ao → Wd s D cy U s.heap H locs → lv_has ls 8 [(0, .ref b), (1, .ref ax), (2, .ref am), (3, .ref ao), (4, .int (nI ii))] → W p l e room_1 s m #[Value.ref b] below meth c H locs (cLw (k + 1) gC1 gC1) (sLw (k + 1) gC1 gC1) Q (F0 m 1585 ls [])) : W p l e room_1 s m #[Value.ref b] below meth c H locs (cLw k gC gC) (sLw k gC gC) Q (F0 m 1546 ls []) := by
  have hx := X.1
  have hb := X.2.1
  have hown := X.2.2.2.1
  have hts := X.2.2.2.2.1
  obtain ⟨hC, hR, hE, hO, hZs, hgC, eX, eM, eO⟩ := id hLI
  rw [← eX, ← eM, ← eO] at hl
  refine lv_aload_n hx hb dL_law_1546 rfl (lv_at hl 1 rfl) ?_
  refine cV (S := S) (nA := 0) (As := []) (rest := []) X w hl hC.v10 (k_X10_wouldSend G S hC ) wY_X10_wouldSend wM_L_238 wIn_X10_wouldSend wSe_X10_X10_wouldSend wI_X10 (by decide) rfl (by decide +kernel) rfl rfl dL_law_1547 ⟨Nat.le_of_ble_eq_true rfl, Nat.le_of_ble_eq_true rfl⟩ (Nat.le_of_ble_eq_true rfl) (⟨by have := hgC.2; show cLw k gC gC + 0 ≤ 601024; unfold cLw; omega, by have := hgC.2; show sLw k gC gC + 0 ≤ 7293034; unfold sLw; omega⟩) (fun v U1 H locs hp w => ?_)
  obtain ⟨⟨x9U1, rfl⟩, h1, hk1⟩ := hp
  have hs : StpL s cn S U1 := StpL.ofC h1 hk1 (Or.inl rfl)
  rw [eX, eM, eO] at hl
  have hLI := hs _ _ _ _ hLI
  obtain ⟨hC, hR, hE, hO, hZs, hgC, eX, eM, eO⟩ := id hLI
  rw [← eX, ← eM, ← eO] at hl
  refine lv_pop hx hb dL_law_1550 rfl ?_
  refine lv_aload_n hx hb dL_law_1551 rfl (lv_at hl 2 rfl) ?_
  refine cV (S := U1) (nA := 0) (As := []) (rest := []) X w hl hR.v16 (k_X16_wouldSend G U1 hR ) wY_X16_wouldSend wM_L_241 wIn_X16_wouldSend wSe_X16_X16_wouldSend wI_X16 (by decide) rfl (by decide +kernel) rfl rfl dL_law_1552 ⟨Nat.le_of_ble_eq_true rfl, Nat.le_of_ble_eq_true rfl⟩ (Nat.le_of_ble_eq_true rfl) (⟨by have := hgC.2; show cLw k gC gC + 1 ≤ 601024; unfold cLw; omega, by have := hgC.2; show sLw k gC gC + 40 ≤ 7293034; unfold sLw; omega⟩) (fun v U2 H locs hp w => ?_)
  obtain ⟨⟨x9U2, rfl⟩, h1, hk1⟩ := hp
  have hs : StpL s cn U1 U2 := StpL.ofR h1 hk1
  rw [eX, eM, eO] at hl
  have hLI := hs _ _ _ _ hLI
  obtain ⟨hC, hR, hE, hO, hZs, hgC, eX, eM, eO⟩ := id hLI
  rw [← eX, ← eM, ← eO] at hl
  refine lv_pop hx hb dL_law_1555 rfl ?_
  refine lv_goto (tgt := 1585) hx hb dL_law_1556 (by decide) ?_
  refine W.widen (k := cLw (k + 1) gC gC) (n := sLw (k + 1) gC gC) (by show cLw k gC gC + 1 ≤ _; unfold cLw; omega) (by show sLw k gC gC + 40 ≤ _; unfold sLw; omega) ?_
  rw [eX, eM, eO] at hl
  exact K _ _ _ H locs _ hLI w (lv_sub hl [0, 1, 2, 3, 4] rfl)

theorem dL_law_1559 : decode cL_law 1559 = .ok (.aload_n 1, 1) := by decide +kernel
theorem dL_law_1560 : decode cL_law 1560 = .ok (.invokevirtual 242, 3) := by decide +kernel
theorem dL_law_1563 : decode cL_law 1563 = .ok (.pop, 1) := by decide +kernel
theorem dL_law_1564 : decode cL_law 1564 = .ok (.aload_n 2, 1) := by decide +kernel
theorem dL_law_1565 : decode cL_law 1565 = .ok (.invokevirtual 246, 3) := by decide +kernel
theorem dL_law_1568 : decode cL_law 1568 = .ok (.pop, 1) := by decide +kernel
theorem dL_law_1569 : decode cL_law 1569 = .ok (.goto 16, 3) := by decide +kernel
set_option maxHeartbeats 4000000 in
set_option maxRecDepth 100000 in
theorem lo_32 {s : State} {l : Launch} {D : va_G} {cy : Nat → ClassId} (G : Gl s l D cy) {p : Program} {e : Env} {m : MethodId} {below : List Frame} {meth : Method} {c : Code} {ret9 : Option FieldType} {b L : Nat} {xs : Nat → Int32} (X : Cx s l D cy p s m #[Value.ref b] meth c cL_law 8 "CavershamShiftLaw" ret9) (hX : va_X b L xs s s.heap) (hbl : b < s.heap.size) {S : HS} {H : Heap} {locs : List Loc} {ls : Array Slot} {ii k gC : Nat} {cn : Cn} {ax am ao : Nat} {Q : State → Prop} (w : Wd s D cy S s.heap H locs) (hl : lv_has ls 8 [(0, .ref b), (1, .ref ax), (2, .ref am), (3, .ref ao), (4, .int (nI ii))]) (hLI : LI s S gC cn ax am ao) (hi : ii + 7 ≤ L) (hL9 : L ≤ 3584) (hk : k ≤ 511) (K : ∀ (U : HS) (gC1 : Nat) (cn1 : Cn) (H : Heap) (locs : List Loc) (ls : Array Slot), LI s U gC1 cn1 ax am ao → Wd s D cy U s.heap H locs → lv_has ls 8 [(0, .ref b), (1, .ref ax), (2, .ref am), (3, .ref ao), (4, .int (nI ii))] → W p l e room_1 s m #[Value.ref b] below meth c H locs (cLw (k + 1) gC1 gC1) (sLw (k + 1) gC1 gC1) Q (F0 m 1585 ls [])) : W p l e room_1 s m #[Value.ref b] below meth c H locs (cLw k gC gC) (sLw k gC gC) Q (F0 m 1559 ls []) := by
  have hx := X.1
  have hb := X.2.1
  have hown := X.2.2.2.1
  have hts := X.2.2.2.2.1
  obtain ⟨hC, hR, hE, hO, hZs, hgC, eX, eM, eO⟩ := id hLI
  rw [← eX, ← eM, ← eO] at hl
  refine lv_aload_n hx hb dL_law_1559 rfl (lv_at hl 1 rfl) ?_
  refine cV (S := S) (nA := 0) (As := []) (rest := []) X w hl hC.v10 (k_X10_isSound G S hC ) wY_X10_isSound wM_L_242 wIn_X10_isSound wSe_X10_X10_isSound wI_X10 (by decide) rfl (by decide +kernel) rfl rfl dL_law_1560 ⟨Nat.le_of_ble_eq_true rfl, Nat.le_of_ble_eq_true rfl⟩ (Nat.le_of_ble_eq_true rfl) (⟨by have := hgC.2; show cLw k gC gC + 0 ≤ 601024; unfold cLw; omega, by have := hgC.2; show sLw k gC gC + 0 ≤ 7293034; unfold sLw; omega⟩) (fun v U1 H locs hp w => ?_)
  obtain ⟨⟨x9U1, rfl⟩, h1, hk1⟩ := hp
  have hs : StpL s cn S U1 := StpL.ofC h1 hk1 (Or.inl rfl)
  rw [eX, eM, eO] at hl
  have hLI := hs _ _ _ _ hLI
  obtain ⟨hC, hR, hE, hO, hZs, hgC, eX, eM, eO⟩ := id hLI
  rw [← eX, ← eM, ← eO] at hl
  refine lv_pop hx hb dL_law_1563 rfl ?_
  refine lv_aload_n hx hb dL_law_1564 rfl (lv_at hl 2 rfl) ?_
  refine cV (S := U1) (nA := 0) (As := []) (rest := []) X w hl hR.v16 (k_X16_isSound G U1 hR ) wY_X16_isSound wM_L_246 wIn_X16_isSound wSe_X16_X16_isSound wI_X16 (by decide) rfl (by decide +kernel) rfl rfl dL_law_1565 ⟨Nat.le_of_ble_eq_true rfl, Nat.le_of_ble_eq_true rfl⟩ (Nat.le_of_ble_eq_true rfl) (⟨by have := hgC.2; show cLw k gC gC + 12 ≤ 601024; unfold cLw; omega, by have := hgC.2; show sLw k gC gC + 144 ≤ 7293034; unfold sLw; omega⟩) (fun v U2 H locs hp w => ?_)
  obtain ⟨⟨x9U2, rfl⟩, h1, hk1⟩ := hp
  have hs : StpL s cn U1 U2 := StpL.ofR h1 hk1
  rw [eX, eM, eO] at hl
  have hLI := hs _ _ _ _ hLI
  obtain ⟨hC, hR, hE, hO, hZs, hgC, eX, eM, eO⟩ := id hLI
  rw [← eX, ← eM, ← eO] at hl
  refine lv_pop hx hb dL_law_1568 rfl ?_
  refine lv_goto (tgt := 1585) hx hb dL_law_1569 (by decide) ?_
  refine W.widen (k := cLw (k + 1) gC gC) (n := sLw (k + 1) gC gC) (by show cLw k gC gC + 12 ≤ _; unfold cLw; omega) (by show sLw k gC gC + 144 ≤ _; unfold sLw; omega) ?_
  rw [eX, eM, eO] at hl
  exact K _ _ _ H locs _ hLI w (lv_sub hl [0, 1, 2, 3, 4] rfl)

theorem dL_law_1572 : decode cL_law 1572 = .ok (.aload_n 1, 1) := by decide +kernel
theorem dL_law_1573 : decode cL_law 1573 = .ok (.invokevirtual 247, 3) := by decide +kernel
theorem dL_law_1576 : decode cL_law 1576 = .ok (.pop2, 1) := by decide +kernel
theorem dL_law_1577 : decode cL_law 1577 = .ok (.aload_n 2, 1) := by decide +kernel
theorem dL_law_1578 : decode cL_law 1578 = .ok (.invokevirtual 251, 3) := by decide +kernel
theorem dL_law_1581 : decode cL_law 1581 = .ok (.pop2, 1) := by decide +kernel
theorem dL_law_1582 : decode cL_law 1582 = .ok (.goto 3, 3) := by decide +kernel
set_option maxHeartbeats 4000000 in
set_option maxRecDepth 100000 in
theorem lo_33 {s : State} {l : Launch} {D : va_G} {cy : Nat → ClassId} (G : Gl s l D cy) {p : Program} {e : Env} {m : MethodId} {below : List Frame} {meth : Method} {c : Code} {ret9 : Option FieldType} {b L : Nat} {xs : Nat → Int32} (X : Cx s l D cy p s m #[Value.ref b] meth c cL_law 8 "CavershamShiftLaw" ret9) (hX : va_X b L xs s s.heap) (hbl : b < s.heap.size) {S : HS} {H : Heap} {locs : List Loc} {ls : Array Slot} {ii k gC : Nat} {cn : Cn} {ax am ao : Nat} {Q : State → Prop} (w : Wd s D cy S s.heap H locs) (hl : lv_has ls 8 [(0, .ref b), (1, .ref ax), (2, .ref am), (3, .ref ao), (4, .int (nI ii))]) (hLI : LI s S gC cn ax am ao) (hi : ii + 7 ≤ L) (hL9 : L ≤ 3584) (hk : k ≤ 511) (K : ∀ (U : HS) (gC1 : Nat) (cn1 : Cn) (H : Heap) (locs : List Loc) (ls : Array Slot), LI s U gC1 cn1 ax am ao → Wd s D cy U s.heap H locs → lv_has ls 8 [(0, .ref b), (1, .ref ax), (2, .ref am), (3, .ref ao), (4, .int (nI ii))] → W p l e room_1 s m #[Value.ref b] below meth c H locs (cLw (k + 1) gC1 gC1) (sLw (k + 1) gC1 gC1) Q (F0 m 1585 ls [])) : W p l e room_1 s m #[Value.ref b] below meth c H locs (cLw k gC gC) (sLw k gC gC) Q (F0 m 1572 ls []) := by
  have hx := X.1
  have hb := X.2.1
  have hown := X.2.2.2.1
  have hts := X.2.2.2.2.1
  obtain ⟨hC, hR, hE, hO, hZs, hgC, eX, eM, eO⟩ := id hLI
  rw [← eX, ← eM, ← eO] at hl
  refine lv_aload_n hx hb dL_law_1572 rfl (lv_at hl 1 rfl) ?_
  refine cV (S := S) (nA := 0) (As := []) (rest := []) X w hl hC.v10 (k_X10_digest G S hC ) wY_X10_digest wM_L_247 wIn_X10_digest wSe_X10_X10_digest wI_X10 (by decide) rfl (by decide +kernel) rfl rfl dL_law_1573 ⟨Nat.le_of_ble_eq_true rfl, Nat.le_of_ble_eq_true rfl⟩ (Nat.le_of_ble_eq_true rfl) (⟨by have := hgC.2; show cLw k gC gC + 0 ≤ 601024; unfold cLw; omega, by have := hgC.2; show sLw k gC gC + 0 ≤ 7293034; unfold sLw; omega⟩) (fun v U1 H locs hp w => ?_)
  obtain ⟨⟨x9U1, rfl⟩, h1, hk1⟩ := hp
  have hs : StpL s cn S U1 := StpL.ofC h1 hk1 (Or.inl rfl)
  rw [eX, eM, eO] at hl
  have hLI := hs _ _ _ _ hLI
  obtain ⟨hC, hR, hE, hO, hZs, hgC, eX, eM, eO⟩ := id hLI
  rw [← eX, ← eM, ← eO] at hl
  refine lv_pop2_2 hx hb dL_law_1576 rfl ?_
  refine lv_aload_n hx hb dL_law_1577 rfl (lv_at hl 2 rfl) ?_
  refine cV (S := U1) (nA := 0) (As := []) (rest := []) X w hl hR.v16 (k_X16_digest G U1 hR ) wY_X16_digest wM_L_251 wIn_X16_digest wSe_X16_X16_digest wI_X16 (by decide) rfl (by decide +kernel) rfl rfl dL_law_1578 ⟨Nat.le_of_ble_eq_true rfl, Nat.le_of_ble_eq_true rfl⟩ (Nat.le_of_ble_eq_true rfl) (⟨by have := hgC.2; show cLw k gC gC + 945 ≤ 601024; unfold cLw; omega, by have := hgC.2; show sLw k gC gC + 9756 ≤ 7293034; unfold sLw; omega⟩) (fun v U2 H locs hp w => ?_)
  obtain ⟨⟨x9U2, rfl⟩, h1, hk1⟩ := hp
  have hs : StpL s cn U1 U2 := StpL.ofR h1 hk1
  rw [eX, eM, eO] at hl
  have hLI := hs _ _ _ _ hLI
  obtain ⟨hC, hR, hE, hO, hZs, hgC, eX, eM, eO⟩ := id hLI
  rw [← eX, ← eM, ← eO] at hl
  refine lv_pop2_2 hx hb dL_law_1581 rfl ?_
  refine lv_goto (tgt := 1585) hx hb dL_law_1582 (by decide) ?_
  refine W.widen (k := cLw (k + 1) gC gC) (n := sLw (k + 1) gC gC) (by show cLw k gC gC + 945 ≤ _; unfold cLw; omega) (by show sLw k gC gC + 9756 ≤ _; unfold sLw; omega) ?_
  rw [eX, eM, eO] at hl
  exact K _ _ _ H locs _ hLI w (lv_sub hl [0, 1, 2, 3, 4] rfl)

