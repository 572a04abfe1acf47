/-! the texts of the two tellings -/
def stC (o : String) (k : Nat) (bs : List Int32) : List Cond := [.exactly (.string o k) "java/lang/String", .eq (.field (.string o k) "java/lang/String" "coder" "B") (.int 0), .arrayOf (.field (.string o k) "java/lang/String" "value" "[B") .byte, .eq (.length (.field (.string o k) "java/lang/String" "value" "[B")) (.int (Int32.ofNat bs.length))] ++ (List.range bs.length).map (fun j => .eq (.elem (.field (.string o k) "java/lang/String" "value" "[B") (.int (Int32.ofNat j))) (.int (bs.getD j 0)))
theorem CSA_of {s0 : State} {l : Launch} {D : va_G} {cy : Nat → ClassId} {o : String} {k : Nat} {bs : List Int32} (G : Gl s0 l D cy) (hc : ∀ c ∈ stC o k bs, c ∈ flatC (Jvm.Cond.and given_1 narrow_1)) (hf : ∀ b ∈ bs, fits .byte (.int b) = true) (hl : bs.length < 2 ^ 31) : CSA s0 (saOf s0 o k) bs.length := by
  obtain ⟨-, -, b, hts, hgv⟩ := G
  have hs := flat_of_before _ hgv
  have hA : ∀ a : Nat, a < s0.heap.size → ¬ A0 s0 a := fun a ha => Nat.not_le.mpr ha
  have c1 := hs _ (hc _ (List.mem_append_left _ List.mem_cons_self))
  have c2 := hs _ (hc _ (List.mem_append_left _ (List.mem_cons_of_mem _ List.mem_cons_self)))
  have c3 := hs _ (hc _ (List.mem_append_left _ (List.mem_cons_of_mem _ (List.mem_cons_of_mem _ List.mem_cons_self))))
  have c4 := hs _ (hc _ (List.mem_append_left _ (List.mem_cons_of_mem _ (List.mem_cons_of_mem _ (List.mem_cons_of_mem _ List.mem_cons_self)))))
  have c5 : ∀ j, j < bs.length → (Cond.eq (.elem (.field (.string o k) "java/lang/String" "value" "[B") (.int (Int32.ofNat j))) (.int (bs.getD j 0))).before #[Value.ref b] s0 = true := fun j hj => hs _ (hc _ (List.mem_append_right _ (List.mem_map.mpr ⟨j, List.mem_range.mpr hj, rfl⟩)))
  obtain ⟨a, c, cA, kA, q1, q2, q3, q4, q5, q6, -⟩ := Cond.exactly_spec (args := #[Value.ref b]) (first := s0) (o := none) (s := s0) (idx := []) (t := .string o k) (cls := "java/lang/String") c1
  obtain ⟨t, ht, hT⟩ := va_Tof (f := fun j => .int (bs.getD j 0)) (A := A0 s0) hl c3 (va_eqt c4) (fun j hj => va_eqt (c5 j hj)) hA
  have e : saOf s0 o k = a := by
    unfold saOf
    rw [Term.string_eval_of_vm (args := #[Value.ref b]) (U := s0) rfl, q1]
  rw [e]
  refine ⟨t, ⟨cA, q3, q5, by rw [q6]; exact q2, hA a (Array.getElem?_eq_some_iff.mp q3).1⟩, vk_OFof q1 (va_eqt c2) hA, vk_OFof q1 ht hA, fun j => bs.getD j 0, fun j => ?_, hT⟩
  show fits .byte (.int (bs.getD j 0)) = true
  rw [List.getD_eq_getElem?_getD]
  cases h : bs[j]? with
  | none => decide
  | some x => exact hf x (List.mem_of_getElem? h)

theorem cs_X10_321 {s0 : State} {l : Launch} {D : va_G} {cy : Nat → ClassId} (G : Gl s0 l D cy) : CSA s0 (saOf s0 "CavershamShift" 321) 2 := CSA_of (bs := [58, 32]) G (by decide +kernel) (by decide) (by decide)
theorem cs_X10_331 {s0 : State} {l : Launch} {D : va_G} {cy : Nat → ClassId} (G : Gl s0 l D cy) : CSA s0 (saOf s0 "CavershamShift" 331) 4 := CSA_of (bs := [32, 97, 116, 32]) G (by decide +kernel) (by decide) (by decide)
theorem cs_X10_334 {s0 : State} {l : Launch} {D : va_G} {cy : Nat → ClassId} (G : Gl s0 l D cy) : CSA s0 (saOf s0 "CavershamShift" 334) 2 := CSA_of (bs := [44, 32]) G (by decide +kernel) (by decide) (by decide)
theorem cs_X10_336 {s0 : State} {l : Launch} {D : va_G} {cy : Nat → ClassId} (G : Gl s0 l D cy) : CSA s0 (saOf s0 "CavershamShift" 336) 7 := CSA_of (bs := [116, 111, 32, 99, 111, 109, 101]) G (by decide +kernel) (by decide) (by decide)
theorem cs_X10_338 {s0 : State} {l : Launch} {D : va_G} {cy : Nat → ClassId} (G : Gl s0 l D cy) : CSA s0 (saOf s0 "CavershamShift" 338) 6 := CSA_of (bs := [109, 105, 115, 115, 101, 100]) G (by decide +kernel) (by decide) (by decide)
theorem cs_X10_533 {s0 : State} {l : Launch} {D : va_G} {cy : Nat → ClassId} (G : Gl s0 l D cy) : CSA s0 (saOf s0 "CavershamShift" 533) 5 := CSA_of (bs := [102, 108, 97, 115, 104]) G (by decide +kernel) (by decide) (by decide)
theorem cs_X10_535 {s0 : State} {l : Launch} {D : va_G} {cy : Nat → ClassId} (G : Gl s0 l D cy) : CSA s0 (saOf s0 "CavershamShift" 535) 4 := CSA_of (bs := [116, 101, 120, 116]) G (by decide +kernel) (by decide) (by decide)
theorem cs_X10_537 {s0 : State} {l : Launch} {D : va_G} {cy : Nat → ClassId} (G : Gl s0 l D cy) : CSA s0 (saOf s0 "CavershamShift" 537) 7 := CSA_of (bs := [115, 117, 109, 109, 97, 114, 121]) G (by decide +kernel) (by decide) (by decide)
theorem cs_X10_539 {s0 : State} {l : Launch} {D : va_G} {cy : Nat → ClassId} (G : Gl s0 l D cy) : CSA s0 (saOf s0 "CavershamShift" 539) 7 := CSA_of (bs := [100, 114, 111, 112, 112, 101, 100]) G (by decide +kernel) (by decide) (by decide)
theorem cs_X10_541 {s0 : State} {l : Launch} {D : va_G} {cy : Nat → ClassId} (G : Gl s0 l D cy) : CSA s0 (saOf s0 "CavershamShift" 541) 5 := CSA_of (bs := [32, 115, 101, 110, 116]) G (by decide +kernel) (by decide) (by decide)
theorem cs_X10_543 {s0 : State} {l : Launch} {D : va_G} {cy : Nat → ClassId} (G : Gl s0 l D cy) : CSA s0 (saOf s0 "CavershamShift" 543) 6 := CSA_of (bs := [32, 115, 116, 97, 108, 101]) G (by decide +kernel) (by decide) (by decide)
theorem cs_X10_545 {s0 : State} {l : Launch} {D : va_G} {cy : Nat → ClassId} (G : Gl s0 l D cy) : CSA s0 (saOf s0 "CavershamShift" 545) 6 := CSA_of (bs := [32, 103, 105, 118, 101, 110]) G (by decide +kernel) (by decide) (by decide)
theorem cs_X10_547 {s0 : State} {l : Launch} {D : va_G} {cy : Nat → ClassId} (G : Gl s0 l D cy) : CSA s0 (saOf s0 "CavershamShift" 547) 0 := CSA_of (bs := []) G (by decide +kernel) (by decide) (by decide)
theorem cs_X16_313 {s0 : State} {l : Launch} {D : va_G} {cy : Nat → ClassId} (G : Gl s0 l D cy) : CSA s0 (saOf s0 "CavershamShiftModel" 313) 0 := CSA_of (bs := []) G (by decide +kernel) (by decide) (by decide)
theorem cs_X16_317 {s0 : State} {l : Launch} {D : va_G} {cy : Nat → ClassId} (G : Gl s0 l D cy) : CSA s0 (saOf s0 "CavershamShiftModel" 317) 7 := CSA_of (bs := [100, 114, 111, 112, 112, 101, 100]) G (by decide +kernel) (by decide) (by decide)
theorem cs_X16_319 {s0 : State} {l : Launch} {D : va_G} {cy : Nat → ClassId} (G : Gl s0 l D cy) : CSA s0 (saOf s0 "CavershamShiftModel" 319) 7 := CSA_of (bs := [115, 117, 109, 109, 97, 114, 121]) G (by decide +kernel) (by decide) (by decide)
theorem cs_X16_321 {s0 : State} {l : Launch} {D : va_G} {cy : Nat → ClassId} (G : Gl s0 l D cy) : CSA s0 (saOf s0 "CavershamShiftModel" 321) 4 := CSA_of (bs := [116, 101, 120, 116]) G (by decide +kernel) (by decide) (by decide)
theorem cs_X16_323 {s0 : State} {l : Launch} {D : va_G} {cy : Nat → ClassId} (G : Gl s0 l D cy) : CSA s0 (saOf s0 "CavershamShiftModel" 323) 5 := CSA_of (bs := [102, 108, 97, 115, 104]) G (by decide +kernel) (by decide) (by decide)
theorem cs_X16_325 {s0 : State} {l : Launch} {D : va_G} {cy : Nat → ClassId} (G : Gl s0 l D cy) : CSA s0 (saOf s0 "CavershamShiftModel" 325) 6 := CSA_of (bs := [109, 105, 115, 115, 101, 100]) G (by decide +kernel) (by decide) (by decide)
theorem cs_X16_327 {s0 : State} {l : Launch} {D : va_G} {cy : Nat → ClassId} (G : Gl s0 l D cy) : CSA s0 (saOf s0 "CavershamShiftModel" 327) 7 := CSA_of (bs := [116, 111, 32, 99, 111, 109, 101]) G (by decide +kernel) (by decide) (by decide)
theorem cs_X16_336 {s0 : State} {l : Launch} {D : va_G} {cy : Nat → ClassId} (G : Gl s0 l D cy) : CSA s0 (saOf s0 "CavershamShiftModel" 336) 5 := CSA_of (bs := [32, 115, 101, 110, 116]) G (by decide +kernel) (by decide) (by decide)
theorem cs_X16_338 {s0 : State} {l : Launch} {D : va_G} {cy : Nat → ClassId} (G : Gl s0 l D cy) : CSA s0 (saOf s0 "CavershamShiftModel" 338) 6 := CSA_of (bs := [32, 115, 116, 97, 108, 101]) G (by decide +kernel) (by decide) (by decide)
theorem cs_X16_340 {s0 : State} {l : Launch} {D : va_G} {cy : Nat → ClassId} (G : Gl s0 l D cy) : CSA s0 (saOf s0 "CavershamShiftModel" 340) 6 := CSA_of (bs := [32, 103, 105, 118, 101, 110]) G (by decide +kernel) (by decide) (by decide)
theorem cs_X16_349 {s0 : State} {l : Launch} {D : va_G} {cy : Nat → ClassId} (G : Gl s0 l D cy) : CSA s0 (saOf s0 "CavershamShiftModel" 349) 2 := CSA_of (bs := [58, 32]) G (by decide +kernel) (by decide) (by decide)
theorem cs_X16_351 {s0 : State} {l : Launch} {D : va_G} {cy : Nat → ClassId} (G : Gl s0 l D cy) : CSA s0 (saOf s0 "CavershamShiftModel" 351) 4 := CSA_of (bs := [32, 97, 116, 32]) G (by decide +kernel) (by decide) (by decide)
theorem cs_X16_353 {s0 : State} {l : Launch} {D : va_G} {cy : Nat → ClassId} (G : Gl s0 l D cy) : CSA s0 (saOf s0 "CavershamShiftModel" 353) 2 := CSA_of (bs := [44, 32]) G (by decide +kernel) (by decide) (by decide)
/-! the digits -/
theorem tab100 {s0 : State} {l : Launch} {D : va_G} {cy : Nat → ClassId} (G : Gl s0 l D cy) (nm : String) (f : Nat → Int32) (hls : Cond.laysStatic "java/lang/Integer" nm "[B" ∈ lw_tbl) (h1 : Cond.arrayOf (.static "java/lang/Integer" nm "[B") .byte ∈ flatC (Jvm.Cond.and given_1 narrow_1)) (h2 : Cond.eq (.length (.static "java/lang/Integer" nm "[B")) (.int 100) ∈ flatC (Jvm.Cond.and given_1 narrow_1))
    (h3 : ∀ c ∈ (List.range 100).map (fun j => Cond.eq (.elem (.static "java/lang/Integer" nm "[B") (.int (Int32.ofNat j))) (.int (f j))), c ∈ flatC (Jvm.Cond.and given_1 narrow_1)) {s : State} (h : Bs s0 s) : ∃ t, va_Z "java/lang/Integer" nm "[B" (.ref t) (A0 s0) s s.heap ∧ va_T .byte t 100 (fun j => .int (f j)) (A0 s0) s s.heap := by
  obtain ⟨-, -, b, hts, hgv⟩ := G
  have hs := flat_of_before _ hgv
  have hA : ∀ a : Nat, a < s0.heap.size → ¬ A0 s0 a := fun a ha => Nat.not_le.mpr ha
  obtain ⟨t, ht, hT⟩ := va_Tof (N := 100) (f := fun j => .int (f j)) (A := A0 s0) (by decide) (hs _ h1) (va_eqt (hs _ h2)) (fun j hj => va_eqt (hs _ (h3 _ (List.mem_map.mpr ⟨j, List.mem_range.mpr hj, rfl⟩)))) hA
  exact ⟨t, ((va_Zof (hts _ hls) (hts _ (List.mem_filter.mp wI_J6).1) ht hA).moved h.1).kept h.same, (hT.moved h.1).kept h.same⟩
theorem X_ones {s0 s : State} {l : Launch} {D : va_G} {cy : Nat → ClassId} (G : Gl s0 l D cy) (h : Bs s0 s) : ∃ t, va_Z "java/lang/Integer" "DigitOnes" "[B" (.ref t) (A0 s0) s s.heap ∧ va_T .byte t 100 (fun j => .int (nI (48 + j % 10))) (A0 s0) s s.heap := tab100 G "DigitOnes" (fun j => nI (48 + j % 10)) wLS_J6_DigitOnes (by decide +kernel) (by decide +kernel) (by decide +kernel) h
theorem X_tens {s0 s : State} {l : Launch} {D : va_G} {cy : Nat → ClassId} (G : Gl s0 l D cy) (h : Bs s0 s) : ∃ t, va_Z "java/lang/Integer" "DigitTens" "[B" (.ref t) (A0 s0) s s.heap ∧ va_T .byte t 100 (fun j => .int (nI (48 + j / 10))) (A0 s0) s s.heap := tab100 G "DigitTens" (fun j => nI (48 + j / 10)) wLS_J6_DigitTens (by decide +kernel) (by decide +kernel) (by decide +kernel) h
/-! a builder: number i, its row (42, k), n letters of m -/
def SB (S : HS) (i k n m : Nat) : Prop := vV S 18 i ∧ vV S 42 k ∧ mR S 288 i = some (gG S 42 k) ∧ mI S 289 i = 0 ∧ mI S 291 i = nI n ∧ mN S 42 k = m ∧ n ≤ m ∧ m ≤ 200 ∧ sb_Fit (mA S 42 k) ∧ ∀ j, k < j → ¬ vV S 42 j
/-- what writing into a builder leaves alone -/
def bV (k t j : Nat) : Bool := t == 42 && Nat.ble k j
def bI (i f j : Nat) : Bool := (f == 291 || f == 289) && j == i
def bR (i f j : Nat) : Bool := f == 288 && j == i
abbrev KB (S T : HS) (i k : Nat) : Prop := Kq (bV k) (bI i) (bR i) S T
section SBS
variable {s0 : State} {S T U : HS} {i k k' n n' m g q a w0 : Nat} {f : Nat → Int32} {x : Int32}
theorem SB.hv (h : SB S i k n m) : vV S 18 i := h.1
theorem SB.ha (h : SB S i k n m) : vV S 42 k := h.2.1
theorem SB.hr (h : SB S i k n m) : mR S 288 i = some (gG S 42 k) := h.2.2.1
theorem SB.hc (h : SB S i k n m) : mI S 289 i = 0 := h.2.2.2.1
theorem SB.hn (h : SB S i k n m) : mI S 291 i = nI n := h.2.2.2.2.1
theorem SB.hw (h : SB S i k n m) : mN S 42 k = m := h.2.2.2.2.2.1
theorem SB.hle (h : SB S i k n m) : n ≤ m := h.2.2.2.2.2.2.1
theorem SB.h2 (h : SB S i k n m) : m ≤ 200 := h.2.2.2.2.2.2.2.1
theorem SB.hf (h : SB S i k n m) : sb_Fit (mA S 42 k) := h.2.2.2.2.2.2.2.2.1
theorem SB.hz (h : SB S i k n m) : ∀ j, k < j → ¬ vV S 42 j := h.2.2.2.2.2.2.2.2.2
theorem bV_le (h : k ≤ k') (t j : Nat) (z : bV k t j = false) : bV k' t j = false := ff_of (fun e => by
  unfold bV at e ⊢
  rw [Bool.and_eq_true] at e ⊢
  exact ⟨e.1, Nat.ble_eq_true_of_le (Nat.le_trans h (Nat.le_of_ble_eq_true e.2))⟩) z
theorem KB.up (b : KB S T i k') (h : k ≤ k') : KB S T i k := b.le (bV_le h) (fun _ _ z => z) (fun _ _ z => z)
theorem bV_s : bV k 42 k = true := by unfold bV; rw [show Nat.ble k k = true from Nat.ble_eq_true_of_le (Nat.le_refl k)]; rfl
theorem bV_ge (h : k ≤ k') : bV k 42 k' = true := by unfold bV; rw [show Nat.ble k k' = true from Nat.ble_eq_true_of_le h]; rfl
theorem bI_s : bI i 291 i = true := by unfold bI; rw [show (i == i) = true from beq_self_eq_true i]; rfl
theorem bI_c : bI i 289 i = true := by unfold bI; rw [show (i == i) = true from beq_self_eq_true i]; rfl
theorem bR_s : bR i 288 i = true := by unfold bR; rw [show (i == i) = true from beq_self_eq_true i]; rfl
/-- the row is written -/
theorem SB.sA (h : SB S i k n m) (hf : sb_Fit f) : SB (_root_.sA S 42 k f) i k n m := ⟨h.hv, h.ha, h.hr, h.hc, h.hn, h.hw, h.hle, h.h2, by rw [show mA (_root_.sA S 42 k f) 42 k = f from up2_s _ _ _ _]; exact hf, h.hz⟩
theorem SB.st (h : SB S i k n m) (hn : n' ≤ m) : SB (_root_.sI S 291 i (nI n')) i k n' m := ⟨h.hv, h.ha, h.hr, (up2_n (fun z => absurd z.1 (by decide))).trans h.hc, up2_s _ _ _ _, h.hw, hn, h.h2, h.hf, h.hz⟩
/-- the row is another -/
theorem SB.gr (h : SB S i k n m) (hm : m < g) (h2 : g ≤ 200) (hf : sb_Fit f) : SB (_root_.sR (_root_.sA (sArr S 42 (k + 1) q g) 42 (k + 1) f) 288 i (some (gG (_root_.sA (sArr S 42 (k + 1) q g) 42 (k + 1) f) 42 (k + 1)))) i (k + 1) n g :=
  ⟨Or.inl h.hv, Or.inr ⟨rfl, rfl⟩, up2_s _ _ _ _, h.hc, h.hn, up2_s _ _ _ _, Nat.le_trans h.hle (Nat.le_of_lt hm), h2, by rw [show mA (_root_.sR (_root_.sA (sArr S 42 (k + 1) q g) 42 (k + 1) f) 288 i (some (gG (_root_.sA (sArr S 42 (k + 1) q g) 42 (k + 1) f) 42 (k + 1)))) 42 (k + 1) = f from up2_s _ _ _ _]; exact hf, fun j hj v => v.elim (h.hz j (by omega)) (fun z => by omega)⟩
theorem KB.gr : KB S (_root_.sR (_root_.sA (sArr S 42 (k + 1) q g) 42 (k + 1) f) 288 i (some (gG (_root_.sA (sArr S 42 (k + 1) q g) 42 (k + 1) f) 42 (k + 1)))) i k := ((Kq.rf.arr (bV_ge (Nat.le_succ k))).sA (bV_ge (Nat.le_succ k))).sR bR_s
theorem RBA.keep {b : Nat} (h : RBA S k b w0) (kk : KB S T i k) : RBA T k b w0 := by
  obtain ⟨j, hj, rfl, hV, hN, hf⟩ := h
  have z : bV k 42 j = false := by unfold bV; rw [show Nat.ble k j = false from by cases e : Nat.ble k j with | false => rfl | true => exact absurd (Nat.le_of_ble_eq_true e) (Nat.not_le.mpr hj)]; rfl
  obtain ⟨k1, k2, k3, k4, k5⟩ := kk.1 42 j z
  exact ⟨j, hj, k2.symm, by rw [k1]; exact hV, by rw [k3]; exact hN, by rw [k5]; exact hf⟩
theorem RBA.up {b : Nat} (h : RBA S k b w0) (hk : k ≤ k') : RBA S k' b w0 := by
  obtain ⟨j, hj, h⟩ := h
  exact ⟨j, Nat.lt_of_lt_of_le hj hk, h⟩
theorem SA.keep (h : SA s0 S k a w0) (kk : KB S T i k) (hk : k ≤ k') : SA s0 T k' a w0 := by
  rcases h with h | ⟨j, hV, rfl, hc, b, hr, hb⟩
  · exact Or.inl h
  · refine Or.inr ⟨j, by rw [kk.V (t := 19) (i := j) rfl]; exact hV, (kk.G (t := 19) (i := j) rfl).symm, by rw [kk.I (f := 305) (i := j) rfl]; exact hc, b, by rw [kk.R (f := 304) (i := j) rfl]; exact hr, (hb.keep kk).up hk⟩
theorem KB.G18 (h : KB S T i k) {j : Nat} : gG T 18 j = gG S 18 j := h.G (t := 18) rfl
end SBS

section STX
variable {p : Program} {l : Launch} {e : Env} {R : Room} {s : State} {m : MethodId} {args : Array Value} {below : List Frame} {meth : Method} {c : Code} {H : Heap} {locs : List Loc} {cells slots : Nat} {Q : State → Prop} {cc : ByteArray} {pc nL : Nat} {ls : Array Slot} {rest : List Value} {s0 : State} {D : va_G} {cy : Nat → ClassId} {S S' : HS} {own : String} {ret : Option FieldType} {post : Option Value → HS → Prop} {i index : Nat}
variable {y : MethodName} {ccy : ByteArray} {ny nA : Nat} {rety : Option FieldType} {rm : Room} {As st : List Value} {lv : List (Nat × Value)}

theorem sA_id (S : HS) (t i : Nat) : sA S t i (mA S t i) = S := by
  unfold sA
  rw [show mA S t i = S.2.2.2.2.2.1 t i from rfl, up2_id]
theorem sA_sA (S : HS) (t i : Nat) (f g : Nat → Int32) : sA (sA S t i f) t i g = sA S t i g := by
  unfold sA
  exact congrArg (fun z => ((S.1, S.2.1, S.2.2.1, S.2.2.2.1, S.2.2.2.2.1, z, S.2.2.2.2.2.2) : HS)) (up2_up2 _ t i _ _)
theorem aStG {x : Int32} {ch : Nat} {f : Nat → Int32} (X : Cx s0 l D cy p s m args meth c cc nL own ret) (w : Wd s0 D cy (sA S 42 i f) s.heap H locs) (hf : sb_Fit f) (hV : vV S 42 i) (hin : vp_in x (mN S 42 i)) (hdg : decode cc pc = .ok (.bastore, 1))
    (kk : ∀ (f : Nat → Int32) (H1 : Heap) (locs1 : List Loc), sb_Fit f → Wd s0 D cy (sA S 42 i f) s.heap H1 locs1 → W p l e R s m args below meth c H1 locs1 cells slots Q (F0 m (pc + 1) ls rest)) : W p l e R s m args below meth c H locs cells slots Q (F0 m pc ls (.int (nI ch) :: .int x :: .ref (gG S 42 i) :: rest)) := by
  refine aStB (S := sA S 42 i f) X w hV hin hdg (fun H1 locs1 w => ?_)
  rw [sA_sA, show mA (sA S 42 i f) 42 i = f from up2_s _ _ _ _] at w
  exact kk _ H1 locs1 (sb_fitU hf (sb_fitB ch)) w
theorem ng_le {v b : Nat} (hv : v < 2 ^ 31) (hb : b < 2 ^ 31) : (-(nI v)) ≤ (-(nI b)) ↔ b ≤ v := sb_nle hv hb
end STX
