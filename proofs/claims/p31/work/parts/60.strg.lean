theorem wPv_J5_newCapacity_0f7a4 : Cond.privateMethod yJ5_newCapacity_0f7a4 ∈ lw_tbl := by decide +kernel
theorem wPv_J5_ensureCapacityInternal_d00df : Cond.privateMethod yJ5_ensureCapacityInternal_d00df ∈ lw_tbl := by decide +kernel
theorem wPv_J5_inflateIfNeededFor_a7421 : Cond.privateMethod yJ5_inflateIfNeededFor_a7421 ∈ lw_tbl := by decide +kernel
theorem wPv_J5_putStringAt_47b60 : Cond.privateMethod yJ5_putStringAt_47b60 ∈ lw_tbl := by decide +kernel
section RB
variable {p : Program} {l : Launch} {e : Env} {R : Room} {s : State} {m : MethodId} {args : Array Value} {below : List Frame} {meth : Method} {c : Code} {H : Heap} {locs : List Loc} {cells slots : Nat} {Q : State → Prop} {cc : ByteArray} {pc nL : Nat} {ls : Array Slot} {rest : List Value} {s0 : State} {D : va_G} {cy : Nat → ClassId} {S S' : HS} {own : String} {ret : Option FieldType} {post : Option Value → HS → Prop} {i index : Nat}
variable {y : MethodName} {ccy : ByteArray} {ny nA : Nat} {rety : Option FieldType} {rm : Room} {As st : List Value} {lv : List (Nat × Value)}

theorem rB {mc ms : Nat} {v : Int32} (X : Cx s0 l D cy p s m args meth c cc nL own ret) (w : Wd s0 D cy S' s.heap H locs) (hr : ret = some .byte) (hdg : decode cc pc = .ok (.ireturn, 1)) (hz : narrow .byte (.int v) = .int v) (hc : cells ≤ mc) (hs : slots ≤ ms) (hp : post (some (.int v)) S') : W p l e R s m args below meth c H locs cells slots (MQ below (GQ s0 D cy post) args s mc ms (A0 s0)) (F0 m pc ls [.int v]) :=
  W.widen hc hs (W.zret X.1 X.2.1 (X.2.2.2.2.2.1.trans hr) hz (fun _ ht _ => ⟨⟨_, S', rfl, hp, by rw [ht]; exact w.1⟩, w.2.F ht⟩) w.2.2.2 hdg X.2.2.2.2.2.2.1)
end RB

theorem dJ0_coder_7d493_0 : decode cJ0_coder_7d493 0 = .ok (.getstatic 38, 3) := by decide +kernel
theorem dJ0_coder_7d493_3 : decode cJ0_coder_7d493 3 = .ok (.ifCond .eq 10, 3) := by decide +kernel
theorem dJ0_coder_7d493_6 : decode cJ0_coder_7d493 6 = .ok (.aload_n 0, 1) := by decide +kernel
theorem dJ0_coder_7d493_7 : decode cJ0_coder_7d493 7 = .ok (.getfield 15, 3) := by decide +kernel
theorem dJ0_coder_7d493_10 : decode cJ0_coder_7d493 10 = .ok (.goto 4, 3) := by decide +kernel
theorem dJ0_coder_7d493_14 : decode cJ0_coder_7d493 14 = .ok (.ireturn, 1) := by decide +kernel
abbrev rm_m_J0_coder_7d493 : Room := { frames := 0, cells := 0, slots := 0, locals := 0 }
set_option maxHeartbeats 4000000 in
set_option maxRecDepth 100000 in
theorem m_J0_coder_7d493 {s0 : State} {l : Launch} {D : va_G} {cy : Nat → ClassId} (G : Gl s0 l D cy) (S : HS) (k a w0 : Nat) (hS : SA s0 S k a w0) : Ctr s0 l D cy yJ0_coder_7d493 cJ0_coder_7d493 1 (some (.byte)) rm_m_J0_coder_7d493 S [.ref a] (PU S (some (.int (0)))) := by
  refine pro "java/lang/String" G rfl rfl (Nat.le_of_ble_eq_true rfl) (fun p e s m below meth c ls X w hnm hl => ?_)
  have hx := X.1
  have hb := X.2.1
  have hown := X.2.2.2.1
  have hts := X.2.2.2.2.1
  have hl : lv_has ls 1 [(0, .ref a)] := hl
  refine va_gets hx hb (X_cs G X.2.2.2.2.2.2.2.2.1) w.2 hown (hts _ wF_J0_38) (fun _ h => h) dJ0_coder_7d493_0 ?_
  refine lv_if_eq (tgt := 13) hx hb dJ0_coder_7d493_3 (by decide) (fun hc1 => ?_) (fun hc1 => ?_)
  · exact absurd hc1 (by decide)
  · refine lv_aload_n hx hb dJ0_coder_7d493_6 rfl (lv_at hl 0 rfl) ?_
    refine gCoA X w hS wF_J0_15 dJ0_coder_7d493_7 ?_
    refine lv_goto (tgt := 14) hx hb dJ0_coder_7d493_10 (by decide) ?_
    exact rB X w rfl dJ0_coder_7d493_14 (by rfl) (by decide) (by decide) (pu_i rfl)

theorem dJ0_length_8abf5_0 : decode cJ0_length_8abf5 0 = .ok (.aload_n 0, 1) := by decide +kernel
theorem dJ0_length_8abf5_1 : decode cJ0_length_8abf5 1 = .ok (.getfield 9, 3) := by decide +kernel
theorem dJ0_length_8abf5_4 : decode cJ0_length_8abf5 4 = .ok (.arraylength, 1) := by decide +kernel
theorem dJ0_length_8abf5_5 : decode cJ0_length_8abf5 5 = .ok (.aload_n 0, 1) := by decide +kernel
theorem dJ0_length_8abf5_6 : decode cJ0_length_8abf5 6 = .ok (.invokevirtual 335, 3) := by decide +kernel
theorem dJ0_length_8abf5_9 : decode cJ0_length_8abf5 9 = .ok (.ishr, 1) := by decide +kernel
theorem dJ0_length_8abf5_10 : decode cJ0_length_8abf5 10 = .ok (.ireturn, 1) := by decide +kernel
abbrev rm_m_J0_length_8abf5 : Room := { frames := 1, cells := 0, slots := 0, locals := 20 }
set_option maxHeartbeats 4000000 in
set_option maxRecDepth 100000 in
theorem m_J0_length_8abf5 {s0 : State} {l : Launch} {D : va_G} {cy : Nat → ClassId} (G : Gl s0 l D cy) (S : HS) (k a w0 : Nat) (hS : SA s0 S k a w0) : Ctr s0 l D cy yJ0_length_8abf5 cJ0_length_8abf5 1 (some .int) rm_m_J0_length_8abf5 S [.ref a] (PU S (some (.int (nI w0)))) := by
  refine pro "java/lang/String" G rfl rfl (Nat.le_of_ble_eq_true rfl) (fun p e s m below meth c ls X w hnm hl => ?_)
  have hx := X.1
  have hb := X.2.1
  have hown := X.2.2.2.1
  have hts := X.2.2.2.2.1
  have hl : lv_has ls 1 [(0, .ref a)] := hl
  refine lv_aload_n hx hb dJ0_length_8abf5_0 rfl (lv_at hl 0 rfl) ?_
  refine gVaA X w hS wF_J0_9 dJ0_length_8abf5_1 (fun b1 hb1 => ?_)
  refine lenBA X w hb1 dJ0_length_8abf5_4 ?_
  refine lv_aload_n hx hb dJ0_length_8abf5_5 rfl (lv_at hl 0 rfl) ?_
  refine cVx (S := S) (nA := 0) (As := []) (rest := [.int (nI w0)]) X w hl (recSA X w hS) (m_J0_coder_7d493 G S _ a _ hS) wY_J0_coder_7d493 wM_J0_335 wIn_J0_coder_7d493 wSe_J0_J0_coder_7d493 wI_J0 (by decide +kernel) rfl rfl dJ0_length_8abf5_6 ⟨Nat.le_of_ble_eq_true rfl, Nat.le_of_ble_eq_true rfl⟩ (Nat.le_of_ble_eq_true rfl) (⟨Nat.le_of_ble_eq_true rfl, Nat.le_of_ble_eq_true rfl⟩) (fun v2 S1 H locs hp w => ?_)
  obtain ⟨rfl, rfl⟩ := hp
  refine lv_ishr hx hb dJ0_length_8abf5_9 ?_
  refine lv_topi (fun z3 ez3 => ?_)
  obtain rfl : z3 = nI w0 := ez3.trans (sb_shr0 _)
  exact rI X w rfl dJ0_length_8abf5_10 (by decide) (by decide) (pu_i rfl)

theorem dJ5_inflateIfNeededFor_a7421_0 : decode cJ5_inflateIfNeededFor_a7421 0 = .ok (.getstatic 18, 3) := by decide +kernel
theorem dJ5_inflateIfNeededFor_a7421_3 : decode cJ5_inflateIfNeededFor_a7421 3 = .ok (.ifCond .eq 18, 3) := by decide +kernel
theorem dJ5_inflateIfNeededFor_a7421_6 : decode cJ5_inflateIfNeededFor_a7421 6 = .ok (.aload_n 0, 1) := by decide +kernel
theorem dJ5_inflateIfNeededFor_a7421_7 : decode cJ5_inflateIfNeededFor_a7421 7 = .ok (.getfield 22, 3) := by decide +kernel
theorem dJ5_inflateIfNeededFor_a7421_10 : decode cJ5_inflateIfNeededFor_a7421 10 = .ok (.aload_n 1, 1) := by decide +kernel
theorem dJ5_inflateIfNeededFor_a7421_11 : decode cJ5_inflateIfNeededFor_a7421 11 = .ok (.invokevirtual 40, 3) := by decide +kernel
theorem dJ5_inflateIfNeededFor_a7421_14 : decode cJ5_inflateIfNeededFor_a7421 14 = .ok (.if_icmp .eq 7, 3) := by decide +kernel
theorem dJ5_inflateIfNeededFor_a7421_21 : decode cJ5_inflateIfNeededFor_a7421 21 = .ok (.return_, 1) := by decide +kernel
abbrev rm_m_J5_inflateIfNeededFor_a7421 : Room := { frames := 1, cells := 0, slots := 0, locals := 20 }
set_option maxHeartbeats 4000000 in
set_option maxRecDepth 100000 in
theorem m_J5_inflateIfNeededFor_a7421 {s0 : State} {l : Launch} {D : va_G} {cy : Nat → ClassId} (G : Gl s0 l D cy) (S : HS) (i k n mm a k2 w0 : Nat) (hB : SB S i k n mm) (hS : SA s0 S k2 a w0) : Ctr s0 l D cy yJ5_inflateIfNeededFor_a7421 cJ5_inflateIfNeededFor_a7421 2 none rm_m_J5_inflateIfNeededFor_a7421 S [.ref (gG S 18 i), .ref a] (PU S none) := by
  refine pro "java/lang/AbstractStringBuilder" G rfl rfl (Nat.le_of_ble_eq_true rfl) (fun p e s m below meth c ls X w hnm hl => ?_)
  have hx := X.1
  have hb := X.2.1
  have hown := X.2.2.2.1
  have hts := X.2.2.2.2.1
  have hl : lv_has ls 2 [(0, .ref (gG S 18 i)), (1, .ref a)] := hl
  refine va_gets hx hb (X_cs G X.2.2.2.2.2.2.2.2.1) w.2 hown (hts _ wF_J5_18) (fun _ h => h) dJ5_inflateIfNeededFor_a7421_0 ?_
  refine lv_if_eq (tgt := 21) hx hb dJ5_inflateIfNeededFor_a7421_3 (by decide) (fun hc1 => ?_) (fun hc1 => ?_)
  · exact absurd hc1 (by decide)
  · refine lv_aload_n hx hb dJ5_inflateIfNeededFor_a7421_6 rfl (lv_at hl 0 rfl) ?_
    refine g_18_1 (S := S) (x := 0) X w hB.hv wF_J5_22 (hB.hc) dJ5_inflateIfNeededFor_a7421_7 ?_
    refine lv_aload_n hx hb dJ5_inflateIfNeededFor_a7421_10 rfl (lv_at hl 1 rfl) ?_
    refine cVx (S := S) (nA := 0) (As := []) (rest := [.int 0]) X w hl (recSA X w hS) (m_J0_coder_7d493 G S _ a _ hS) wY_J0_coder_7d493 wM_J5_40 wIn_J0_coder_7d493 wSe_J0_J0_coder_7d493 wI_J0 (by decide +kernel) rfl rfl dJ5_inflateIfNeededFor_a7421_11 ⟨Nat.le_of_ble_eq_true rfl, Nat.le_of_ble_eq_true rfl⟩ (Nat.le_of_ble_eq_true rfl) (⟨Nat.le_of_ble_eq_true rfl, Nat.le_of_ble_eq_true rfl⟩) (fun v2 S1 H locs hp w => ?_)
    obtain ⟨rfl, rfl⟩ := hp
    refine lv_icmp_eq (tgt := 21) hx hb dJ5_inflateIfNeededFor_a7421_14 (by decide) (fun hc3 => ?_) (fun hc3 => ?_)
    · exact rV X w rfl dJ5_inflateIfNeededFor_a7421_21 (by decide) (by decide) (⟨rfl, rfl⟩)
    · exact absurd hc3 (by decide)

theorem dJ0_getBytes_840e7_0 : decode cJ0_getBytes_840e7 0 = .ok (.aload_n 0, 1) := by decide +kernel
theorem dJ0_getBytes_840e7_1 : decode cJ0_getBytes_840e7 1 = .ok (.invokevirtual 335, 3) := by decide +kernel
theorem dJ0_getBytes_840e7_4 : decode cJ0_getBytes_840e7 4 = .ok (.iload_n 3, 1) := by decide +kernel
theorem dJ0_getBytes_840e7_5 : decode cJ0_getBytes_840e7 5 = .ok (.if_icmp .ne 23, 3) := by decide +kernel
theorem dJ0_getBytes_840e7_8 : decode cJ0_getBytes_840e7 8 = .ok (.aload_n 0, 1) := by decide +kernel
theorem dJ0_getBytes_840e7_9 : decode cJ0_getBytes_840e7 9 = .ok (.getfield 9, 3) := by decide +kernel
theorem dJ0_getBytes_840e7_12 : decode cJ0_getBytes_840e7 12 = .ok (.iconst 0, 1) := by decide +kernel
theorem dJ0_getBytes_840e7_13 : decode cJ0_getBytes_840e7 13 = .ok (.aload_n 1, 1) := by decide +kernel
theorem dJ0_getBytes_840e7_14 : decode cJ0_getBytes_840e7 14 = .ok (.iload_n 2, 1) := by decide +kernel
theorem dJ0_getBytes_840e7_15 : decode cJ0_getBytes_840e7 15 = .ok (.iload_n 3, 1) := by decide +kernel
theorem dJ0_getBytes_840e7_16 : decode cJ0_getBytes_840e7 16 = .ok (.ishl, 1) := by decide +kernel
theorem dJ0_getBytes_840e7_17 : decode cJ0_getBytes_840e7 17 = .ok (.aload_n 0, 1) := by decide +kernel
theorem dJ0_getBytes_840e7_18 : decode cJ0_getBytes_840e7 18 = .ok (.getfield 9, 3) := by decide +kernel
theorem dJ0_getBytes_840e7_21 : decode cJ0_getBytes_840e7 21 = .ok (.arraylength, 1) := by decide +kernel
theorem dJ0_getBytes_840e7_22 : decode cJ0_getBytes_840e7 22 = .ok (.invokestatic 212, 3) := by decide +kernel
theorem dJ0_getBytes_840e7_25 : decode cJ0_getBytes_840e7 25 = .ok (.goto 18, 3) := by decide +kernel
theorem dJ0_getBytes_840e7_43 : decode cJ0_getBytes_840e7 43 = .ok (.return_, 1) := by decide +kernel
abbrev rm_m_J0_getBytes_840e7 : Room := { frames := 1, cells := 0, slots := 0, locals := 43 }
set_option maxHeartbeats 4000000 in
set_option maxRecDepth 100000 in
theorem m_J0_getBytes_840e7 {s0 : State} {l : Launch} {D : va_G} {cy : Nat → ClassId} (G : Gl s0 l D cy) (S : HS) (a k2 k w0 n mm : Nat) (hS : SA s0 S k2 a w0) (hV : vV S 42 k) (hf : sb_Fit (mA S 42 k)) (hN : mN S 42 k = mm) (hnw : n + w0 ≤ mm) (hm : mm ≤ 200) : Ctr s0 l D cy yJ0_getBytes_840e7 cJ0_getBytes_840e7 4 none rm_m_J0_getBytes_840e7 S [.ref a, .ref (gG S 42 k), .int (nI n), .int 0] (fun v S' => none = v ∧ ∃ f, sb_Fit f ∧ S' = sA S 42 k f) := by
  refine pro "java/lang/String" G rfl rfl (Nat.le_of_ble_eq_true rfl) (fun p e s m below meth c ls X w hnm hl => ?_)
  have hx := X.1
  have hb := X.2.1
  have hown := X.2.2.2.1
  have hts := X.2.2.2.2.1
  have hl : lv_has ls 4 [(0, .ref a), (1, .ref (gG S 42 k)), (2, .int (nI n)), (3, .int 0)] := hl
  have hw : w0 < 2 ^ 31 := by omega
  refine lv_aload_n hx hb dJ0_getBytes_840e7_0 rfl (lv_at hl 0 rfl) ?_
  refine cVx (S := S) (nA := 0) (As := []) (rest := []) X w hl (recSA X w hS) (m_J0_coder_7d493 G S _ a _ hS) wY_J0_coder_7d493 wM_J0_335 wIn_J0_coder_7d493 wSe_J0_J0_coder_7d493 wI_J0 (by decide +kernel) rfl rfl dJ0_getBytes_840e7_1 ⟨Nat.le_of_ble_eq_true rfl, Nat.le_of_ble_eq_true rfl⟩ (Nat.le_of_ble_eq_true rfl) (⟨Nat.le_of_ble_eq_true rfl, Nat.le_of_ble_eq_true rfl⟩) (fun v1 S1 H locs hp w => ?_)
  obtain ⟨rfl, rfl⟩ := hp
  refine lv_iload_n hx hb dJ0_getBytes_840e7_4 rfl (lv_at hl 3 rfl) ?_
  refine lv_icmp_ne (tgt := 28) hx hb dJ0_getBytes_840e7_5 (by decide) (fun hc2 => ?_) (fun hc2 => ?_)
  · exact absurd hc2 (by decide)
  · refine lv_aload_n hx hb dJ0_getBytes_840e7_8 rfl (lv_at hl 0 rfl) ?_
    refine gVaA X w hS wF_J0_9 dJ0_getBytes_840e7_9 (fun b3 hb3 => ?_)
    refine lv_iconst (v := 0) hx hb dJ0_getBytes_840e7_12 (by decide) ?_
    refine lv_aload_n hx hb dJ0_getBytes_840e7_13 rfl (lv_at hl 1 rfl) ?_
    refine lv_iload_n hx hb dJ0_getBytes_840e7_14 rfl (lv_at hl 2 rfl) ?_
    refine lv_iload_n hx hb dJ0_getBytes_840e7_15 rfl (lv_at hl 3 rfl) ?_
    refine lv_ishl hx hb dJ0_getBytes_840e7_16 ?_
    refine lv_topi (fun z4 ez4 => ?_)
    obtain rfl : z4 = nI n := ez4.trans (sb_shl0 _)
    refine lv_aload_n hx hb dJ0_getBytes_840e7_17 rfl (lv_at hl 0 rfl) ?_
    refine gVaA X w hS wF_J0_9 dJ0_getBytes_840e7_18 (fun b5 hb5 => ?_)
    refine lenBA X w hb5 dJ0_getBytes_840e7_21 ?_
    refine cpBA X w hl.1 hb3 hV hf hw wM_J0_212 (nI_pos (by omega)) (by rw [nI_clamp (n := n) (by omega), hN]; exact hnw) (Nat.le_of_ble_eq_true rfl) (Nat.le_of_ble_eq_true rfl) dJ0_getBytes_840e7_22 (fun f H locs hf w => ?_)
    refine lv_goto (tgt := 43) hx hb dJ0_getBytes_840e7_25 (by decide) ?_
    exact rV X w rfl dJ0_getBytes_840e7_43 (by decide) (by decide) (⟨rfl, f, hf, rfl⟩)

theorem dJ5_putStringAt_47b60_0 : decode cJ5_putStringAt_47b60 0 = .ok (.aload_n 0, 1) := by decide +kernel
theorem dJ5_putStringAt_47b60_1 : decode cJ5_putStringAt_47b60 1 = .ok (.aload_n 2, 1) := by decide +kernel
theorem dJ5_putStringAt_47b60_2 : decode cJ5_putStringAt_47b60 2 = .ok (.invokevirtual 397, 3) := by decide +kernel
theorem dJ5_putStringAt_47b60_5 : decode cJ5_putStringAt_47b60 5 = .ok (.aload_n 2, 1) := by decide +kernel
theorem dJ5_putStringAt_47b60_6 : decode cJ5_putStringAt_47b60 6 = .ok (.aload_n 0, 1) := by decide +kernel
theorem dJ5_putStringAt_47b60_7 : decode cJ5_putStringAt_47b60 7 = .ok (.getfield 15, 3) := by decide +kernel
theorem dJ5_putStringAt_47b60_10 : decode cJ5_putStringAt_47b60 10 = .ok (.iload_n 1, 1) := by decide +kernel
theorem dJ5_putStringAt_47b60_11 : decode cJ5_putStringAt_47b60 11 = .ok (.aload_n 0, 1) := by decide +kernel
theorem dJ5_putStringAt_47b60_12 : decode cJ5_putStringAt_47b60 12 = .ok (.getfield 22, 3) := by decide +kernel
theorem dJ5_putStringAt_47b60_15 : decode cJ5_putStringAt_47b60 15 = .ok (.invokevirtual 399, 3) := by decide +kernel
theorem dJ5_putStringAt_47b60_18 : decode cJ5_putStringAt_47b60 18 = .ok (.return_, 1) := by decide +kernel
abbrev rm_m_J5_putStringAt_47b60 : Room := { frames := 2, cells := 0, slots := 0, locals := 66 }
set_option maxHeartbeats 4000000 in
set_option maxRecDepth 100000 in
theorem m_J5_putStringAt_47b60 {s0 : State} {l : Launch} {D : va_G} {cy : Nat → ClassId} (G : Gl s0 l D cy) (S : HS) (i k n mm a k2 w0 : Nat) (hB : SB S i k n mm) (hS : SA s0 S k2 a w0) (hnw : n + w0 ≤ mm) : Ctr s0 l D cy yJ5_putStringAt_47b60 cJ5_putStringAt_47b60 3 none rm_m_J5_putStringAt_47b60 S [.ref (gG S 18 i), .int (nI n), .ref a] (fun v S' => none = v ∧ ∃ f, sb_Fit f ∧ S' = sA S 42 k f) := by
  refine pro "java/lang/AbstractStringBuilder" G rfl rfl (Nat.le_of_ble_eq_true rfl) (fun p e s m below meth c ls X w hnm hl => ?_)
  have hx := X.1
  have hb := X.2.1
  have hown := X.2.2.2.1
  have hts := X.2.2.2.2.1
  have hl : lv_has ls 3 [(0, .ref (gG S 18 i)), (1, .int (nI n)), (2, .ref a)] := hl
  refine lv_aload_n hx hb dJ5_putStringAt_47b60_0 rfl (lv_at hl 0 rfl) ?_
  refine lv_aload_n hx hb dJ5_putStringAt_47b60_1 rfl (lv_at hl 2 rfl) ?_
  refine cU (S := S) (t := 18) (nA := 1) (As := [.ref a]) (rest := []) X w hl hB.hv (m_J5_inflateIfNeededFor_a7421 G S i _ _ _ a _ _ hB hS) wY_J5_inflateIfNeededFor_a7421 wM_J5_397 wIn_J5_inflateIfNeededFor_a7421 wZ_2097 (sel5 X rfl wPv_J5_inflateIfNeededFor_a7421 wIn_J5_inflateIfNeededFor_a7421) wI_J5 (by decide) rfl (by decide +kernel) rfl rfl dJ5_putStringAt_47b60_2 ⟨Nat.le_of_ble_eq_true rfl, Nat.le_of_ble_eq_true rfl⟩ (Nat.le_of_ble_eq_true rfl) (⟨Nat.le_of_ble_eq_true rfl, Nat.le_of_ble_eq_true rfl⟩) (fun v1 S1 H locs hp w => ?_)
  obtain ⟨rfl, rfl⟩ := hp
  refine lv_aload_n hx hb dJ5_putStringAt_47b60_5 rfl (lv_at hl 2 rfl) ?_
  refine lv_aload_n hx hb dJ5_putStringAt_47b60_6 rfl (lv_at hl 0 rfl) ?_
  refine g_18_0 (S := S) (x := (some (gG S 42 k))) X w hB.hv wF_J5_15 (hB.hr) dJ5_putStringAt_47b60_7 ?_
  refine lv_iload_n hx hb dJ5_putStringAt_47b60_10 rfl (lv_at hl 1 rfl) ?_
  refine lv_aload_n hx hb dJ5_putStringAt_47b60_11 rfl (lv_at hl 0 rfl) ?_
  refine g_18_1 (S := S) (x := 0) X w hB.hv wF_J5_22 (hB.hc) dJ5_putStringAt_47b60_12 ?_
  refine cVx (S := S) (nA := 3) (As := [.ref (gG S 42 k), .int (nI n), .int 0]) (rest := []) X w hl (recSA X w hS) (m_J0_getBytes_840e7 G S a _ k w0 n mm hS hB.ha hB.hf hB.hw hnw hB.h2) wY_J0_getBytes_840e7 wM_J5_399 wIn_J0_getBytes_840e7 wSe_J0_J0_getBytes_840e7 wI_J0 (by decide +kernel) rfl rfl dJ5_putStringAt_47b60_15 ⟨Nat.le_of_ble_eq_true rfl, Nat.le_of_ble_eq_true rfl⟩ (Nat.le_of_ble_eq_true rfl) (⟨Nat.le_of_ble_eq_true rfl, Nat.le_of_ble_eq_true rfl⟩) (fun v4 S1 H locs hp w => ?_)
  obtain ⟨rfl, f3, hf3, rfl⟩ := hp
  exact rV X w rfl dJ5_putStringAt_47b60_18 (by decide) (by decide) (⟨rfl, _, (by assumption), rfl⟩)

