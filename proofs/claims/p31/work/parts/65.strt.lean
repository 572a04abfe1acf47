def tV (t _j : Nat) : Bool := t == 19 || t == 42
def tI (f _j : Nat) : Bool := f / 16 == 19
abbrev KT (S T : HS) : Prop := Kq tV tI tI S T
theorem nwI_n {S : HS} {t j q f i : Nat} (h : ¬ (f / 16 = t ∧ i = j)) : mI (sNew S t j q) f i = mI S f i := (show (if f / 16 = t ∧ i = j then 0 else mI S f i) = mI S f i from if_neg h)
theorem nwR_n {S : HS} {t j q f i : Nat} (h : ¬ (f / 16 = t ∧ i = j)) : mR (sNew S t j q) f i = mR S f i := (show (if f / 16 = t ∧ i = j then none else mR S f i) = mR S f i from if_neg h)
theorem SB.new19 {S : HS} {i k n mm j q : Nat} (h : SB S i k n mm) (hj : ¬ vV S 19 j) : SB (sNew S 19 j q) i k n mm := by
  have e1 : mR (sNew S 19 j q) 288 i = mR S 288 i := nwR_n (by omega)
  have e2 : gG (sNew S 19 j q) 42 k = gG S 42 k := gNew_n (by omega)
  have e3 : mI (sNew S 19 j q) 289 i = mI S 289 i := nwI_n (by omega)
  have e4 : mI (sNew S 19 j q) 291 i = mI S 291 i := nwI_n (by omega)
  exact ⟨Or.inl h.hv, Or.inl h.ha, by rw [e1, e2]; exact h.hr, e3.trans h.hc, e4.trans h.hn, h.hw, h.hle, h.h2, h.hf, fun x hx v => v.elim (h.hz x hx) (fun z => by omega)⟩
/-- the state behind a text is made: of n letters, in row k + 1, of the string j -/
def mkS (S : HS) (j k n q : Nat) (f : Nat → Int32) : HS := sR (sA (sArr (sI S 305 j 0) 42 (k + 1) q n) 42 (k + 1) f) 304 j (some (gG (sA (sArr (sI S 305 j 0) 42 (k + 1) q n) 42 (k + 1) f) 42 (k + 1)))
theorem gMk_n {S : HS} {j k n q t' j' : Nat} {f : Nat → Int32} (h : ¬ (t' = 42 ∧ j' = k + 1)) : gG (mkS S j k n q f) t' j' = gG S t' j' := (show up2 (gG S) 42 (k + 1) q t' j' = gG S t' j' from up2_n h)
theorem mkS_of {s0 : State} {S : HS} {i j k n mm q0 q : Nat} {f : Nat → Int32} (h : SB S i k n mm) (hf : sb_Fit f) : SA s0 (mkS (sNew S 19 j q0) j k n q f) (k + 2) (gG (mkS (sNew S 19 j q0) j k n q f) 19 j) n ∧ (∀ x, k + 2 ≤ x → ¬ vV (mkS (sNew S 19 j q0) j k n q f) 42 x) ∧ (∀ x, x ≠ j → vV (mkS (sNew S 19 j q0) j k n q f) 19 x = vV S 19 x) ∧ KT S (mkS (sNew S 19 j q0) j k n q f) := by
  have hI : ∀ g, g / 16 = 19 → tI g j = true := fun g z => by unfold tI; rw [z]; rfl
  refine ⟨Or.inr ⟨j, Or.inl (Or.inr ⟨rfl, rfl⟩), rfl, up2_s _ _ _ _, _, up2_s _ _ _ _, k + 1, Nat.lt_succ_self _, rfl, Or.inr ⟨rfl, rfl⟩, up2_s _ _ _ _, ?_⟩, fun x hx v => ?_, fun x hx => ?_, ((((Kq.rf.new (t := 19) rfl (by decide) hI hI).sI rfl).arr rfl).sA rfl).sR rfl⟩
  · rw [show mA (mkS (sNew S 19 j q0) j k n q f) 42 (k + 1) = f from up2_s _ _ _ _]; exact hf
  · rcases v with (v | v) | v
    · exact h.hz x (by omega) v
    · exact absurd v.1 (by decide)
    · omega
  · refine propext ⟨fun v => ?_, fun v => Or.inl (Or.inl v)⟩
    rcases v with (v | v) | v
    · exact v
    · exact absurd v.2 hx
    · exact absurd v.1 (by decide)

theorem dJ5_getValue_6d5f1_0 : decode cJ5_getValue_6d5f1 0 = .ok (.aload_n 0, 1) := by decide +kernel
theorem dJ5_getValue_6d5f1_1 : decode cJ5_getValue_6d5f1 1 = .ok (.getfield 15, 3) := by decide +kernel
theorem dJ5_getValue_6d5f1_4 : decode cJ5_getValue_6d5f1 4 = .ok (.areturn, 1) := by decide +kernel
abbrev rm_m_J5_getValue_6d5f1 : Room := { frames := 0, cells := 0, slots := 0, locals := 0 }
set_option maxHeartbeats 4000000 in
set_option maxRecDepth 100000 in
theorem m_J5_getValue_6d5f1 {s0 : State} {l : Launch} {D : va_G} {cy : Nat → ClassId} (G : Gl s0 l D cy) (S : HS) (i k n mm : Nat) (hB : SB S i k n mm) : Ctr s0 l D cy yJ5_getValue_6d5f1 cJ5_getValue_6d5f1 1 (some (.array .byte)) rm_m_J5_getValue_6d5f1 S [.ref (gG S 18 i)] (PU S (some (.ref (gG S 42 k)))) := by
  refine pro "java/lang/AbstractStringBuilder" G rfl rfl (Nat.le_of_ble_eq_true rfl) (fun p e s m below meth c ls X w hnm hl => ?_)
  have hx := X.1
  have hb := X.2.1
  have hown := X.2.2.2.1
  have hts := X.2.2.2.2.1
  have hl : lv_has ls 1 [(0, .ref (gG S 18 i))] := hl
  refine lv_aload_n hx hb dJ5_getValue_6d5f1_0 rfl (lv_at hl 0 rfl) ?_
  refine g_18_0 (S := S) (x := (some (gG S 42 k))) X w hB.hv wF_J5_15 (hB.hr) dJ5_getValue_6d5f1_1 ?_
  exact rA (v := (some (gG S 42 k))) X w rfl (Or.inr ⟨_, rfl⟩) dJ5_getValue_6d5f1_4 (by decide) (by decide) (⟨rfl, rfl⟩)

theorem dJ5_length_8abf5_0 : decode cJ5_length_8abf5 0 = .ok (.aload_n 0, 1) := by decide +kernel
theorem dJ5_length_8abf5_1 : decode cJ5_length_8abf5 1 = .ok (.getfield 79, 3) := by decide +kernel
theorem dJ5_length_8abf5_4 : decode cJ5_length_8abf5 4 = .ok (.ireturn, 1) := by decide +kernel
abbrev rm_m_J5_length_8abf5 : Room := { frames := 0, cells := 0, slots := 0, locals := 0 }
set_option maxHeartbeats 4000000 in
set_option maxRecDepth 100000 in
theorem m_J5_length_8abf5 {s0 : State} {l : Launch} {D : va_G} {cy : Nat → ClassId} (G : Gl s0 l D cy) (S : HS) (i k n mm : Nat) (hB : SB S i k n mm) : Ctr s0 l D cy yJ5_length_8abf5 cJ5_length_8abf5 1 (some .int) rm_m_J5_length_8abf5 S [.ref (gG S 18 i)] (PU S (some (.int (nI n)))) := by
  refine pro "java/lang/AbstractStringBuilder" G rfl rfl (Nat.le_of_ble_eq_true rfl) (fun p e s m below meth c ls X w hnm hl => ?_)
  have hx := X.1
  have hb := X.2.1
  have hown := X.2.2.2.1
  have hts := X.2.2.2.2.1
  have hl : lv_has ls 1 [(0, .ref (gG S 18 i))] := hl
  refine lv_aload_n hx hb dJ5_length_8abf5_0 rfl (lv_at hl 0 rfl) ?_
  refine g_18_3 (S := S) (x := (nI n)) X w hB.hv wF_J5_79 (hB.hn) dJ5_length_8abf5_1 ?_
  exact rI X w rfl dJ5_length_8abf5_4 (by decide) (by decide) (pu_i rfl)

theorem dJ4_length_8abf5_0 : decode cJ4_length_8abf5 0 = .ok (.aload_n 0, 1) := by decide +kernel
theorem dJ4_length_8abf5_1 : decode cJ4_length_8abf5 1 = .ok (.invokespecial 343, 3) := by decide +kernel
theorem dJ4_length_8abf5_4 : decode cJ4_length_8abf5 4 = .ok (.ireturn, 1) := by decide +kernel
abbrev rm_m_J4_length_8abf5 : Room := { frames := 1, cells := 0, slots := 0, locals := 20 }
set_option maxHeartbeats 4000000 in
set_option maxRecDepth 100000 in
theorem m_J4_length_8abf5 {s0 : State} {l : Launch} {D : va_G} {cy : Nat → ClassId} (G : Gl s0 l D cy) (S : HS) (i k n mm : Nat) (hB : SB S i k n mm) : Ctr s0 l D cy yJ4_length_8abf5 cJ4_length_8abf5 1 (some .int) rm_m_J4_length_8abf5 S [.ref (gG S 18 i)] (PU S (some (.int (nI n)))) := by
  refine pro "java/lang/StringBuilder" G rfl rfl (Nat.le_of_ble_eq_true rfl) (fun p e s m below meth c ls X w hnm hl => ?_)
  have hx := X.1
  have hb := X.2.1
  have hown := X.2.2.2.1
  have hts := X.2.2.2.2.1
  have hl : lv_has ls 1 [(0, .ref (gG S 18 i))] := hl
  refine lv_aload_n hx hb dJ4_length_8abf5_0 rfl (lv_at hl 0 rfl) ?_
  refine cSU (S := S) (t := 18) (nA := 0) (As := []) (rest := []) X w hl hB.hv (m_J5_length_8abf5 G S i k n mm hB) wY_J5_length_8abf5 wM_J4_343 wIn_J5_length_8abf5 wZ_1444 wZ_1274 (by decide) wI_J5 (by decide) rfl (by decide +kernel) rfl rfl dJ4_length_8abf5_1 ⟨Nat.le_of_ble_eq_true rfl, Nat.le_of_ble_eq_true rfl⟩ (Nat.le_of_ble_eq_true rfl) (⟨Nat.le_of_ble_eq_true rfl, Nat.le_of_ble_eq_true rfl⟩) (fun v1 S1 H locs hp w => ?_)
  obtain ⟨rfl, rfl⟩ := hp
  exact rI X w rfl dJ4_length_8abf5_4 (by decide) (by decide) (pu_i rfl)

theorem dJ0_init_db425_0 : decode cJ0_init_db425 0 = .ok (.aload_n 0, 1) := by decide +kernel
theorem dJ0_init_db425_1 : decode cJ0_init_db425 1 = .ok (.invokespecial 1, 3) := by decide +kernel
theorem dJ0_init_db425_4 : decode cJ0_init_db425 4 = .ok (.aload_n 1, 1) := by decide +kernel
theorem dJ0_init_db425_5 : decode cJ0_init_db425 5 = .ok (.invokevirtual 552, 3) := by decide +kernel
theorem dJ0_init_db425_8 : decode cJ0_init_db425 8 = .ok (.astore_n 3, 1) := by decide +kernel
theorem dJ0_init_db425_9 : decode cJ0_init_db425 9 = .ok (.aload_n 1, 1) := by decide +kernel
theorem dJ0_init_db425_10 : decode cJ0_init_db425 10 = .ok (.invokevirtual 549, 3) := by decide +kernel
theorem dJ0_init_db425_13 : decode cJ0_init_db425 13 = .ok (.istore 4, 2) := by decide +kernel
theorem dJ0_init_db425_15 : decode cJ0_init_db425 15 = .ok (.aload_n 1, 1) := by decide +kernel
theorem dJ0_init_db425_16 : decode cJ0_init_db425 16 = .ok (.invokevirtual 1047, 3) := by decide +kernel
theorem dJ0_init_db425_19 : decode cJ0_init_db425 19 = .ok (.ifCond .eq 22, 3) := by decide +kernel
theorem dJ0_init_db425_22 : decode cJ0_init_db425 22 = .ok (.aload_n 0, 1) := by decide +kernel
theorem dJ0_init_db425_23 : decode cJ0_init_db425 23 = .ok (.iconst 0, 1) := by decide +kernel
theorem dJ0_init_db425_24 : decode cJ0_init_db425 24 = .ok (.putfield 15, 3) := by decide +kernel
theorem dJ0_init_db425_27 : decode cJ0_init_db425 27 = .ok (.aload_n 0, 1) := by decide +kernel
theorem dJ0_init_db425_28 : decode cJ0_init_db425 28 = .ok (.aload_n 3, 1) := by decide +kernel
theorem dJ0_init_db425_29 : decode cJ0_init_db425 29 = .ok (.iconst 0, 1) := by decide +kernel
theorem dJ0_init_db425_30 : decode cJ0_init_db425 30 = .ok (.iload 4, 2) := by decide +kernel
theorem dJ0_init_db425_32 : decode cJ0_init_db425 32 = .ok (.invokestatic 54, 3) := by decide +kernel
theorem dJ0_init_db425_35 : decode cJ0_init_db425 35 = .ok (.putfield 9, 3) := by decide +kernel
theorem dJ0_init_db425_38 : decode cJ0_init_db425 38 = .ok (.goto 59, 3) := by decide +kernel
theorem dJ0_init_db425_97 : decode cJ0_init_db425 97 = .ok (.return_, 1) := by decide +kernel
abbrev rm_m_J0_init_db425 : Room := { frames := 3, cells := 1, slots := 200, locals := 89 }
set_option maxHeartbeats 4000000 in
set_option maxRecDepth 100000 in
theorem m_J0_init_db425 {s0 : State} {l : Launch} {D : va_G} {cy : Nat → ClassId} (G : Gl s0 l D cy) (S : HS) (i j k n mm : Nat) (hB : SB S i k n mm) (hj : vV S 19 j) : Ctr s0 l D cy yJ0_init_db425 cJ0_init_db425 5 none rm_m_J0_init_db425 S [.ref (gG S 19 j), .ref (gG S 18 i), .null] (fun v S' => none = v ∧ ∃ q f, sb_Fit f ∧ S' = mkS S j k n q f) := by
  refine pro "java/lang/String" G rfl rfl (Nat.le_of_ble_eq_true rfl) (fun p e s m below meth c ls X w hnm hl => ?_)
  have hx := X.1
  have hb := X.2.1
  have hown := X.2.2.2.1
  have hts := X.2.2.2.2.1
  have hin2 : meth.name = "<init>" := hnm
  have hl : lv_has ls 5 [(0, .ref (gG S 19 j)), (1, .ref (gG S 18 i)), (2, .null)] := hl
  refine lv_aload_n hx hb dJ0_init_db425_0 rfl (lv_at hl 0 rfl) ?_
  refine W.objInit hx hb hown (hts _ wM_J0_1) (hts _ wIn_O_init) (hts _ wY_O_init) rfl (X.2.2.1.symm ▸ hl.1) rfl dJ0_init_db425_1 (Nat.le_of_ble_eq_true rfl) (Nat.le_of_ble_eq_true rfl) ?_
  refine W.eq (g2 := F0 m 4 ls []) rfl ?_
  refine lv_aload_n hx hb dJ0_init_db425_4 rfl (lv_at hl 1 rfl) ?_
  refine cU (S := S) (t := 18) (nA := 0) (As := []) (rest := []) X w hl hB.hv (m_J5_getValue_6d5f1 G S i k n mm hB) wY_J5_getValue_6d5f1 wM_J0_552 wIn_J5_getValue_6d5f1 wZ_1439 (hts _ wSe_J4_J5_getValue_6d5f1) wI_J5 (by decide) rfl (by decide +kernel) rfl rfl dJ0_init_db425_5 ⟨Nat.le_of_ble_eq_true rfl, Nat.le_of_ble_eq_true rfl⟩ (Nat.le_of_ble_eq_true rfl) (⟨Nat.le_of_ble_eq_true rfl, Nat.le_of_ble_eq_true rfl⟩) (fun v1 S1 H locs hp w => ?_)
  obtain ⟨rfl, rfl⟩ := hp
  refine lv_astore_n (lv' := [(3, .ref (gG S 42 k)), (0, .ref (gG S 19 j)), (1, .ref (gG S 18 i)), (2, .null)]) hx hb dJ0_init_db425_8 rfl hl (by decide) rfl (fun ls hl => ?_)
  refine lv_aload_n hx hb dJ0_init_db425_9 rfl (lv_at hl 2 rfl) ?_
  refine cO (S := S) (t := 18) (nA := 0) (As := []) (rest := []) X w hl hB.hv (m_J4_length_8abf5 G S i k n mm hB) wY_J4_length_8abf5 wM_J0_549 wIn_J4_length_8abf5 wZ_1444 wIn_J5_length_8abf5 wY_J5_length_8abf5 wSe_J4_J4_length_8abf5_of_J5_length_8abf5 wI_J4 (by decide) rfl (by decide +kernel) rfl rfl dJ0_init_db425_10 ⟨Nat.le_of_ble_eq_true rfl, Nat.le_of_ble_eq_true rfl⟩ (Nat.le_of_ble_eq_true rfl) (⟨Nat.le_of_ble_eq_true rfl, Nat.le_of_ble_eq_true rfl⟩) (fun v2 S1 H locs hp w => ?_)
  obtain ⟨rfl, rfl⟩ := hp
  refine lv_istore (lv' := [(4, .int (nI n)), (3, .ref (gG S 42 k)), (0, .ref (gG S 19 j)), (1, .ref (gG S 18 i)), (2, .null)]) hx hb dJ0_init_db425_13 hl (by decide) rfl (fun ls hl => ?_)
  refine lv_aload_n hx hb dJ0_init_db425_15 rfl (lv_at hl 3 rfl) ?_
  refine cU (S := S) (t := 18) (nA := 0) (As := []) (rest := []) X w hl hB.hv (m_J5_isLatin1_aae02 G S i _ _ _ hB) wY_J5_isLatin1_aae02 wM_J0_1047 wIn_J5_isLatin1_aae02 wZ_1307 (hts _ wSe_J4_J5_isLatin1_aae02) wI_J5 (by decide) rfl (by decide +kernel) rfl rfl dJ0_init_db425_16 ⟨Nat.le_of_ble_eq_true rfl, Nat.le_of_ble_eq_true rfl⟩ (Nat.le_of_ble_eq_true rfl) (⟨Nat.le_of_ble_eq_true rfl, Nat.le_of_ble_eq_true rfl⟩) (fun v3 S1 H locs hp w => ?_)
  obtain ⟨rfl, rfl⟩ := hp
  refine lv_if_eq (tgt := 41) hx hb dJ0_init_db425_19 (by decide) (fun hc4 => ?_) (fun hc4 => ?_)
  · exact absurd hc4 (by decide)
  · refine lv_aload_n hx hb dJ0_init_db425_22 rfl (lv_at hl 2 rfl) ?_
    refine lv_iconst (v := 0) hx hb dJ0_init_db425_23 (by decide) ?_
    refine p_19_1 (S := S) (x := 0) X w hin2 hj wF_J0_15 (rfl) dJ0_init_db425_24 (fun H locs w => ?_)
    refine lv_aload_n hx hb dJ0_init_db425_27 rfl (lv_at hl 2 rfl) ?_
    refine lv_aload_n hx hb dJ0_init_db425_28 rfl (lv_at hl 1 rfl) ?_
    refine lv_iconst (v := 0) hx hb dJ0_init_db425_29 (by decide) ?_
    refine lv_iload hx hb dJ0_init_db425_30 (lv_at hl 0 rfl) ?_
    refine rE2 ((rfl).trans ((rfl).trans (rfl)).symm) ?_
    refine cS (S := (sI S 305 j 0)) (nA := 3) (As := [.ref (gG (sI S 305 j 0) 42 k), .int 0, .int (nI n)]) (rest := [.ref (gG S 19 j)]) X w hl (m_J7_copyOfRange_39247 G (sI S 305 j 0) k n mm hB.ha hB.hf hB.hw (hB.hz _ (Nat.lt_succ_self _)) hB.hle hB.h2) wY_J7_copyOfRange_39247 wM_J0_54 wSt_J7_copyOfRange_39247 wI_J7 (by decide +kernel) rfl rfl dJ0_init_db425_32 ⟨by decide, by decide⟩ (Nat.le_of_ble_eq_true rfl) (⟨Nat.le_of_ble_eq_true rfl, Nat.le_of_ble_eq_true rfl⟩) (fun v5 S1 H locs hp w => ?_)
    obtain ⟨rfl, q8, f8, hf8, rfl⟩ := hp
    refine rE1 ((rfl).trans (((show gG (sA (sArr (sI S 305 j 0) 42 (k + 1) q8 n) 42 (k + 1) f8) 19 j = gG (sI S 305 j 0) 19 j from gA_n (fun z => by omega))).trans ((rfl).trans (rfl))).symm) ?_
    refine p_19_0 (S := (sA (sArr (sI S 305 j 0) 42 (k + 1) q8 n) 42 (k + 1) f8)) (x := (some (gG (sA (sArr (sI S 305 j 0) 42 (k + 1) q8 n) 42 (k + 1) f8) 42 (k + 1)))) X w hin2 (Or.inl hj) wF_J0_9 dJ0_init_db425_35 (fun H locs w => ?_)
    refine lv_goto (tgt := 97) hx hb dJ0_init_db425_38 (by decide) ?_
    exact rV X w rfl dJ0_init_db425_97 (Nat.le_of_ble_eq_true rfl) (Nat.le_of_ble_eq_true rfl) (⟨rfl, _, _, hf8, rfl⟩)

theorem dJ0_init_81219_0 : decode cJ0_init_81219 0 = .ok (.aload_n 0, 1) := by decide +kernel
theorem dJ0_init_81219_1 : decode cJ0_init_81219 1 = .ok (.aload_n 1, 1) := by decide +kernel
theorem dJ0_init_81219_2 : decode cJ0_init_81219 2 = .ok (.aconst_null, 1) := by decide +kernel
theorem dJ0_init_81219_3 : decode cJ0_init_81219 3 = .ok (.invokespecial 489, 3) := by decide +kernel
theorem dJ0_init_81219_6 : decode cJ0_init_81219 6 = .ok (.return_, 1) := by decide +kernel
abbrev rm_m_J0_init_81219 : Room := { frames := 4, cells := 1, slots := 200, locals := 113 }
set_option maxHeartbeats 4000000 in
set_option maxRecDepth 100000 in
theorem m_J0_init_81219 {s0 : State} {l : Launch} {D : va_G} {cy : Nat → ClassId} (G : Gl s0 l D cy) (S : HS) (i j k n mm : Nat) (hB : SB S i k n mm) (hj : vV S 19 j) : Ctr s0 l D cy yJ0_init_81219 cJ0_init_81219 2 none rm_m_J0_init_81219 S [.ref (gG S 19 j), .ref (gG S 18 i)] (fun v S' => none = v ∧ ∃ q f, sb_Fit f ∧ S' = mkS S j k n q f) := by
  refine pro "java/lang/String" G rfl rfl (Nat.le_of_ble_eq_true rfl) (fun p e s m below meth c ls X w hnm hl => ?_)
  have hx := X.1
  have hb := X.2.1
  have hown := X.2.2.2.1
  have hts := X.2.2.2.2.1
  have hin2 : meth.name = "<init>" := hnm
  have hl : lv_has ls 2 [(0, .ref (gG S 19 j)), (1, .ref (gG S 18 i))] := hl
  refine lv_aload_n hx hb dJ0_init_81219_0 rfl (lv_at hl 0 rfl) ?_
  refine lv_aload_n hx hb dJ0_init_81219_1 rfl (lv_at hl 1 rfl) ?_
  refine lv_null hx hb dJ0_init_81219_2 ?_
  refine cI (S := S) (nA := 2) (As := [.ref (gG S 18 i), .null]) (rest := []) X w hl (m_J0_init_db425 G S i j k n mm hB hj) wY_J0_init_db425 wM_J0_489 wIn_J0_init_db425 wI_J0 rfl (by decide +kernel) rfl rfl dJ0_init_81219_3 ⟨by decide, by decide⟩ (Nat.le_of_ble_eq_true rfl) (⟨Nat.le_of_ble_eq_true rfl, Nat.le_of_ble_eq_true rfl⟩) (fun v1 S1 H locs hp w => ?_)
  obtain ⟨rfl, q8, f8, hf8, rfl⟩ := hp
  exact rV X w rfl dJ0_init_81219_6 (Nat.le_of_ble_eq_true rfl) (Nat.le_of_ble_eq_true rfl) (⟨rfl, _, _, hf8, rfl⟩)

theorem dJ4_toString_0e30d_0 : decode cJ4_toString_0e30d 0 = .ok (.new 18, 3) := by decide +kernel
theorem dJ4_toString_0e30d_3 : decode cJ4_toString_0e30d 3 = .ok (.dup, 1) := by decide +kernel
theorem dJ4_toString_0e30d_4 : decode cJ4_toString_0e30d 4 = .ok (.aload_n 0, 1) := by decide +kernel
theorem dJ4_toString_0e30d_5 : decode cJ4_toString_0e30d 5 = .ok (.invokespecial 137, 3) := by decide +kernel
theorem dJ4_toString_0e30d_8 : decode cJ4_toString_0e30d 8 = .ok (.areturn, 1) := by decide +kernel
abbrev rm_m_J4_toString_0e30d : Room := { frames := 5, cells := 2, slots := 204, locals := 134 }
set_option maxHeartbeats 4000000 in
set_option maxRecDepth 100000 in
theorem m_J4_toString_0e30d {s0 : State} {l : Launch} {D : va_G} {cy : Nat → ClassId} (G : Gl s0 l D cy) (S : HS) (i j k n mm : Nat) (hB : SB S i k n mm) (hj : ¬ vV S 19 j) : Ctr s0 l D cy yJ4_toString_0e30d cJ4_toString_0e30d 1 (some (.object "java/lang/String")) rm_m_J4_toString_0e30d S [.ref (gG S 18 i)] (fun v S' => some (.ref (gG S' 19 j)) = v ∧ SA s0 S' (k + 2) (gG S' 19 j) n ∧ (∀ x, k + 2 ≤ x → ¬ vV S' 42 x) ∧ (∀ x, x ≠ j → vV S' 19 x = vV S 19 x) ∧ KT S S') := by
  refine pro "java/lang/StringBuilder" G rfl rfl (Nat.le_of_ble_eq_true rfl) (fun p e s m below meth c ls X w hnm hl => ?_)
  have hx := X.1
  have hb := X.2.1
  have hown := X.2.2.2.1
  have hts := X.2.2.2.2.1
  have hl : lv_has ls 1 [(0, .ref (gG S 18 i))] := hl
  refine nwO (S := S) (t := 19) (n := 4) X w j (hj) (Or.inl (by decide)) (by decide) rfl in_19 tyJ0 tyJ0_ok (by decide +kernel) wC_J4_18 wNew_J0 wI_J0 dJ4_toString_0e30d_0 rfl (Nat.le_of_ble_eq_true rfl) (Nat.le_of_ble_eq_true rfl) (fun qS S2 H hS2 w => ?_)
  subst hS2
  have hB1 : SB (sNew S 19 j qS) i k n mm := hB.new19 hj
  have hj1 : vV (sNew S 19 j qS) 19 j := Or.inr ⟨rfl, rfl⟩
  refine lv_dup hx hb dJ4_toString_0e30d_3 rfl ?_
  refine lv_aload_n hx hb dJ4_toString_0e30d_4 rfl (lv_at hl 0 rfl) ?_
  refine rE0 ((rfl).trans (((show gG (sNew S 19 j qS) 18 i = gG S 18 i from gNew_n (fun z => by omega))).trans (rfl)).symm) ?_
  refine cI (S := (sNew S 19 j qS)) (nA := 1) (As := [.ref (gG (sNew S 19 j qS) 18 i)]) (rest := [.ref (gG (sNew S 19 j qS) 19 j)]) X w hl (m_J0_init_81219 G (sNew S 19 j qS) i j k n mm hB1 hj1) wY_J0_init_81219 wM_J4_137 wIn_J0_init_81219 wI_J0 rfl (by decide +kernel) rfl rfl dJ4_toString_0e30d_5 ⟨by decide, by decide⟩ (Nat.le_of_ble_eq_true rfl) (⟨Nat.le_of_ble_eq_true rfl, Nat.le_of_ble_eq_true rfl⟩) (fun v1 S1 H locs hp w => ?_)
  obtain ⟨rfl, q8, f8, hf8, rfl⟩ := hp
  rw [show gG (sNew S 19 j qS) 19 j = gG (mkS (sNew S 19 j qS) j k n q8 f8) 19 j from (show gG (mkS (sNew S 19 j qS) j k n q8 f8) 19 j = gG (sNew S 19 j qS) 19 j from gMk_n (fun z => by omega)).symm]
  exact rA (v := some (gG (mkS (sNew S 19 j qS) j k n q8 f8) 19 j)) X w rfl (Or.inl ⟨_, rfl⟩) dJ4_toString_0e30d_8 (Nat.le_of_ble_eq_true rfl) (Nat.le_of_ble_eq_true rfl) ⟨rfl, mkS_of hB hf8⟩

