def rHold (v lo hi : Int32) : Int32 := if v < lo then lo else if hi < v then hi else v
def rSort (w : Int32) : Int32 := if 8 ≤ w then 3 else if 5 ≤ w then 2 else if 3 ≤ w then 1 else 0
def rCaught (w q : Int32) : Int32 := w * q / 18
def rLen (wt w q : Int32) : Int32 := if rSort wt = 3 then sMin 20 (rCaught w q) else if rSort wt = 2 then rCaught w q else if rSort wt = 1 then rCaught w q / 4 else 0
def rHeard (f q : Int32) : Int32 := f &&& (((1 : Int32) <<< (sMin 16 q &&& 31)) - 1)
def rGuess (f q : Int32) : Int32 := if q ≤ 14 ∧ sIn f q = true then q + 1 else -1
def rAll (f q : Int32) : Int32 := rHeard f q ||| (if rGuess f q = -1 then 0 else (1 : Int32) <<< (rGuess f q &&& 31))
def rWrong (st pr f q : Int32) : Bool := decide (st = 1) && (decide (pr ≠ -1) && ((decide (rGuess f q ≠ -1) && !(sIn pr (rGuess f q))) || decide ((pr &&& (rAll f q ^^^ (-1))) ≠ 0)))
/-- the number of the talk's station, its hour, as numbers -/
def tS (S : HS) (j : Nat) : Nat := (mI S 240 j).toNatClampNeg
def tH (S : HS) (j : Nat) : Nat := (mI S 241 j).toNatClampNeg
theorem RI.tSx {ea : Nat} {S : HS} {ns nj nm nt nr nq : Nat} (h : RI ea S ns nj nm nt nr nq) (j : Nat) (hj : j < nt) : tS S j < ns ∧ mI S 240 j = nI (tS S j) := by
  obtain ⟨g, h1, h2⟩ := h.x_ts j hj
  have hb := h.b_st
  have e : tS S j = g := by unfold tS; rw [h2]; exact nI_clamp (by omega)
  rw [e]; exact ⟨h1, h2⟩
theorem RI.tHx {ea : Nat} {S : HS} {ns nj nm nt nr nq : Nat} (h : RI ea S ns nj nm nt nr nq) (j : Nat) (hj : j < nt) : tH S j < 720 ∧ mI S 241 j = nI (tH S j) := by
  obtain ⟨g, h1, h2⟩ := h.x_th j hj
  have e : tH S j = g := by unfold tH; rw [h2]; exact nI_clamp (by omega)
  rw [e]; exact ⟨h1, h2⟩

theorem dX15_sort_0 : decode cX15_sort 0 = .ok (.aload_n 0, 1) := by decide +kernel
theorem dX15_sort_1 : decode cX15_sort 1 = .ok (.getfield 33, 3) := by decide +kernel
theorem dX15_sort_4 : decode cX15_sort 4 = .ok (.bipush 8, 2) := by decide +kernel
theorem dX15_sort_6 : decode cX15_sort 6 = .ok (.if_icmp .lt 7, 3) := by decide +kernel
theorem dX15_sort_9 : decode cX15_sort 9 = .ok (.iconst 3, 1) := by decide +kernel
theorem dX15_sort_10 : decode cX15_sort 10 = .ok (.goto 28, 3) := by decide +kernel
theorem dX15_sort_13 : decode cX15_sort 13 = .ok (.aload_n 0, 1) := by decide +kernel
theorem dX15_sort_14 : decode cX15_sort 14 = .ok (.getfield 33, 3) := by decide +kernel
theorem dX15_sort_17 : decode cX15_sort 17 = .ok (.iconst 5, 1) := by decide +kernel
theorem dX15_sort_18 : decode cX15_sort 18 = .ok (.if_icmp .lt 7, 3) := by decide +kernel
theorem dX15_sort_21 : decode cX15_sort 21 = .ok (.iconst 2, 1) := by decide +kernel
theorem dX15_sort_22 : decode cX15_sort 22 = .ok (.goto 16, 3) := by decide +kernel
theorem dX15_sort_25 : decode cX15_sort 25 = .ok (.aload_n 0, 1) := by decide +kernel
theorem dX15_sort_26 : decode cX15_sort 26 = .ok (.getfield 33, 3) := by decide +kernel
theorem dX15_sort_29 : decode cX15_sort 29 = .ok (.iconst 3, 1) := by decide +kernel
theorem dX15_sort_30 : decode cX15_sort 30 = .ok (.if_icmp .lt 7, 3) := by decide +kernel
theorem dX15_sort_33 : decode cX15_sort 33 = .ok (.iconst 1, 1) := by decide +kernel
theorem dX15_sort_34 : decode cX15_sort 34 = .ok (.goto 4, 3) := by decide +kernel
theorem dX15_sort_37 : decode cX15_sort 37 = .ok (.iconst 0, 1) := by decide +kernel
theorem dX15_sort_38 : decode cX15_sort 38 = .ok (.ireturn, 1) := by decide +kernel
abbrev rm_m_X15_sort : Room := { frames := 0, cells := 0, slots := 0, locals := 0 }
set_option maxHeartbeats 4000000 in
set_option maxRecDepth 100000 in
theorem m_X15_sort {s0 : State} {l : Launch} {D : va_G} {cy : Nat → ClassId} (G : Gl s0 l D cy) (S : HS) (j : Nat) (hV : vV S 15 j) : Ctr s0 l D cy yX15_sort cX15_sort 1 (some .int) rm_m_X15_sort S [.ref (gG S 15 j)] (PU S (some (.int (rSort (mI S 244 j))))) := by
  refine pro "CavershamShiftModel$Talk" G rfl rfl (Nat.le_of_ble_eq_true rfl) (fun p e s m below meth c ls X w hnm hl => ?_)
  have hx := X.1
  have hb := X.2.1
  have hown := X.2.2.2.1
  have hts := X.2.2.2.2.1
  have hl : lv_has ls 1 [(0, .ref (gG S 15 j))] := hl
  refine lv_aload_n hx hb dX15_sort_0 rfl (lv_at hl 0 rfl) ?_
  refine g_15_4 (S := S) (x := (mI S 244 j)) X w hV wF_X15_33 (rfl) dX15_sort_1 ?_
  refine lv_bipush (v := 8) hx hb dX15_sort_4 (by decide) ?_
  refine lv_icmp_lt (tgt := 13) hx hb dX15_sort_6 (by decide) (fun hc1 => ?_) (fun hc1 => ?_)
  · refine lv_aload_n hx hb dX15_sort_13 rfl (lv_at hl 0 rfl) ?_
    refine g_15_4 (S := S) (x := (mI S 244 j)) X w hV wF_X15_33 (rfl) dX15_sort_14 ?_
    refine lv_iconst (v := 5) hx hb dX15_sort_17 (by decide) ?_
    refine lv_icmp_lt (tgt := 25) hx hb dX15_sort_18 (by decide) (fun hc2 => ?_) (fun hc2 => ?_)
    · refine lv_aload_n hx hb dX15_sort_25 rfl (lv_at hl 0 rfl) ?_
      refine g_15_4 (S := S) (x := (mI S 244 j)) X w hV wF_X15_33 (rfl) dX15_sort_26 ?_
      refine lv_iconst (v := 3) hx hb dX15_sort_29 (by decide) ?_
      refine lv_icmp_lt (tgt := 37) hx hb dX15_sort_30 (by decide) (fun hc3 => ?_) (fun hc3 => ?_)
      · refine lv_iconst (v := 0) hx hb dX15_sort_37 (by decide) ?_
        exact rI X w rfl dX15_sort_38 (by decide) (by decide) (pu_i (by simp_all [rSort, ← Int32.not_le]))
      · refine lv_iconst (v := 1) hx hb dX15_sort_33 (by decide) ?_
        refine lv_goto (tgt := 38) hx hb dX15_sort_34 (by decide) ?_
        exact rI X w rfl dX15_sort_38 (by decide) (by decide) (pu_i (by simp_all [rSort, ← Int32.not_le]))
    · refine lv_iconst (v := 2) hx hb dX15_sort_21 (by decide) ?_
      refine lv_goto (tgt := 38) hx hb dX15_sort_22 (by decide) ?_
      exact rI X w rfl dX15_sort_38 (by decide) (by decide) (pu_i (by simp_all [rSort, ← Int32.not_le]))
  · refine lv_iconst (v := 3) hx hb dX15_sort_9 (by decide) ?_
    refine lv_goto (tgt := 38) hx hb dX15_sort_10 (by decide) ?_
    exact rI X w rfl dX15_sort_38 (by decide) (by decide) (pu_i (by simp_all [rSort, ← Int32.not_le]))

theorem dX15_caught_0 : decode cX15_caught 0 = .ok (.aload_n 0, 1) := by decide +kernel
theorem dX15_caught_1 : decode cX15_caught 1 = .ok (.getfield 30, 3) := by decide +kernel
theorem dX15_caught_4 : decode cX15_caught 4 = .ok (.aload_n 0, 1) := by decide +kernel
theorem dX15_caught_5 : decode cX15_caught 5 = .ok (.getfield 39, 3) := by decide +kernel
theorem dX15_caught_8 : decode cX15_caught 8 = .ok (.imul, 1) := by decide +kernel
theorem dX15_caught_9 : decode cX15_caught 9 = .ok (.bipush 18, 2) := by decide +kernel
theorem dX15_caught_11 : decode cX15_caught 11 = .ok (.idiv, 1) := by decide +kernel
theorem dX15_caught_12 : decode cX15_caught 12 = .ok (.ireturn, 1) := by decide +kernel
abbrev rm_m_X15_caught : Room := { frames := 0, cells := 0, slots := 0, locals := 0 }
set_option maxHeartbeats 4000000 in
set_option maxRecDepth 100000 in
theorem m_X15_caught {s0 : State} {l : Launch} {D : va_G} {cy : Nat → ClassId} (G : Gl s0 l D cy) (S : HS) (j : Nat) (hV : vV S 15 j) : Ctr s0 l D cy yX15_caught cX15_caught 1 (some .int) rm_m_X15_caught S [.ref (gG S 15 j)] (PU S (some (.int (rCaught (mI S 243 j) (mI S 248 j))))) := by
  refine pro "CavershamShiftModel$Talk" G rfl rfl (Nat.le_of_ble_eq_true rfl) (fun p e s m below meth c ls X w hnm hl => ?_)
  have hx := X.1
  have hb := X.2.1
  have hown := X.2.2.2.1
  have hts := X.2.2.2.2.1
  have hl : lv_has ls 1 [(0, .ref (gG S 15 j))] := hl
  refine lv_aload_n hx hb dX15_caught_0 rfl (lv_at hl 0 rfl) ?_
  refine g_15_3 (S := S) (x := (mI S 243 j)) X w hV wF_X15_30 (rfl) dX15_caught_1 ?_
  refine lv_aload_n hx hb dX15_caught_4 rfl (lv_at hl 0 rfl) ?_
  refine g_15_8 (S := S) (x := (mI S 248 j)) X w hV wF_X15_39 (rfl) dX15_caught_5 ?_
  refine lv_imul hx hb dX15_caught_8 ?_
  refine lv_bipush (v := 18) hx hb dX15_caught_9 (by decide) ?_
  refine lv_idiv hx hb dX15_caught_11 (by decide) ?_
  exact rI X w rfl dX15_caught_12 (by decide) (by decide) (pu_i rfl)

theorem dX15_length_0 : decode cX15_length 0 = .ok (.aload_n 0, 1) := by decide +kernel
theorem dX15_length_1 : decode cX15_length 1 = .ok (.invokevirtual 42, 3) := by decide +kernel
theorem dX15_length_4 : decode cX15_length 4 = .ok (.iconst 3, 1) := by decide +kernel
theorem dX15_length_5 : decode cX15_length 5 = .ok (.if_icmp .ne 15, 3) := by decide +kernel
theorem dX15_length_8 : decode cX15_length 8 = .ok (.bipush 20, 2) := by decide +kernel
theorem dX15_length_10 : decode cX15_length 10 = .ok (.aload_n 0, 1) := by decide +kernel
theorem dX15_length_11 : decode cX15_length 11 = .ok (.invokevirtual 46, 3) := by decide +kernel
theorem dX15_length_14 : decode cX15_length 14 = .ok (.invokestatic 49, 3) := by decide +kernel
theorem dX15_length_17 : decode cX15_length 17 = .ok (.goto 36, 3) := by decide +kernel
theorem dX15_length_20 : decode cX15_length 20 = .ok (.aload_n 0, 1) := by decide +kernel
theorem dX15_length_21 : decode cX15_length 21 = .ok (.invokevirtual 42, 3) := by decide +kernel
theorem dX15_length_24 : decode cX15_length 24 = .ok (.iconst 2, 1) := by decide +kernel
theorem dX15_length_25 : decode cX15_length 25 = .ok (.if_icmp .ne 10, 3) := by decide +kernel
theorem dX15_length_28 : decode cX15_length 28 = .ok (.aload_n 0, 1) := by decide +kernel
theorem dX15_length_29 : decode cX15_length 29 = .ok (.invokevirtual 46, 3) := by decide +kernel
theorem dX15_length_32 : decode cX15_length 32 = .ok (.goto 21, 3) := by decide +kernel
theorem dX15_length_35 : decode cX15_length 35 = .ok (.aload_n 0, 1) := by decide +kernel
theorem dX15_length_36 : decode cX15_length 36 = .ok (.invokevirtual 42, 3) := by decide +kernel
theorem dX15_length_39 : decode cX15_length 39 = .ok (.iconst 1, 1) := by decide +kernel
theorem dX15_length_40 : decode cX15_length 40 = .ok (.if_icmp .ne 12, 3) := by decide +kernel
theorem dX15_length_43 : decode cX15_length 43 = .ok (.aload_n 0, 1) := by decide +kernel
theorem dX15_length_44 : decode cX15_length 44 = .ok (.invokevirtual 46, 3) := by decide +kernel
theorem dX15_length_47 : decode cX15_length 47 = .ok (.iconst 4, 1) := by decide +kernel
theorem dX15_length_48 : decode cX15_length 48 = .ok (.idiv, 1) := by decide +kernel
theorem dX15_length_49 : decode cX15_length 49 = .ok (.goto 4, 3) := by decide +kernel
theorem dX15_length_52 : decode cX15_length 52 = .ok (.iconst 0, 1) := by decide +kernel
theorem dX15_length_53 : decode cX15_length 53 = .ok (.ireturn, 1) := by decide +kernel
abbrev rm_m_X15_length : Room := { frames := 1, cells := 0, slots := 0, locals := 21 }
set_option maxHeartbeats 4000000 in
set_option maxRecDepth 100000 in
theorem m_X15_length {s0 : State} {l : Launch} {D : va_G} {cy : Nat → ClassId} (G : Gl s0 l D cy) (S : HS) (j : Nat) (hV : vV S 15 j) : Ctr s0 l D cy yX15_length cX15_length 1 (some .int) rm_m_X15_length S [.ref (gG S 15 j)] (PU S (some (.int (rLen (mI S 244 j) (mI S 243 j) (mI S 248 j))))) := by
  refine pro "CavershamShiftModel$Talk" G rfl rfl (Nat.le_of_ble_eq_true rfl) (fun p e s m below meth c ls X w hnm hl => ?_)
  have hx := X.1
  have hb := X.2.1
  have hown := X.2.2.2.1
  have hts := X.2.2.2.2.1
  have hl : lv_has ls 1 [(0, .ref (gG S 15 j))] := hl
  refine lv_aload_n hx hb dX15_length_0 rfl (lv_at hl 0 rfl) ?_
  refine cV (S := S) (nA := 0) (As := []) (rest := []) X w hl hV (m_X15_sort G S j hV) wY_X15_sort wM_X15_42 wIn_X15_sort wSe_X15_X15_sort wI_X15 (by decide) rfl (by decide +kernel) rfl rfl dX15_length_1 ⟨by decide, by decide⟩ (Nat.le_of_ble_eq_true rfl) (⟨Nat.le_of_ble_eq_true rfl, Nat.le_of_ble_eq_true rfl⟩) (fun v1 S1 H locs hp w => ?_)
  obtain ⟨rfl, rfl⟩ := hp
  refine lv_iconst (v := 3) hx hb dX15_length_4 (by decide) ?_
  refine lv_icmp_ne (tgt := 20) hx hb dX15_length_5 (by decide) (fun hc2 => ?_) (fun hc2 => ?_)
  · refine lv_aload_n hx hb dX15_length_20 rfl (lv_at hl 0 rfl) ?_
    refine cV (S := S) (nA := 0) (As := []) (rest := []) X w hl hV (m_X15_sort G S j hV) wY_X15_sort wM_X15_42 wIn_X15_sort wSe_X15_X15_sort wI_X15 (by decide) rfl (by decide +kernel) rfl rfl dX15_length_21 ⟨by decide, by decide⟩ (Nat.le_of_ble_eq_true rfl) (⟨Nat.le_of_ble_eq_true rfl, Nat.le_of_ble_eq_true rfl⟩) (fun v3 S1 H locs hp w => ?_)
    obtain ⟨rfl, rfl⟩ := hp
    refine lv_iconst (v := 2) hx hb dX15_length_24 (by decide) ?_
    refine lv_icmp_ne (tgt := 35) hx hb dX15_length_25 (by decide) (fun hc4 => ?_) (fun hc4 => ?_)
    · refine lv_aload_n hx hb dX15_length_35 rfl (lv_at hl 0 rfl) ?_
      refine cV (S := S) (nA := 0) (As := []) (rest := []) X w hl hV (m_X15_sort G S j hV) wY_X15_sort wM_X15_42 wIn_X15_sort wSe_X15_X15_sort wI_X15 (by decide) rfl (by decide +kernel) rfl rfl dX15_length_36 ⟨by decide, by decide⟩ (Nat.le_of_ble_eq_true rfl) (⟨Nat.le_of_ble_eq_true rfl, Nat.le_of_ble_eq_true rfl⟩) (fun v5 S1 H locs hp w => ?_)
      obtain ⟨rfl, rfl⟩ := hp
      refine lv_iconst (v := 1) hx hb dX15_length_39 (by decide) ?_
      refine lv_icmp_ne (tgt := 52) hx hb dX15_length_40 (by decide) (fun hc6 => ?_) (fun hc6 => ?_)
      · refine lv_iconst (v := 0) hx hb dX15_length_52 (by decide) ?_
        exact rI X w rfl dX15_length_53 (by decide) (by decide) (pu_i (by simp_all [rLen, sMin]))
      · refine lv_aload_n hx hb dX15_length_43 rfl (lv_at hl 0 rfl) ?_
        refine cV (S := S) (nA := 0) (As := []) (rest := []) X w hl hV (m_X15_caught G S j hV) wY_X15_caught wM_X15_46 wIn_X15_caught wSe_X15_X15_caught wI_X15 (by decide) rfl (by decide +kernel) rfl rfl dX15_length_44 ⟨by decide, by decide⟩ (Nat.le_of_ble_eq_true rfl) (⟨Nat.le_of_ble_eq_true rfl, Nat.le_of_ble_eq_true rfl⟩) (fun v7 S1 H locs hp w => ?_)
        obtain ⟨rfl, rfl⟩ := hp
        refine lv_iconst (v := 4) hx hb dX15_length_47 (by decide) ?_
        refine lv_idiv hx hb dX15_length_48 (by decide) ?_
        refine lv_goto (tgt := 53) hx hb dX15_length_49 (by decide) ?_
        exact rI X w rfl dX15_length_53 (by decide) (by decide) (pu_i (by simp_all [rLen, sMin]))
    · refine lv_aload_n hx hb dX15_length_28 rfl (lv_at hl 0 rfl) ?_
      refine cV (S := S) (nA := 0) (As := []) (rest := []) X w hl hV (m_X15_caught G S j hV) wY_X15_caught wM_X15_46 wIn_X15_caught wSe_X15_X15_caught wI_X15 (by decide) rfl (by decide +kernel) rfl rfl dX15_length_29 ⟨by decide, by decide⟩ (Nat.le_of_ble_eq_true rfl) (⟨Nat.le_of_ble_eq_true rfl, Nat.le_of_ble_eq_true rfl⟩) (fun v8 S1 H locs hp w => ?_)
      obtain ⟨rfl, rfl⟩ := hp
      refine lv_goto (tgt := 53) hx hb dX15_length_32 (by decide) ?_
      exact rI X w rfl dX15_length_53 (by decide) (by decide) (pu_i (by simp_all [rLen, sMin]))
  · refine lv_bipush (v := 20) hx hb dX15_length_8 (by decide) ?_
    refine lv_aload_n hx hb dX15_length_10 rfl (lv_at hl 0 rfl) ?_
    refine cV (S := S) (nA := 0) (As := []) (rest := [.int 20]) X w hl hV (m_X15_caught G S j hV) wY_X15_caught wM_X15_46 wIn_X15_caught wSe_X15_X15_caught wI_X15 (by decide) rfl (by decide +kernel) rfl rfl dX15_length_11 ⟨by decide, by decide⟩ (Nat.le_of_ble_eq_true rfl) (⟨Nat.le_of_ble_eq_true rfl, Nat.le_of_ble_eq_true rfl⟩) (fun v9 S1 H locs hp w => ?_)
    obtain ⟨rfl, rfl⟩ := hp
    refine va_mmin hx hb (X.2.2.1.trans hl.1.symm) hown (hts _ wM_X15_49) (hts _ wSt_J9_min_7cf53) (hts _ wI_J9) (hts _ wY_J9_min_7cf53) (by decide) (Nat.le_of_ble_eq_true rfl) (Nat.le_of_ble_eq_true rfl) (Nat.le_of_ble_eq_true rfl) dX15_length_14 ?_
    refine lv_goto (tgt := 53) hx hb dX15_length_17 (by decide) ?_
    exact rI X w rfl dX15_length_53 (by decide) (by decide) (pu_i (by simp_all [rLen, sMin]))

theorem dX15_heard_0 : decode cX15_heard 0 = .ok (.aload_n 0, 1) := by decide +kernel
theorem dX15_heard_1 : decode cX15_heard 1 = .ok (.getfield 36, 3) := by decide +kernel
theorem dX15_heard_4 : decode cX15_heard 4 = .ok (.iconst 1, 1) := by decide +kernel
theorem dX15_heard_5 : decode cX15_heard 5 = .ok (.bipush 16, 2) := by decide +kernel
theorem dX15_heard_7 : decode cX15_heard 7 = .ok (.aload_n 0, 1) := by decide +kernel
theorem dX15_heard_8 : decode cX15_heard 8 = .ok (.getfield 39, 3) := by decide +kernel
theorem dX15_heard_11 : decode cX15_heard 11 = .ok (.invokestatic 49, 3) := by decide +kernel
theorem dX15_heard_14 : decode cX15_heard 14 = .ok (.ishl, 1) := by decide +kernel
theorem dX15_heard_15 : decode cX15_heard 15 = .ok (.iconst 1, 1) := by decide +kernel
theorem dX15_heard_16 : decode cX15_heard 16 = .ok (.isub, 1) := by decide +kernel
theorem dX15_heard_17 : decode cX15_heard 17 = .ok (.iand, 1) := by decide +kernel
theorem dX15_heard_18 : decode cX15_heard 18 = .ok (.ireturn, 1) := by decide +kernel
abbrev rm_m_X15_heard : Room := { frames := 1, cells := 0, slots := 0, locals := 21 }
set_option maxHeartbeats 4000000 in
set_option maxRecDepth 100000 in
theorem m_X15_heard {s0 : State} {l : Launch} {D : va_G} {cy : Nat → ClassId} (G : Gl s0 l D cy) (S : HS) (j : Nat) (hV : vV S 15 j) : Ctr s0 l D cy yX15_heard cX15_heard 1 (some .int) rm_m_X15_heard S [.ref (gG S 15 j)] (PU S (some (.int (rHeard (mI S 245 j) (mI S 248 j))))) := by
  refine pro "CavershamShiftModel$Talk" G rfl rfl (Nat.le_of_ble_eq_true rfl) (fun p e s m below meth c ls X w hnm hl => ?_)
  have hx := X.1
  have hb := X.2.1
  have hown := X.2.2.2.1
  have hts := X.2.2.2.2.1
  have hl : lv_has ls 1 [(0, .ref (gG S 15 j))] := hl
  refine lv_aload_n hx hb dX15_heard_0 rfl (lv_at hl 0 rfl) ?_
  refine g_15_5 (S := S) (x := (mI S 245 j)) X w hV wF_X15_36 (rfl) dX15_heard_1 ?_
  refine lv_iconst (v := 1) hx hb dX15_heard_4 (by decide) ?_
  refine lv_bipush (v := 16) hx hb dX15_heard_5 (by decide) ?_
  refine lv_aload_n hx hb dX15_heard_7 rfl (lv_at hl 0 rfl) ?_
  refine g_15_8 (S := S) (x := (mI S 248 j)) X w hV wF_X15_39 (rfl) dX15_heard_8 ?_
  refine va_mmin hx hb (X.2.2.1.trans hl.1.symm) hown (hts _ wM_X15_49) (hts _ wSt_J9_min_7cf53) (hts _ wI_J9) (hts _ wY_J9_min_7cf53) (by decide) (Nat.le_of_ble_eq_true rfl) (Nat.le_of_ble_eq_true rfl) (Nat.le_of_ble_eq_true rfl) dX15_heard_11 ?_
  refine lv_ishl hx hb dX15_heard_14 ?_
  refine lv_iconst (v := 1) hx hb dX15_heard_15 (by decide) ?_
  refine lv_isub hx hb dX15_heard_16 ?_
  refine lv_iand hx hb dX15_heard_17 ?_
  exact rI X w rfl dX15_heard_18 (by decide) (by decide) (pu_i rfl)

theorem dX15_guessed_0 : decode cX15_guessed 0 = .ok (.aload_n 0, 1) := by decide +kernel
theorem dX15_guessed_1 : decode cX15_guessed 1 = .ok (.getfield 39, 3) := by decide +kernel
theorem dX15_guessed_4 : decode cX15_guessed 4 = .ok (.bipush 14, 2) := by decide +kernel
theorem dX15_guessed_6 : decode cX15_guessed 6 = .ok (.if_icmp .gt 26, 3) := by decide +kernel
theorem dX15_guessed_9 : decode cX15_guessed 9 = .ok (.aload_n 0, 1) := by decide +kernel
theorem dX15_guessed_10 : decode cX15_guessed 10 = .ok (.getfield 36, 3) := by decide +kernel
theorem dX15_guessed_13 : decode cX15_guessed 13 = .ok (.aload_n 0, 1) := by decide +kernel
theorem dX15_guessed_14 : decode cX15_guessed 14 = .ok (.getfield 39, 3) := by decide +kernel
theorem dX15_guessed_17 : decode cX15_guessed 17 = .ok (.invokestatic 55, 3) := by decide +kernel
theorem dX15_guessed_20 : decode cX15_guessed 20 = .ok (.ifCond .eq 12, 3) := by decide +kernel
theorem dX15_guessed_23 : decode cX15_guessed 23 = .ok (.aload_n 0, 1) := by decide +kernel
theorem dX15_guessed_24 : decode cX15_guessed 24 = .ok (.getfield 39, 3) := by decide +kernel
theorem dX15_guessed_27 : decode cX15_guessed 27 = .ok (.iconst 1, 1) := by decide +kernel
theorem dX15_guessed_28 : decode cX15_guessed 28 = .ok (.iadd, 1) := by decide +kernel
theorem dX15_guessed_29 : decode cX15_guessed 29 = .ok (.goto 4, 3) := by decide +kernel
theorem dX15_guessed_32 : decode cX15_guessed 32 = .ok (.iconst (-1), 1) := by decide +kernel
theorem dX15_guessed_33 : decode cX15_guessed 33 = .ok (.ireturn, 1) := by decide +kernel
abbrev rm_m_X15_guessed : Room := { frames := 1, cells := 0, slots := 0, locals := 21 }
set_option maxHeartbeats 4000000 in
set_option maxRecDepth 100000 in
theorem m_X15_guessed {s0 : State} {l : Launch} {D : va_G} {cy : Nat → ClassId} (G : Gl s0 l D cy) (S : HS) (j : Nat) (hV : vV S 15 j) : Ctr s0 l D cy yX15_guessed cX15_guessed 1 (some .int) rm_m_X15_guessed S [.ref (gG S 15 j)] (PU S (some (.int (rGuess (mI S 245 j) (mI S 248 j))))) := by
  refine pro "CavershamShiftModel$Talk" G rfl rfl (Nat.le_of_ble_eq_true rfl) (fun p e s m below meth c ls X w hnm hl => ?_)
  have hx := X.1
  have hb := X.2.1
  have hown := X.2.2.2.1
  have hts := X.2.2.2.2.1
  have hl : lv_has ls 1 [(0, .ref (gG S 15 j))] := hl
  refine lv_aload_n hx hb dX15_guessed_0 rfl (lv_at hl 0 rfl) ?_
  refine g_15_8 (S := S) (x := (mI S 248 j)) X w hV wF_X15_39 (rfl) dX15_guessed_1 ?_
  refine lv_bipush (v := 14) hx hb dX15_guessed_4 (by decide) ?_
  refine lv_icmp_gt (tgt := 32) hx hb dX15_guessed_6 (by decide) (fun hc1 => ?_) (fun hc1 => ?_)
  · refine lv_iconst (v := (-1)) hx hb dX15_guessed_32 (by decide) ?_
    exact rI X w rfl dX15_guessed_33 (by decide) (by decide) (pu_i (by simp_all [rGuess, b2i, ← Int32.not_le]))
  · refine lv_aload_n hx hb dX15_guessed_9 rfl (lv_at hl 0 rfl) ?_
    refine g_15_5 (S := S) (x := (mI S 245 j)) X w hV wF_X15_36 (rfl) dX15_guessed_10 ?_
    refine lv_aload_n hx hb dX15_guessed_13 rfl (lv_at hl 0 rfl) ?_
    refine g_15_8 (S := S) (x := (mI S 248 j)) X w hV wF_X15_39 (rfl) dX15_guessed_14 ?_
    refine cSN (S := S) (nA := 2) (As := [.int (mI S 245 j), .int (mI S 248 j)]) (rest := []) X w hl (m_X16_has G S (mI S 245 j) (mI S 248 j)) wY_X16_has wMN_X15_55 wSt_X16_has wI_X16 (by decide +kernel) rfl rfl dX15_guessed_17 ⟨by decide, by decide⟩ (Nat.le_of_ble_eq_true rfl) (⟨Nat.le_of_ble_eq_true rfl, Nat.le_of_ble_eq_true rfl⟩) (fun v2 S1 H locs hp w => ?_)
    obtain ⟨rfl, rfl⟩ := hp
    refine lv_if_eq (tgt := 32) hx hb dX15_guessed_20 (by decide) (fun hc3 => ?_) (fun hc3 => ?_)
    · refine lv_iconst (v := (-1)) hx hb dX15_guessed_32 (by decide) ?_
      exact rI X w rfl dX15_guessed_33 (by decide) (by decide) (pu_i (by simp_all [rGuess, b2i, ← Int32.not_le]))
    · refine lv_aload_n hx hb dX15_guessed_23 rfl (lv_at hl 0 rfl) ?_
      refine g_15_8 (S := S) (x := (mI S 248 j)) X w hV wF_X15_39 (rfl) dX15_guessed_24 ?_
      refine lv_iconst (v := 1) hx hb dX15_guessed_27 (by decide) ?_
      refine lv_iadd hx hb dX15_guessed_28 ?_
      refine lv_goto (tgt := 33) hx hb dX15_guessed_29 (by decide) ?_
      exact rI X w rfl dX15_guessed_33 (by decide) (by decide) (pu_i (by simp_all [rGuess, b2i, ← Int32.not_le]))

theorem dX15_all_0 : decode cX15_all 0 = .ok (.aload_n 0, 1) := by decide +kernel
theorem dX15_all_1 : decode cX15_all 1 = .ok (.invokevirtual 59, 3) := by decide +kernel
theorem dX15_all_4 : decode cX15_all 4 = .ok (.aload_n 0, 1) := by decide +kernel
theorem dX15_all_5 : decode cX15_all 5 = .ok (.invokevirtual 62, 3) := by decide +kernel
theorem dX15_all_8 : decode cX15_all 8 = .ok (.iconst (-1), 1) := by decide +kernel
theorem dX15_all_9 : decode cX15_all 9 = .ok (.if_icmp .ne 7, 3) := by decide +kernel
theorem dX15_all_12 : decode cX15_all 12 = .ok (.iconst 0, 1) := by decide +kernel
theorem dX15_all_13 : decode cX15_all 13 = .ok (.goto 9, 3) := by decide +kernel
theorem dX15_all_16 : decode cX15_all 16 = .ok (.iconst 1, 1) := by decide +kernel
theorem dX15_all_17 : decode cX15_all 17 = .ok (.aload_n 0, 1) := by decide +kernel
theorem dX15_all_18 : decode cX15_all 18 = .ok (.invokevirtual 62, 3) := by decide +kernel
theorem dX15_all_21 : decode cX15_all 21 = .ok (.ishl, 1) := by decide +kernel
theorem dX15_all_22 : decode cX15_all 22 = .ok (.ior, 1) := by decide +kernel
theorem dX15_all_23 : decode cX15_all 23 = .ok (.ireturn, 1) := by decide +kernel
abbrev rm_m_X15_all : Room := { frames := 2, cells := 0, slots := 0, locals := 41 }
set_option maxHeartbeats 4000000 in
set_option maxRecDepth 100000 in
theorem m_X15_all {s0 : State} {l : Launch} {D : va_G} {cy : Nat → ClassId} (G : Gl s0 l D cy) (S : HS) (j : Nat) (hV : vV S 15 j) : Ctr s0 l D cy yX15_all cX15_all 1 (some .int) rm_m_X15_all S [.ref (gG S 15 j)] (PU S (some (.int (rAll (mI S 245 j) (mI S 248 j))))) := by
  refine pro "CavershamShiftModel$Talk" G rfl rfl (Nat.le_of_ble_eq_true rfl) (fun p e s m below meth c ls X w hnm hl => ?_)
  have hx := X.1
  have hb := X.2.1
  have hown := X.2.2.2.1
  have hts := X.2.2.2.2.1
  have hl : lv_has ls 1 [(0, .ref (gG S 15 j))] := hl
  refine lv_aload_n hx hb dX15_all_0 rfl (lv_at hl 0 rfl) ?_
  refine cV (S := S) (nA := 0) (As := []) (rest := []) X w hl hV (m_X15_heard G S j hV) wY_X15_heard wM_X15_59 wIn_X15_heard wSe_X15_X15_heard wI_X15 (by decide) rfl (by decide +kernel) rfl rfl dX15_all_1 ⟨by decide, by decide⟩ (Nat.le_of_ble_eq_true rfl) (⟨Nat.le_of_ble_eq_true rfl, Nat.le_of_ble_eq_true rfl⟩) (fun v1 S1 H locs hp w => ?_)
  obtain ⟨rfl, rfl⟩ := hp
  refine lv_aload_n hx hb dX15_all_4 rfl (lv_at hl 0 rfl) ?_
  refine cV (S := S) (nA := 0) (As := []) (rest := [.int (rHeard (mI S 245 j) (mI S 248 j))]) X w hl hV (m_X15_guessed G S j hV) wY_X15_guessed wM_X15_62 wIn_X15_guessed wSe_X15_X15_guessed wI_X15 (by decide) rfl (by decide +kernel) rfl rfl dX15_all_5 ⟨by decide, by decide⟩ (Nat.le_of_ble_eq_true rfl) (⟨Nat.le_of_ble_eq_true rfl, Nat.le_of_ble_eq_true rfl⟩) (fun v2 S1 H locs hp w => ?_)
  obtain ⟨rfl, rfl⟩ := hp
  refine lv_iconst (v := (-1)) hx hb dX15_all_8 (by decide) ?_
  refine lv_icmp_ne (tgt := 16) hx hb dX15_all_9 (by decide) (fun hc3 => ?_) (fun hc3 => ?_)
  · refine lv_iconst (v := 1) hx hb dX15_all_16 (by decide) ?_
    refine lv_aload_n hx hb dX15_all_17 rfl (lv_at hl 0 rfl) ?_
    refine cV (S := S) (nA := 0) (As := []) (rest := [.int 1, .int (rHeard (mI S 245 j) (mI S 248 j))]) X w hl hV (m_X15_guessed G S j hV) wY_X15_guessed wM_X15_62 wIn_X15_guessed wSe_X15_X15_guessed wI_X15 (by decide) rfl (by decide +kernel) rfl rfl dX15_all_18 ⟨by decide, by decide⟩ (Nat.le_of_ble_eq_true rfl) (⟨Nat.le_of_ble_eq_true rfl, Nat.le_of_ble_eq_true rfl⟩) (fun v4 S1 H locs hp w => ?_)
    obtain ⟨rfl, rfl⟩ := hp
    refine lv_ishl hx hb dX15_all_21 ?_
    refine lv_ior hx hb dX15_all_22 ?_
    exact rI X w rfl dX15_all_23 (by decide) (by decide) (pu_i (by simp_all [rAll]))
  · refine lv_iconst (v := 0) hx hb dX15_all_12 (by decide) ?_
    refine lv_goto (tgt := 22) hx hb dX15_all_13 (by decide) ?_
    refine lv_ior hx hb dX15_all_22 ?_
    exact rI X w rfl dX15_all_23 (by decide) (by decide) (pu_i (by simp_all [rAll]))

theorem dX15_isReported_0 : decode cX15_isReported 0 = .ok (.aload_n 0, 1) := by decide +kernel
theorem dX15_isReported_1 : decode cX15_isReported 1 = .ok (.getfield 15, 3) := by decide +kernel
theorem dX15_isReported_4 : decode cX15_isReported 4 = .ok (.iconst (-1), 1) := by decide +kernel
theorem dX15_isReported_5 : decode cX15_isReported 5 = .ok (.if_icmp .eq 7, 3) := by decide +kernel
theorem dX15_isReported_8 : decode cX15_isReported 8 = .ok (.iconst 1, 1) := by decide +kernel
theorem dX15_isReported_9 : decode cX15_isReported 9 = .ok (.goto 4, 3) := by decide +kernel
theorem dX15_isReported_12 : decode cX15_isReported 12 = .ok (.iconst 0, 1) := by decide +kernel
theorem dX15_isReported_13 : decode cX15_isReported 13 = .ok (.ireturn, 1) := by decide +kernel
abbrev rm_m_X15_isReported : Room := { frames := 0, cells := 0, slots := 0, locals := 0 }
set_option maxHeartbeats 4000000 in
set_option maxRecDepth 100000 in
theorem m_X15_isReported {s0 : State} {l : Launch} {D : va_G} {cy : Nat → ClassId} (G : Gl s0 l D cy) (S : HS) (j : Nat) (hV : vV S 15 j) : Ctr s0 l D cy yX15_isReported cX15_isReported 1 (some .boolean) rm_m_X15_isReported S [.ref (gG S 15 j)] (PU S (some (.int (b2i (decide (mI S 247 j ≠ -1)))))) := by
  refine pro "CavershamShiftModel$Talk" G rfl rfl (Nat.le_of_ble_eq_true rfl) (fun p e s m below meth c ls X w hnm hl => ?_)
  have hx := X.1
  have hb := X.2.1
  have hown := X.2.2.2.1
  have hts := X.2.2.2.2.1
  have hl : lv_has ls 1 [(0, .ref (gG S 15 j))] := hl
  refine lv_aload_n hx hb dX15_isReported_0 rfl (lv_at hl 0 rfl) ?_
  refine g_15_7 (S := S) (x := (mI S 247 j)) X w hV wF_X15_15 (rfl) dX15_isReported_1 ?_
  refine lv_iconst (v := (-1)) hx hb dX15_isReported_4 (by decide) ?_
  refine lv_icmp_eq (tgt := 12) hx hb dX15_isReported_5 (by decide) (fun hc1 => ?_) (fun hc1 => ?_)
  · refine lv_iconst (v := 0) hx hb dX15_isReported_12 (by decide) ?_
    exact rZ X w rfl dX15_isReported_13 (by decide) (by decide) (by decide) (pu_i (by simp_all [b2i]))
  · refine lv_iconst (v := 1) hx hb dX15_isReported_8 (by decide) ?_
    refine lv_goto (tgt := 13) hx hb dX15_isReported_9 (by decide) ?_
    exact rZ X w rfl dX15_isReported_13 (by decide) (by decide) (by decide) (pu_i (by simp_all [b2i]))

theorem dX15_isWrong_0 : decode cX15_isWrong 0 = .ok (.aload_n 0, 1) := by decide +kernel
theorem dX15_isWrong_1 : decode cX15_isWrong 1 = .ok (.getfield 15, 3) := by decide +kernel
theorem dX15_isWrong_4 : decode cX15_isWrong 4 = .ok (.iconst 1, 1) := by decide +kernel
theorem dX15_isWrong_5 : decode cX15_isWrong 5 = .ok (.if_icmp .ne 51, 3) := by decide +kernel
theorem dX15_isWrong_8 : decode cX15_isWrong 8 = .ok (.aload_n 0, 1) := by decide +kernel
theorem dX15_isWrong_9 : decode cX15_isWrong 9 = .ok (.getfield 9, 3) := by decide +kernel
theorem dX15_isWrong_12 : decode cX15_isWrong 12 = .ok (.iconst (-1), 1) := by decide +kernel
theorem dX15_isWrong_13 : decode cX15_isWrong 13 = .ok (.if_icmp .eq 43, 3) := by decide +kernel
theorem dX15_isWrong_16 : decode cX15_isWrong 16 = .ok (.aload_n 0, 1) := by decide +kernel
theorem dX15_isWrong_17 : decode cX15_isWrong 17 = .ok (.invokevirtual 62, 3) := by decide +kernel
theorem dX15_isWrong_20 : decode cX15_isWrong 20 = .ok (.iconst (-1), 1) := by decide +kernel
theorem dX15_isWrong_21 : decode cX15_isWrong 21 = .ok (.if_icmp .eq 17, 3) := by decide +kernel
theorem dX15_isWrong_24 : decode cX15_isWrong 24 = .ok (.aload_n 0, 1) := by decide +kernel
theorem dX15_isWrong_25 : decode cX15_isWrong 25 = .ok (.getfield 9, 3) := by decide +kernel
theorem dX15_isWrong_28 : decode cX15_isWrong 28 = .ok (.aload_n 0, 1) := by decide +kernel
theorem dX15_isWrong_29 : decode cX15_isWrong 29 = .ok (.invokevirtual 62, 3) := by decide +kernel
theorem dX15_isWrong_32 : decode cX15_isWrong 32 = .ok (.invokestatic 55, 3) := by decide +kernel
theorem dX15_isWrong_35 : decode cX15_isWrong 35 = .ok (.ifCond .eq 17, 3) := by decide +kernel
theorem dX15_isWrong_38 : decode cX15_isWrong 38 = .ok (.aload_n 0, 1) := by decide +kernel
theorem dX15_isWrong_39 : decode cX15_isWrong 39 = .ok (.getfield 9, 3) := by decide +kernel
theorem dX15_isWrong_42 : decode cX15_isWrong 42 = .ok (.aload_n 0, 1) := by decide +kernel
theorem dX15_isWrong_43 : decode cX15_isWrong 43 = .ok (.invokevirtual 65, 3) := by decide +kernel
theorem dX15_isWrong_46 : decode cX15_isWrong 46 = .ok (.iconst (-1), 1) := by decide +kernel
theorem dX15_isWrong_47 : decode cX15_isWrong 47 = .ok (.ixor, 1) := by decide +kernel
theorem dX15_isWrong_48 : decode cX15_isWrong 48 = .ok (.iand, 1) := by decide +kernel
theorem dX15_isWrong_49 : decode cX15_isWrong 49 = .ok (.ifCond .eq 7, 3) := by decide +kernel
theorem dX15_isWrong_52 : decode cX15_isWrong 52 = .ok (.iconst 1, 1) := by decide +kernel
theorem dX15_isWrong_53 : decode cX15_isWrong 53 = .ok (.goto 4, 3) := by decide +kernel
theorem dX15_isWrong_56 : decode cX15_isWrong 56 = .ok (.iconst 0, 1) := by decide +kernel
theorem dX15_isWrong_57 : decode cX15_isWrong 57 = .ok (.ireturn, 1) := by decide +kernel
abbrev rm_m_X15_isWrong : Room := { frames := 3, cells := 0, slots := 0, locals := 61 }
set_option maxHeartbeats 4000000 in
set_option maxRecDepth 100000 in
theorem m_X15_isWrong {s0 : State} {l : Launch} {D : va_G} {cy : Nat → ClassId} (G : Gl s0 l D cy) (S : HS) (j : Nat) (hV : vV S 15 j) : Ctr s0 l D cy yX15_isWrong cX15_isWrong 1 (some .boolean) rm_m_X15_isWrong S [.ref (gG S 15 j)] (PU S (some (.int (b2i (rWrong (mI S 247 j) (mI S 246 j) (mI S 245 j) (mI S 248 j)))))) := by
  refine pro "CavershamShiftModel$Talk" G rfl rfl (Nat.le_of_ble_eq_true rfl) (fun p e s m below meth c ls X w hnm hl => ?_)
  have hx := X.1
  have hb := X.2.1
  have hown := X.2.2.2.1
  have hts := X.2.2.2.2.1
  have hl : lv_has ls 1 [(0, .ref (gG S 15 j))] := hl
  refine lv_aload_n hx hb dX15_isWrong_0 rfl (lv_at hl 0 rfl) ?_
  refine g_15_7 (S := S) (x := (mI S 247 j)) X w hV wF_X15_15 (rfl) dX15_isWrong_1 ?_
  refine lv_iconst (v := 1) hx hb dX15_isWrong_4 (by decide) ?_
  refine lv_icmp_ne (tgt := 56) hx hb dX15_isWrong_5 (by decide) (fun hc1 => ?_) (fun hc1 => ?_)
  · refine lv_iconst (v := 0) hx hb dX15_isWrong_56 (by decide) ?_
    exact rZ X w rfl dX15_isWrong_57 (by decide) (by decide) (by decide) (pu_i (by simp_all [rWrong, b2i]))
  · refine lv_aload_n hx hb dX15_isWrong_8 rfl (lv_at hl 0 rfl) ?_
    refine g_15_6 (S := S) (x := (mI S 246 j)) X w hV wF_X15_9 (rfl) dX15_isWrong_9 ?_
    refine lv_iconst (v := (-1)) hx hb dX15_isWrong_12 (by decide) ?_
    refine lv_icmp_eq (tgt := 56) hx hb dX15_isWrong_13 (by decide) (fun hc2 => ?_) (fun hc2 => ?_)
    · refine lv_iconst (v := 0) hx hb dX15_isWrong_56 (by decide) ?_
      exact rZ X w rfl dX15_isWrong_57 (by decide) (by decide) (by decide) (pu_i (by simp_all [rWrong, b2i]))
    · refine lv_aload_n hx hb dX15_isWrong_16 rfl (lv_at hl 0 rfl) ?_
      refine cV (S := S) (nA := 0) (As := []) (rest := []) X w hl hV (m_X15_guessed G S j hV) wY_X15_guessed wM_X15_62 wIn_X15_guessed wSe_X15_X15_guessed wI_X15 (by decide) rfl (by decide +kernel) rfl rfl dX15_isWrong_17 ⟨by decide, by decide⟩ (Nat.le_of_ble_eq_true rfl) (⟨Nat.le_of_ble_eq_true rfl, Nat.le_of_ble_eq_true rfl⟩) (fun v3 S1 H locs hp w => ?_)
      obtain ⟨rfl, rfl⟩ := hp
      refine lv_iconst (v := (-1)) hx hb dX15_isWrong_20 (by decide) ?_
      refine lv_icmp_eq (tgt := 38) hx hb dX15_isWrong_21 (by decide) (fun hc4 => ?_) (fun hc4 => ?_)
      · refine lv_aload_n hx hb dX15_isWrong_38 rfl (lv_at hl 0 rfl) ?_
        refine g_15_6 (S := S) (x := (mI S 246 j)) X w hV wF_X15_9 (rfl) dX15_isWrong_39 ?_
        refine lv_aload_n hx hb dX15_isWrong_42 rfl (lv_at hl 0 rfl) ?_
        refine cV (S := S) (nA := 0) (As := []) (rest := [.int (mI S 246 j)]) X w hl hV (m_X15_all G S j hV) wY_X15_all wM_X15_65 wIn_X15_all wSe_X15_X15_all wI_X15 (by decide) rfl (by decide +kernel) rfl rfl dX15_isWrong_43 ⟨by decide, by decide⟩ (Nat.le_of_ble_eq_true rfl) (⟨Nat.le_of_ble_eq_true rfl, Nat.le_of_ble_eq_true rfl⟩) (fun v5 S1 H locs hp w => ?_)
        obtain ⟨rfl, rfl⟩ := hp
        refine lv_iconst (v := (-1)) hx hb dX15_isWrong_46 (by decide) ?_
        refine lv_ixor hx hb dX15_isWrong_47 ?_
        refine lv_iand hx hb dX15_isWrong_48 ?_
        refine lv_if_eq (tgt := 56) hx hb dX15_isWrong_49 (by decide) (fun hc6 => ?_) (fun hc6 => ?_)
        · refine lv_iconst (v := 0) hx hb dX15_isWrong_56 (by decide) ?_
          exact rZ X w rfl dX15_isWrong_57 (by decide) (by decide) (by decide) (pu_i (by simp_all [rWrong, b2i]))
        · refine lv_iconst (v := 1) hx hb dX15_isWrong_52 (by decide) ?_
          refine lv_goto (tgt := 57) hx hb dX15_isWrong_53 (by decide) ?_
          exact rZ X w rfl dX15_isWrong_57 (by decide) (by decide) (by decide) (pu_i (by simp_all [rWrong, b2i]))
      · refine lv_aload_n hx hb dX15_isWrong_24 rfl (lv_at hl 0 rfl) ?_
        refine g_15_6 (S := S) (x := (mI S 246 j)) X w hV wF_X15_9 (rfl) dX15_isWrong_25 ?_
        refine lv_aload_n hx hb dX15_isWrong_28 rfl (lv_at hl 0 rfl) ?_
        refine cV (S := S) (nA := 0) (As := []) (rest := [.int (mI S 246 j)]) X w hl hV (m_X15_guessed G S j hV) wY_X15_guessed wM_X15_62 wIn_X15_guessed wSe_X15_X15_guessed wI_X15 (by decide) rfl (by decide +kernel) rfl rfl dX15_isWrong_29 ⟨by decide, by decide⟩ (Nat.le_of_ble_eq_true rfl) (⟨Nat.le_of_ble_eq_true rfl, Nat.le_of_ble_eq_true rfl⟩) (fun v7 S1 H locs hp w => ?_)
        obtain ⟨rfl, rfl⟩ := hp
        refine cSN (S := S) (nA := 2) (As := [.int (mI S 246 j), .int (rGuess (mI S 245 j) (mI S 248 j))]) (rest := []) X w hl (m_X16_has G S (mI S 246 j) (rGuess (mI S 245 j) (mI S 248 j))) wY_X16_has wMN_X15_55 wSt_X16_has wI_X16 (by decide +kernel) rfl rfl dX15_isWrong_32 ⟨by decide, by decide⟩ (Nat.le_of_ble_eq_true rfl) (⟨Nat.le_of_ble_eq_true rfl, Nat.le_of_ble_eq_true rfl⟩) (fun v8 S1 H locs hp w => ?_)
        obtain ⟨rfl, rfl⟩ := hp
        refine lv_if_eq (tgt := 52) hx hb dX15_isWrong_35 (by decide) (fun hc9 => ?_) (fun hc9 => ?_)
        · refine lv_iconst (v := 1) hx hb dX15_isWrong_52 (by decide) ?_
          refine lv_goto (tgt := 57) hx hb dX15_isWrong_53 (by decide) ?_
          exact rZ X w rfl dX15_isWrong_57 (by decide) (by decide) (by decide) (pu_i (by simp_all [rWrong, b2i]))
        · refine lv_aload_n hx hb dX15_isWrong_38 rfl (lv_at hl 0 rfl) ?_
          refine g_15_6 (S := S) (x := (mI S 246 j)) X w hV wF_X15_9 (rfl) dX15_isWrong_39 ?_
          refine lv_aload_n hx hb dX15_isWrong_42 rfl (lv_at hl 0 rfl) ?_
          refine cV (S := S) (nA := 0) (As := []) (rest := [.int (mI S 246 j)]) X w hl hV (m_X15_all G S j hV) wY_X15_all wM_X15_65 wIn_X15_all wSe_X15_X15_all wI_X15 (by decide) rfl (by decide +kernel) rfl rfl dX15_isWrong_43 ⟨by decide, by decide⟩ (Nat.le_of_ble_eq_true rfl) (⟨Nat.le_of_ble_eq_true rfl, Nat.le_of_ble_eq_true rfl⟩) (fun v10 S1 H locs hp w => ?_)
          obtain ⟨rfl, rfl⟩ := hp
          refine lv_iconst (v := (-1)) hx hb dX15_isWrong_46 (by decide) ?_
          refine lv_ixor hx hb dX15_isWrong_47 ?_
          refine lv_iand hx hb dX15_isWrong_48 ?_
          refine lv_if_eq (tgt := 56) hx hb dX15_isWrong_49 (by decide) (fun hc11 => ?_) (fun hc11 => ?_)
          · refine lv_iconst (v := 0) hx hb dX15_isWrong_56 (by decide) ?_
            exact rZ X w rfl dX15_isWrong_57 (by decide) (by decide) (by decide) (pu_i (by simp_all [rWrong, b2i]))
          · refine lv_iconst (v := 1) hx hb dX15_isWrong_52 (by decide) ?_
            refine lv_goto (tgt := 57) hx hb dX15_isWrong_53 (by decide) ?_
            exact rZ X w rfl dX15_isWrong_57 (by decide) (by decide) (by decide) (pu_i (by simp_all [rWrong, b2i]))

