def rUsedP (S : HS) (land fo fr to_ : Int32) (k : Nat) : Bool := decide (mI S 247 k ≠ -1) && (decide (mI S 226 (tS S k) = land) && (!(sOut (mI S 241 k / 24) fr to_) && (decide (fo = -1) || sIn (rHeard (mI S 245 k) (mI S 248 k)) fo)))
def rUsed (S : HS) (nt : Nat) (land fo fr to_ : Int32) : Int32 := rCnt (rUsedP S land fo fr to_) nt
def rGoneC (S : HS) (nt : Nat) (land : Int32) (k : Nat) : Bool := decide (3 ≤ rUsed S nt land (nI k) (mI S 257 0 / 24 - 9) (mI S 257 0 / 24 - 3)) && (decide (rUsed S nt land (nI k) (mI S 257 0 / 24 - 2) (mI S 257 0 / 24) = 0) && decide (2 ≤ rUsed S nt land (-1) (mI S 257 0 / 24 - 2) (mI S 257 0 / 24)))
def rGone (S : HS) (nt : Nat) (land : Int32) : Nat → Int32
  | 0 => 0
  | k + 1 => rGone S nt land k ||| (if rGoneC S nt land k = true then (1 : Int32) <<< (nI k &&& 31) else 0)
def rFirst (S : HS) (topic : Int32) : Nat → Int32
  | 0 => -1
  | k + 1 => if mI S 247 k = 1 ∧ mI S 242 k = topic ∧ (rFirst S topic k = -1 ∨ mI S 252 k < mI S 252 (rFirst S topic k).toNatClampNeg) then nI k else rFirst S topic k
theorem rFirst_in {S : HS} {topic : Int32} : ∀ k : Nat, rFirst S topic k = -1 ∨ ∃ b, b < k ∧ rFirst S topic k = nI b
  | 0 => Or.inl rfl
  | k + 1 => by
    by_cases h : mI S 247 k = 1 ∧ mI S 242 k = topic ∧ (rFirst S topic k = -1 ∨ mI S 252 k < mI S 252 (rFirst S topic k).toNatClampNeg)
    · exact Or.inr ⟨k, Nat.lt_succ_self k, if_pos h⟩
    · have e : rFirst S topic (k + 1) = rFirst S topic k := if_neg h
      rw [e]
      exact (rFirst_in k).imp id (fun ⟨b, h1, h2⟩ => ⟨b, Nat.lt_succ_of_lt h1, h2⟩)

theorem dX16_usedNow_0 : decode cX16_usedNow 0 = .ok (.iconst 0, 1) := by decide +kernel
theorem dX16_usedNow_1 : decode cX16_usedNow 1 = .ok (.istore 5, 2) := by decide +kernel
theorem dX16_usedNow_3 : decode cX16_usedNow 3 = .ok (.iconst 0, 1) := by decide +kernel
theorem dX16_usedNow_4 : decode cX16_usedNow 4 = .ok (.istore 6, 2) := by decide +kernel
theorem dX16_usedNow_6 : decode cX16_usedNow 6 = .ok (.iload 6, 2) := by decide +kernel
theorem dX16_usedNow_8 : decode cX16_usedNow 8 = .ok (.aload_n 0, 1) := by decide +kernel
theorem dX16_usedNow_9 : decode cX16_usedNow 9 = .ok (.getfield 26, 3) := by decide +kernel
theorem dX16_usedNow_12 : decode cX16_usedNow 12 = .ok (.invokeinterface 73 1, 5) := by decide +kernel
theorem dX16_usedNow_17 : decode cX16_usedNow 17 = .ok (.if_icmp .ge 87, 3) := by decide +kernel
theorem dX16_usedNow_20 : decode cX16_usedNow 20 = .ok (.aload_n 0, 1) := by decide +kernel
theorem dX16_usedNow_21 : decode cX16_usedNow 21 = .ok (.getfield 26, 3) := by decide +kernel
theorem dX16_usedNow_24 : decode cX16_usedNow 24 = .ok (.iload 6, 2) := by decide +kernel
theorem dX16_usedNow_26 : decode cX16_usedNow 26 = .ok (.invokeinterface 46 2, 5) := by decide +kernel
theorem dX16_usedNow_31 : decode cX16_usedNow 31 = .ok (.checkcast 105, 3) := by decide +kernel
theorem dX16_usedNow_34 : decode cX16_usedNow 34 = .ok (.astore 7, 2) := by decide +kernel
theorem dX16_usedNow_36 : decode cX16_usedNow 36 = .ok (.iload 5, 2) := by decide +kernel
theorem dX16_usedNow_38 : decode cX16_usedNow 38 = .ok (.aload 7, 2) := by decide +kernel
theorem dX16_usedNow_40 : decode cX16_usedNow 40 = .ok (.invokevirtual 252, 3) := by decide +kernel
theorem dX16_usedNow_43 : decode cX16_usedNow 43 = .ok (.ifCond .eq 51, 3) := by decide +kernel
theorem dX16_usedNow_46 : decode cX16_usedNow 46 = .ok (.aload_n 0, 1) := by decide +kernel
theorem dX16_usedNow_47 : decode cX16_usedNow 47 = .ok (.aload 7, 2) := by decide +kernel
theorem dX16_usedNow_49 : decode cX16_usedNow 49 = .ok (.invokevirtual 141, 3) := by decide +kernel
theorem dX16_usedNow_52 : decode cX16_usedNow 52 = .ok (.iload_n 1, 1) := by decide +kernel
theorem dX16_usedNow_53 : decode cX16_usedNow 53 = .ok (.if_icmp .ne 41, 3) := by decide +kernel
theorem dX16_usedNow_56 : decode cX16_usedNow 56 = .ok (.aload 7, 2) := by decide +kernel
theorem dX16_usedNow_58 : decode cX16_usedNow 58 = .ok (.getfield 112, 3) := by decide +kernel
theorem dX16_usedNow_61 : decode cX16_usedNow 61 = .ok (.bipush 24, 2) := by decide +kernel
theorem dX16_usedNow_63 : decode cX16_usedNow 63 = .ok (.idiv, 1) := by decide +kernel
theorem dX16_usedNow_64 : decode cX16_usedNow 64 = .ok (.iload_n 3, 1) := by decide +kernel
theorem dX16_usedNow_65 : decode cX16_usedNow 65 = .ok (.iload 4, 2) := by decide +kernel
theorem dX16_usedNow_67 : decode cX16_usedNow 67 = .ok (.invokestatic 224, 3) := by decide +kernel
theorem dX16_usedNow_70 : decode cX16_usedNow 70 = .ok (.ifCond .eq 24, 3) := by decide +kernel
theorem dX16_usedNow_73 : decode cX16_usedNow 73 = .ok (.iload_n 2, 1) := by decide +kernel
theorem dX16_usedNow_74 : decode cX16_usedNow 74 = .ok (.iconst (-1), 1) := by decide +kernel
theorem dX16_usedNow_75 : decode cX16_usedNow 75 = .ok (.if_icmp .eq 15, 3) := by decide +kernel
theorem dX16_usedNow_78 : decode cX16_usedNow 78 = .ok (.aload 7, 2) := by decide +kernel
theorem dX16_usedNow_80 : decode cX16_usedNow 80 = .ok (.invokevirtual 285, 3) := by decide +kernel
theorem dX16_usedNow_83 : decode cX16_usedNow 83 = .ok (.iload_n 2, 1) := by decide +kernel
theorem dX16_usedNow_84 : decode cX16_usedNow 84 = .ok (.invokestatic 57, 3) := by decide +kernel
theorem dX16_usedNow_87 : decode cX16_usedNow 87 = .ok (.ifCond .eq 7, 3) := by decide +kernel
theorem dX16_usedNow_90 : decode cX16_usedNow 90 = .ok (.iconst 1, 1) := by decide +kernel
theorem dX16_usedNow_91 : decode cX16_usedNow 91 = .ok (.goto 4, 3) := by decide +kernel
theorem dX16_usedNow_94 : decode cX16_usedNow 94 = .ok (.iconst 0, 1) := by decide +kernel
theorem dX16_usedNow_95 : decode cX16_usedNow 95 = .ok (.iadd, 1) := by decide +kernel
theorem dX16_usedNow_96 : decode cX16_usedNow 96 = .ok (.istore 5, 2) := by decide +kernel
theorem dX16_usedNow_98 : decode cX16_usedNow 98 = .ok (.iinc 6 1, 3) := by decide +kernel
theorem dX16_usedNow_101 : decode cX16_usedNow 101 = .ok (.goto (-95), 3) := by decide +kernel
theorem dX16_usedNow_104 : decode cX16_usedNow 104 = .ok (.iload 5, 2) := by decide +kernel
theorem dX16_usedNow_106 : decode cX16_usedNow 106 = .ok (.ireturn, 1) := by decide +kernel
abbrev rm_m_X16_usedNow : Room := { frames := 4, cells := 0, slots := 0, locals := 85 }
set_option maxHeartbeats 4000000 in
set_option maxRecDepth 100000 in
theorem m_X16_usedNow {s0 : State} {l : Launch} {D : va_G} {cy : Nat → ClassId} (G : Gl s0 l D cy) (S : HS) (ea ns nj nm nt nr nq : Nat) (h : RI ea S ns nj nm nt nr nq) (land fo fr to_ : Int32) : Ctr s0 l D cy yX16_usedNow cX16_usedNow 8 (some .int) rm_m_X16_usedNow S [.ref (gG S 16 0), .int land, .int fo, .int fr, .int to_] (PU S (some (.int (rUsed S nt land fo fr to_)))) := by
  refine pro "CavershamShiftModel" G rfl rfl (Nat.le_of_ble_eq_true rfl) (fun p e s m below meth c ls X w hnm hl => ?_)
  have hx := X.1
  have hb := X.2.1
  have hown := X.2.2.2.1
  have hts := X.2.2.2.2.1
  have hl : lv_has ls 8 [(0, .ref (gG S 16 0)), (1, .int land), (2, .int fo), (3, .int fr), (4, .int to_)] := hl
  refine lv_iconst (v := 0) hx hb dX16_usedNow_0 (by decide) ?_
  refine lv_istore (lv' := [(5, .int 0), (0, .ref (gG S 16 0)), (1, .int land), (2, .int fo), (3, .int fr), (4, .int to_)]) hx hb dX16_usedNow_1 hl (by decide) rfl (fun ls hl => ?_)
  refine lv_iconst (v := 0) hx hb dX16_usedNow_3 (by decide) ?_
  refine lv_istore (lv' := [(6, .int 0), (5, .int 0), (0, .ref (gG S 16 0)), (1, .int land), (2, .int fo), (3, .int fr), (4, .int to_)]) hx hb dX16_usedNow_4 hl (by decide) rfl (fun ls hl => ?_)
  have L6 : ∀ (N : Nat) (k : Nat) (x : Int32) (H : Heap) (locs : List Loc) (ls : Array Slot), nt - k < N → (k ≤ nt) → (x = rCnt (rUsedP S land fo fr to_) k) → Wd s0 D cy S s.heap H locs → lv_has ls 8 [(0, .ref (gG S 16 0)), (1, .int land), (2, .int fo), (3, .int fr), (4, .int to_), (5, .int x), (6, .int (nI k))] → W p l e rm_m_X16_usedNow s m ([.ref (gG S 16 0), .int land, .int fo, .int fr, .int to_] : List Value).toArray below meth c H locs 0 0 (MQ below (GQ s0 D cy (PU S (some (.int (rUsed S nt land fo fr to_))))) ([.ref (gG S 16 0), .int land, .int fo, .int fr, .int to_] : List Value).toArray s rm_m_X16_usedNow.cells rm_m_X16_usedNow.slots (A0 s0)) (F0 m 6 ls []) := by
    intro N
    induction N with
    | zero => intros; omega
    | succ N ih6 =>
      intro k x H locs ls hmu hk hx1 w hl
      refine lv_iload hx hb dX16_usedNow_6 (lv_at hl 6 rfl) ?_
      refine lv_aload_n hx hb dX16_usedNow_8 rfl (lv_at hl 0 rfl) ?_
      refine g_16_9 (S := S) (x := (some (gG S 17 9))) X w h.v wF_X16_26 (h.f_ta) dX16_usedNow_9 ?_
      refine cF (S := S) (t := 17) (nA := 0) (As := []) (rest := [.int (nI k)]) X w hl h.l_ta.1 (m_size G S ea 9 nt h.l_ta) wY_Jx4a65c_size_8abf5 wM_X16_73 wIn_Jx4a65c_size_8abf5 wSe_Jx4a65c_Jx4a65c_size_8abf5_of_java_util_List_size___I wI_Jx4a65c fw_size (by decide) rfl (by decide +kernel) rfl rfl dX16_usedNow_12 ⟨by decide, by decide⟩ (Nat.le_of_ble_eq_true rfl) (⟨Nat.le_of_ble_eq_true rfl, Nat.le_of_ble_eq_true rfl⟩) (fun v1 S1 H locs hp w => ?_)
      obtain ⟨rfl, rfl⟩ := hp
      refine lv_icmp_ge (tgt := 104) hx hb dX16_usedNow_17 (by decide) (fun hc9 => ?_) (fun hc9 => ?_)
      · have hge : nt ≤ k := by
          have hb1 := h.b_ta
          exact (nI_leI (by omega) (by omega)).mp hc9
        refine lv_iload hx hb dX16_usedNow_104 (lv_at hl 5 rfl) ?_
        exact rI X w rfl dX16_usedNow_106 (by decide) (by decide) (pu_i (by rw [hx1, show k = nt by omega]; rfl))
      · have hlt : k < nt := by
          have hb1 := h.b_ta
          exact Nat.lt_of_not_le (fun z => hc9 ((nI_leI (by omega) (by omega)).mpr z))
        refine lv_aload_n hx hb dX16_usedNow_20 rfl (lv_at hl 0 rfl) ?_
        refine g_16_9 (S := S) (x := (some (gG S 17 9))) X w h.v wF_X16_26 (h.f_ta) dX16_usedNow_21 ?_
        refine lv_iload hx hb dX16_usedNow_24 (lv_at hl 6 rfl) ?_
        refine cF (S := S) (t := 17) (nA := 1) (As := [.int (nI k)]) (rest := []) X w hl h.l_ta.1 (m_get G S ea 9 k nt (some (gG S 15 k)) h.l_ta hlt (h.e_ta k hlt).1) wY_Jx4a65c_get_915e3 wM_X16_46 wIn_Jx4a65c_get_915e3 wSe_Jx4a65c_Jx4a65c_get_915e3_of_java_util_List_get__I_Ljava_lang_Object_ wI_Jx4a65c fw_get (by decide) rfl (by decide +kernel) rfl rfl dX16_usedNow_26 ⟨by decide, by decide⟩ (Nat.le_of_ble_eq_true rfl) (⟨Nat.le_of_ble_eq_true rfl, Nat.le_of_ble_eq_true rfl⟩) (fun v2 S1 H locs hp w => ?_)
        obtain ⟨rfl, rfl⟩ := hp
        refine ckC (S := S) (t := 15) X w (h.e_ta k hlt).2 (by decide) rfl wC_X16_105 dX16_usedNow_31 ?_
        refine lv_astore (lv' := [(7, .ref (gG S 15 k)), (0, .ref (gG S 16 0)), (1, .int land), (2, .int fo), (3, .int fr), (4, .int to_), (5, .int x), (6, .int (nI k))]) hx hb dX16_usedNow_34 hl (by decide) rfl (fun ls hl => ?_)
        refine lv_iload hx hb dX16_usedNow_36 (lv_at hl 6 rfl) ?_
        refine lv_aload hx hb dX16_usedNow_38 (lv_at hl 0 rfl) ?_
        refine cV (S := S) (nA := 0) (As := []) (rest := [.int x]) X w hl (h.e_ta k hlt).2 (m_X15_isReported G S k (h.e_ta k hlt).2) wY_X15_isReported wM_X16_252 wIn_X15_isReported wSe_X15_X15_isReported wI_X15 (by decide) rfl (by decide +kernel) rfl rfl dX16_usedNow_40 ⟨by decide, by decide⟩ (Nat.le_of_ble_eq_true rfl) (⟨Nat.le_of_ble_eq_true rfl, Nat.le_of_ble_eq_true rfl⟩) (fun v3 S1 H locs hp w => ?_)
        obtain ⟨rfl, rfl⟩ := hp
        refine lv_if_eq (tgt := 94) hx hb dX16_usedNow_43 (by decide) (fun ha => ?_) (fun ha => ?_)
        · have hx2 : x + 0 = rCnt (rUsedP S land fo fr to_) (k + 1) := cnt_s0 (rUsedP S land fo fr to_) hx1 (by unfold rUsedP; rw [b2i_f ha]; rfl)
          refine lv_iconst (v := 0) hx hb dX16_usedNow_94 (by decide) ?_
          refine lv_iadd hx hb dX16_usedNow_95 ?_
          refine lv_istore (lv' := [(5, .int (x + 0)), (7, .ref (gG S 15 k)), (0, .ref (gG S 16 0)), (1, .int land), (2, .int fo), (3, .int fr), (4, .int to_), (6, .int (nI k))]) hx hb dX16_usedNow_96 hl (by decide) rfl (fun ls hl => ?_)
          refine lv_iinc (v := nI (k + 1)) (lv' := [(6, .int (nI (k + 1))), (5, .int (x + 0)), (7, .ref (gG S 15 k)), (0, .ref (gG S 16 0)), (1, .int land), (2, .int fo), (3, .int fr), (4, .int to_)]) hx hb dX16_usedNow_98 hl (k := 7) rfl (nI_1 _) (by decide) rfl (fun ls hl => ?_)
          refine lv_goto (tgt := 6) hx hb dX16_usedNow_101 (by decide) ?_
          exact ih6 (k + 1) (x + 0) _ _ _ (by omega) (by omega) (hx2) w (lv_sub hl [3, 4, 5, 6, 7, 1, 0] rfl)
        · refine lv_aload_n hx hb dX16_usedNow_46 rfl (lv_at hl 1 rfl) ?_
          refine lv_aload hx hb dX16_usedNow_47 (lv_at hl 0 rfl) ?_
          refine cV (S := S) (nA := 1) (As := [.ref (gG S 15 k)]) (rest := [.int x]) X w hl h.v (m_X16_landOf G S ea ns nj nm nt nr nq h k hlt) wY_X16_landOf wM_X16_141 wIn_X16_landOf wSe_X16_X16_landOf wI_X16 (by decide) rfl (by decide +kernel) rfl rfl dX16_usedNow_49 ⟨by decide, by decide⟩ (Nat.le_of_ble_eq_true rfl) (⟨Nat.le_of_ble_eq_true rfl, Nat.le_of_ble_eq_true rfl⟩) (fun v4 S1 H locs hp w => ?_)
          obtain ⟨rfl, rfl⟩ := hp
          refine lv_iload_n hx hb dX16_usedNow_52 rfl (lv_at hl 2 rfl) ?_
          refine lv_icmp_ne (tgt := 94) hx hb dX16_usedNow_53 (by decide) (fun hbb => ?_) (fun hbb => ?_)
          · have hx2 : x + 0 = rCnt (rUsedP S land fo fr to_) (k + 1) := cnt_s0 (rUsedP S land fo fr to_) hx1 (by unfold rUsedP; rw [decide_eq_false hbb]; simp)
            refine lv_iconst (v := 0) hx hb dX16_usedNow_94 (by decide) ?_
            refine lv_iadd hx hb dX16_usedNow_95 ?_
            refine lv_istore (lv' := [(5, .int (x + 0)), (7, .ref (gG S 15 k)), (0, .ref (gG S 16 0)), (1, .int land), (2, .int fo), (3, .int fr), (4, .int to_), (6, .int (nI k))]) hx hb dX16_usedNow_96 hl (by decide) rfl (fun ls hl => ?_)
            refine lv_iinc (v := nI (k + 1)) (lv' := [(6, .int (nI (k + 1))), (5, .int (x + 0)), (7, .ref (gG S 15 k)), (0, .ref (gG S 16 0)), (1, .int land), (2, .int fo), (3, .int fr), (4, .int to_)]) hx hb dX16_usedNow_98 hl (k := 7) rfl (nI_1 _) (by decide) rfl (fun ls hl => ?_)
            refine lv_goto (tgt := 6) hx hb dX16_usedNow_101 (by decide) ?_
            exact ih6 (k + 1) (x + 0) _ _ _ (by omega) (by omega) (hx2) w (lv_sub hl [3, 4, 5, 6, 7, 1, 0] rfl)
          · refine lv_aload hx hb dX16_usedNow_56 (lv_at hl 0 rfl) ?_
            refine g_15_1 (S := S) (x := (mI S 241 k)) X w (h.e_ta k hlt).2 wF_X16_112 (rfl) dX16_usedNow_58 ?_
            refine lv_bipush (v := 24) hx hb dX16_usedNow_61 (by decide) ?_
            refine lv_idiv hx hb dX16_usedNow_63 (by decide) ?_
            refine lv_iload_n hx hb dX16_usedNow_64 rfl (lv_at hl 4 rfl) ?_
            refine lv_iload hx hb dX16_usedNow_65 (lv_at hl 5 rfl) ?_
            refine cS (S := S) (nA := 3) (As := [.int ((mI S 241 k) / 24), .int fr, .int to_]) (rest := [.int x]) X w hl (m_X16_in G S ((mI S 241 k) / 24) fr to_) wY_X16_in wM_X16_224 wSt_X16_in wI_X16 (by decide +kernel) rfl rfl dX16_usedNow_67 ⟨by decide, by decide⟩ (Nat.le_of_ble_eq_true rfl) (⟨Nat.le_of_ble_eq_true rfl, Nat.le_of_ble_eq_true rfl⟩) (fun v5 S1 H locs hp w => ?_)
            obtain ⟨rfl, rfl⟩ := hp
            refine lv_if_eq (tgt := 94) hx hb dX16_usedNow_70 (by decide) (fun hc => ?_) (fun hc => ?_)
            · have hx2 : x + 0 = rCnt (rUsedP S land fo fr to_) (k + 1) := cnt_s0 (rUsedP S land fo fr to_) hx1 (by unfold rUsedP; rw [b2i_f hc]; simp)
              refine lv_iconst (v := 0) hx hb dX16_usedNow_94 (by decide) ?_
              refine lv_iadd hx hb dX16_usedNow_95 ?_
              refine lv_istore (lv' := [(5, .int (x + 0)), (7, .ref (gG S 15 k)), (0, .ref (gG S 16 0)), (1, .int land), (2, .int fo), (3, .int fr), (4, .int to_), (6, .int (nI k))]) hx hb dX16_usedNow_96 hl (by decide) rfl (fun ls hl => ?_)
              refine lv_iinc (v := nI (k + 1)) (lv' := [(6, .int (nI (k + 1))), (5, .int (x + 0)), (7, .ref (gG S 15 k)), (0, .ref (gG S 16 0)), (1, .int land), (2, .int fo), (3, .int fr), (4, .int to_)]) hx hb dX16_usedNow_98 hl (k := 7) rfl (nI_1 _) (by decide) rfl (fun ls hl => ?_)
              refine lv_goto (tgt := 6) hx hb dX16_usedNow_101 (by decide) ?_
              exact ih6 (k + 1) (x + 0) _ _ _ (by omega) (by omega) (hx2) w (lv_sub hl [3, 4, 5, 6, 7, 1, 0] rfl)
            · refine lv_iload_n hx hb dX16_usedNow_73 rfl (lv_at hl 3 rfl) ?_
              refine lv_iconst (v := (-1)) hx hb dX16_usedNow_74 (by decide) ?_
              refine lv_icmp_eq (tgt := 90) hx hb dX16_usedNow_75 (by decide) (fun hd1 => ?_) (fun hd1 => ?_)
              · have hx2 : x + 1 = rCnt (rUsedP S land fo fr to_) (k + 1) := cnt_s1 (rUsedP S land fo fr to_) hx1 (by unfold rUsedP; rw [b2i_t ha, decide_eq_true hbb, b2i_t hc, decide_eq_true hd1]; rfl)
                refine lv_iconst (v := 1) hx hb dX16_usedNow_90 (by decide) ?_
                refine lv_goto (tgt := 95) hx hb dX16_usedNow_91 (by decide) ?_
                refine lv_iadd hx hb dX16_usedNow_95 ?_
                refine lv_istore (lv' := [(5, .int (x + 1)), (7, .ref (gG S 15 k)), (0, .ref (gG S 16 0)), (1, .int land), (2, .int fo), (3, .int fr), (4, .int to_), (6, .int (nI k))]) hx hb dX16_usedNow_96 hl (by decide) rfl (fun ls hl => ?_)
                refine lv_iinc (v := nI (k + 1)) (lv' := [(6, .int (nI (k + 1))), (5, .int (x + 1)), (7, .ref (gG S 15 k)), (0, .ref (gG S 16 0)), (1, .int land), (2, .int fo), (3, .int fr), (4, .int to_)]) hx hb dX16_usedNow_98 hl (k := 7) rfl (nI_1 _) (by decide) rfl (fun ls hl => ?_)
                refine lv_goto (tgt := 6) hx hb dX16_usedNow_101 (by decide) ?_
                exact ih6 (k + 1) (x + 1) _ _ _ (by omega) (by omega) (hx2) w (lv_sub hl [3, 4, 5, 6, 7, 1, 0] rfl)
              · refine lv_aload hx hb dX16_usedNow_78 (lv_at hl 0 rfl) ?_
                refine cV (S := S) (nA := 0) (As := []) (rest := [.int x]) X w hl (h.e_ta k hlt).2 (m_X15_heard G S k (h.e_ta k hlt).2) wY_X15_heard wM_X16_285 wIn_X15_heard wSe_X15_X15_heard wI_X15 (by decide) rfl (by decide +kernel) rfl rfl dX16_usedNow_80 ⟨by decide, by decide⟩ (Nat.le_of_ble_eq_true rfl) (⟨Nat.le_of_ble_eq_true rfl, Nat.le_of_ble_eq_true rfl⟩) (fun v6 S1 H locs hp w => ?_)
                obtain ⟨rfl, rfl⟩ := hp
                refine lv_iload_n hx hb dX16_usedNow_83 rfl (lv_at hl 3 rfl) ?_
                refine cS (S := S) (nA := 2) (As := [.int (rHeard (mI S 245 k) (mI S 248 k)), .int fo]) (rest := [.int x]) X w hl (m_X16_has G S (rHeard (mI S 245 k) (mI S 248 k)) fo) wY_X16_has wM_X16_57 wSt_X16_has wI_X16 (by decide +kernel) rfl rfl dX16_usedNow_84 ⟨by decide, by decide⟩ (Nat.le_of_ble_eq_true rfl) (⟨Nat.le_of_ble_eq_true rfl, Nat.le_of_ble_eq_true rfl⟩) (fun v7 S1 H locs hp w => ?_)
                obtain ⟨rfl, rfl⟩ := hp
                refine lv_if_eq (tgt := 94) hx hb dX16_usedNow_87 (by decide) (fun hd2 => ?_) (fun hd2 => ?_)
                · have hx2 : x + 0 = rCnt (rUsedP S land fo fr to_) (k + 1) := cnt_s0 (rUsedP S land fo fr to_) hx1 (by unfold rUsedP; rw [decide_eq_false hd1, b2i_f hd2]; simp)
                  refine lv_iconst (v := 0) hx hb dX16_usedNow_94 (by decide) ?_
                  refine lv_iadd hx hb dX16_usedNow_95 ?_
                  refine lv_istore (lv' := [(5, .int (x + 0)), (7, .ref (gG S 15 k)), (0, .ref (gG S 16 0)), (1, .int land), (2, .int fo), (3, .int fr), (4, .int to_), (6, .int (nI k))]) hx hb dX16_usedNow_96 hl (by decide) rfl (fun ls hl => ?_)
                  refine lv_iinc (v := nI (k + 1)) (lv' := [(6, .int (nI (k + 1))), (5, .int (x + 0)), (7, .ref (gG S 15 k)), (0, .ref (gG S 16 0)), (1, .int land), (2, .int fo), (3, .int fr), (4, .int to_)]) hx hb dX16_usedNow_98 hl (k := 7) rfl (nI_1 _) (by decide) rfl (fun ls hl => ?_)
                  refine lv_goto (tgt := 6) hx hb dX16_usedNow_101 (by decide) ?_
                  exact ih6 (k + 1) (x + 0) _ _ _ (by omega) (by omega) (hx2) w (lv_sub hl [3, 4, 5, 6, 7, 1, 0] rfl)
                · have hx2 : x + 1 = rCnt (rUsedP S land fo fr to_) (k + 1) := cnt_s1 (rUsedP S land fo fr to_) hx1 (by unfold rUsedP; rw [b2i_t ha, decide_eq_true hbb, b2i_t hc, b2i_t hd2]; simp)
                  refine lv_iconst (v := 1) hx hb dX16_usedNow_90 (by decide) ?_
                  refine lv_goto (tgt := 95) hx hb dX16_usedNow_91 (by decide) ?_
                  refine lv_iadd hx hb dX16_usedNow_95 ?_
                  refine lv_istore (lv' := [(5, .int (x + 1)), (7, .ref (gG S 15 k)), (0, .ref (gG S 16 0)), (1, .int land), (2, .int fo), (3, .int fr), (4, .int to_), (6, .int (nI k))]) hx hb dX16_usedNow_96 hl (by decide) rfl (fun ls hl => ?_)
                  refine lv_iinc (v := nI (k + 1)) (lv' := [(6, .int (nI (k + 1))), (5, .int (x + 1)), (7, .ref (gG S 15 k)), (0, .ref (gG S 16 0)), (1, .int land), (2, .int fo), (3, .int fr), (4, .int to_)]) hx hb dX16_usedNow_98 hl (k := 7) rfl (nI_1 _) (by decide) rfl (fun ls hl => ?_)
                  refine lv_goto (tgt := 6) hx hb dX16_usedNow_101 (by decide) ?_
                  exact ih6 (k + 1) (x + 1) _ _ _ (by omega) (by omega) (hx2) w (lv_sub hl [3, 4, 5, 6, 7, 1, 0] rfl)
  exact L6 _ 0 0 _ _ _ (Nat.lt_succ_self _) (by omega) (rfl) w (lv_sub hl [2, 3, 4, 5, 6, 1, 0] rfl)

theorem dX16_goneNow_0 : decode cX16_goneNow 0 = .ok (.aload_n 0, 1) := by decide +kernel
theorem dX16_goneNow_1 : decode cX16_goneNow 1 = .ok (.getfield 125, 3) := by decide +kernel
theorem dX16_goneNow_4 : decode cX16_goneNow 4 = .ok (.bipush 24, 2) := by decide +kernel
theorem dX16_goneNow_6 : decode cX16_goneNow 6 = .ok (.idiv, 1) := by decide +kernel
theorem dX16_goneNow_7 : decode cX16_goneNow 7 = .ok (.istore_n 2, 1) := by decide +kernel
theorem dX16_goneNow_8 : decode cX16_goneNow 8 = .ok (.iconst 0, 1) := by decide +kernel
theorem dX16_goneNow_9 : decode cX16_goneNow 9 = .ok (.istore_n 3, 1) := by decide +kernel
theorem dX16_goneNow_10 : decode cX16_goneNow 10 = .ok (.iconst 0, 1) := by decide +kernel
theorem dX16_goneNow_11 : decode cX16_goneNow 11 = .ok (.istore 4, 2) := by decide +kernel
theorem dX16_goneNow_13 : decode cX16_goneNow 13 = .ok (.iload 4, 2) := by decide +kernel
theorem dX16_goneNow_15 : decode cX16_goneNow 15 = .ok (.bipush 16, 2) := by decide +kernel
theorem dX16_goneNow_17 : decode cX16_goneNow 17 = .ok (.if_icmp .ge 66, 3) := by decide +kernel
theorem dX16_goneNow_20 : decode cX16_goneNow 20 = .ok (.iload_n 3, 1) := by decide +kernel
theorem dX16_goneNow_21 : decode cX16_goneNow 21 = .ok (.aload_n 0, 1) := by decide +kernel
theorem dX16_goneNow_22 : decode cX16_goneNow 22 = .ok (.iload_n 1, 1) := by decide +kernel
theorem dX16_goneNow_23 : decode cX16_goneNow 23 = .ok (.iload 4, 2) := by decide +kernel
theorem dX16_goneNow_25 : decode cX16_goneNow 25 = .ok (.iload_n 2, 1) := by decide +kernel
theorem dX16_goneNow_26 : decode cX16_goneNow 26 = .ok (.bipush 9, 2) := by decide +kernel
theorem dX16_goneNow_28 : decode cX16_goneNow 28 = .ok (.isub, 1) := by decide +kernel
theorem dX16_goneNow_29 : decode cX16_goneNow 29 = .ok (.iload_n 2, 1) := by decide +kernel
theorem dX16_goneNow_30 : decode cX16_goneNow 30 = .ok (.iconst 3, 1) := by decide +kernel
theorem dX16_goneNow_31 : decode cX16_goneNow 31 = .ok (.isub, 1) := by decide +kernel
theorem dX16_goneNow_32 : decode cX16_goneNow 32 = .ok (.invokevirtual 296, 3) := by decide +kernel
theorem dX16_goneNow_35 : decode cX16_goneNow 35 = .ok (.iconst 3, 1) := by decide +kernel
theorem dX16_goneNow_36 : decode cX16_goneNow 36 = .ok (.if_icmp .lt 38, 3) := by decide +kernel
theorem dX16_goneNow_39 : decode cX16_goneNow 39 = .ok (.aload_n 0, 1) := by decide +kernel
theorem dX16_goneNow_40 : decode cX16_goneNow 40 = .ok (.iload_n 1, 1) := by decide +kernel
theorem dX16_goneNow_41 : decode cX16_goneNow 41 = .ok (.iload 4, 2) := by decide +kernel
theorem dX16_goneNow_43 : decode cX16_goneNow 43 = .ok (.iload_n 2, 1) := by decide +kernel
theorem dX16_goneNow_44 : decode cX16_goneNow 44 = .ok (.iconst 2, 1) := by decide +kernel
theorem dX16_goneNow_45 : decode cX16_goneNow 45 = .ok (.isub, 1) := by decide +kernel
theorem dX16_goneNow_46 : decode cX16_goneNow 46 = .ok (.iload_n 2, 1) := by decide +kernel
theorem dX16_goneNow_47 : decode cX16_goneNow 47 = .ok (.invokevirtual 296, 3) := by decide +kernel
theorem dX16_goneNow_50 : decode cX16_goneNow 50 = .ok (.ifCond .ne 24, 3) := by decide +kernel
theorem dX16_goneNow_53 : decode cX16_goneNow 53 = .ok (.aload_n 0, 1) := by decide +kernel
theorem dX16_goneNow_54 : decode cX16_goneNow 54 = .ok (.iload_n 1, 1) := by decide +kernel
theorem dX16_goneNow_55 : decode cX16_goneNow 55 = .ok (.iconst (-1), 1) := by decide +kernel
theorem dX16_goneNow_56 : decode cX16_goneNow 56 = .ok (.iload_n 2, 1) := by decide +kernel
theorem dX16_goneNow_57 : decode cX16_goneNow 57 = .ok (.iconst 2, 1) := by decide +kernel
theorem dX16_goneNow_58 : decode cX16_goneNow 58 = .ok (.isub, 1) := by decide +kernel
theorem dX16_goneNow_59 : decode cX16_goneNow 59 = .ok (.iload_n 2, 1) := by decide +kernel
theorem dX16_goneNow_60 : decode cX16_goneNow 60 = .ok (.invokevirtual 296, 3) := by decide +kernel
theorem dX16_goneNow_63 : decode cX16_goneNow 63 = .ok (.iconst 2, 1) := by decide +kernel
theorem dX16_goneNow_64 : decode cX16_goneNow 64 = .ok (.if_icmp .lt 10, 3) := by decide +kernel
theorem dX16_goneNow_67 : decode cX16_goneNow 67 = .ok (.iconst 1, 1) := by decide +kernel
theorem dX16_goneNow_68 : decode cX16_goneNow 68 = .ok (.iload 4, 2) := by decide +kernel
theorem dX16_goneNow_70 : decode cX16_goneNow 70 = .ok (.ishl, 1) := by decide +kernel
theorem dX16_goneNow_71 : decode cX16_goneNow 71 = .ok (.goto 4, 3) := by decide +kernel
theorem dX16_goneNow_74 : decode cX16_goneNow 74 = .ok (.iconst 0, 1) := by decide +kernel
theorem dX16_goneNow_75 : decode cX16_goneNow 75 = .ok (.ior, 1) := by decide +kernel
theorem dX16_goneNow_76 : decode cX16_goneNow 76 = .ok (.istore_n 3, 1) := by decide +kernel
theorem dX16_goneNow_77 : decode cX16_goneNow 77 = .ok (.iinc 4 1, 3) := by decide +kernel
theorem dX16_goneNow_80 : decode cX16_goneNow 80 = .ok (.goto (-67), 3) := by decide +kernel
theorem dX16_goneNow_83 : decode cX16_goneNow 83 = .ok (.iload_n 3, 1) := by decide +kernel
theorem dX16_goneNow_84 : decode cX16_goneNow 84 = .ok (.ireturn, 1) := by decide +kernel
abbrev rm_m_X16_goneNow : Room := { frames := 5, cells := 0, slots := 0, locals := 112 }
set_option maxHeartbeats 4000000 in
set_option maxRecDepth 100000 in
theorem m_X16_goneNow {s0 : State} {l : Launch} {D : va_G} {cy : Nat → ClassId} (G : Gl s0 l D cy) (S : HS) (ea ns nj nm nt nr nq : Nat) (h : RI ea S ns nj nm nt nr nq) (land : Int32) : Ctr s0 l D cy yX16_goneNow cX16_goneNow 5 (some .int) rm_m_X16_goneNow S [.ref (gG S 16 0), .int land] (PU S (some (.int (rGone S nt land 16)))) := by
  refine pro "CavershamShiftModel" G rfl rfl (Nat.le_of_ble_eq_true rfl) (fun p e s m below meth c ls X w hnm hl => ?_)
  have hx := X.1
  have hb := X.2.1
  have hown := X.2.2.2.1
  have hts := X.2.2.2.2.1
  have hl : lv_has ls 5 [(0, .ref (gG S 16 0)), (1, .int land)] := hl
  refine lv_aload_n hx hb dX16_goneNow_0 rfl (lv_at hl 0 rfl) ?_
  refine g_16_1 (S := S) (x := (mI S 257 0)) X w h.v wF_X16_125 (rfl) dX16_goneNow_1 ?_
  refine lv_bipush (v := 24) hx hb dX16_goneNow_4 (by decide) ?_
  refine lv_idiv hx hb dX16_goneNow_6 (by decide) ?_
  refine lv_istore_n (lv' := [(2, .int ((mI S 257 0) / 24)), (0, .ref (gG S 16 0)), (1, .int land)]) hx hb dX16_goneNow_7 rfl hl (by decide) rfl (fun ls hl => ?_)
  refine lv_iconst (v := 0) hx hb dX16_goneNow_8 (by decide) ?_
  refine lv_istore_n (lv' := [(3, .int 0), (2, .int ((mI S 257 0) / 24)), (0, .ref (gG S 16 0)), (1, .int land)]) hx hb dX16_goneNow_9 rfl hl (by decide) rfl (fun ls hl => ?_)
  refine lv_iconst (v := 0) hx hb dX16_goneNow_10 (by decide) ?_
  refine lv_istore (lv' := [(4, .int 0), (3, .int 0), (2, .int ((mI S 257 0) / 24)), (0, .ref (gG S 16 0)), (1, .int land)]) hx hb dX16_goneNow_11 hl (by decide) rfl (fun ls hl => ?_)
  have L13 : ∀ (N : Nat) (k : Nat) (x : Int32) (H : Heap) (locs : List Loc) (ls : Array Slot), 16 - k < N → (k ≤ 16) → (x = rGone S nt land k) → Wd s0 D cy S s.heap H locs → lv_has ls 5 [(0, .ref (gG S 16 0)), (1, .int land), (2, .int (mI S 257 0 / 24)), (3, .int x), (4, .int (nI k))] → W p l e rm_m_X16_goneNow s m ([.ref (gG S 16 0), .int land] : List Value).toArray below meth c H locs 0 0 (MQ below (GQ s0 D cy (PU S (some (.int (rGone S nt land 16))))) ([.ref (gG S 16 0), .int land] : List Value).toArray s rm_m_X16_goneNow.cells rm_m_X16_goneNow.slots (A0 s0)) (F0 m 13 ls []) := by
    intro N
    induction N with
    | zero => intros; omega
    | succ N ih13 =>
      intro k x H locs ls hmu hk hx1 w hl
      refine lv_iload hx hb dX16_goneNow_13 (lv_at hl 4 rfl) ?_
      refine lv_bipush (v := 16) hx hb dX16_goneNow_15 (by decide) ?_
      refine lv_icmp_ge (tgt := 83) hx hb dX16_goneNow_17 (by decide) (fun hc9 => ?_) (fun hc9 => ?_)
      · have hge : 16 ≤ k := (nI_leI (a := 16) (by decide) (by omega)).mp hc9
        refine lv_iload_n hx hb dX16_goneNow_83 rfl (lv_at hl 3 rfl) ?_
        exact rI X w rfl dX16_goneNow_84 (by decide) (by decide) (pu_i (by rw [hx1, show k = 16 by omega]))
      · have hlt : k < 16 := Nat.lt_of_not_le (fun z => hc9 ((nI_leI (a := 16) (by decide) (by omega)).mpr z))
        refine lv_iload_n hx hb dX16_goneNow_20 rfl (lv_at hl 3 rfl) ?_
        refine lv_aload_n hx hb dX16_goneNow_21 rfl (lv_at hl 0 rfl) ?_
        refine lv_iload_n hx hb dX16_goneNow_22 rfl (lv_at hl 1 rfl) ?_
        refine lv_iload hx hb dX16_goneNow_23 (lv_at hl 4 rfl) ?_
        refine lv_iload_n hx hb dX16_goneNow_25 rfl (lv_at hl 2 rfl) ?_
        refine lv_bipush (v := 9) hx hb dX16_goneNow_26 (by decide) ?_
        refine lv_isub hx hb dX16_goneNow_28 ?_
        refine lv_iload_n hx hb dX16_goneNow_29 rfl (lv_at hl 2 rfl) ?_
        refine lv_iconst (v := 3) hx hb dX16_goneNow_30 (by decide) ?_
        refine lv_isub hx hb dX16_goneNow_31 ?_
        refine cV (S := S) (nA := 4) (As := [.int land, .int (nI k), .int ((mI S 257 0 / 24) - 9), .int ((mI S 257 0 / 24) - 3)]) (rest := [.int x]) X w hl h.v (m_X16_usedNow G S ea ns nj nm nt nr nq h land (nI k) ((mI S 257 0 / 24) - 9) ((mI S 257 0 / 24) - 3)) wY_X16_usedNow wM_X16_296 wIn_X16_usedNow wSe_X16_X16_usedNow wI_X16 (by decide) rfl (by decide +kernel) rfl rfl dX16_goneNow_32 ⟨by decide, by decide⟩ (Nat.le_of_ble_eq_true rfl) (⟨Nat.le_of_ble_eq_true rfl, Nat.le_of_ble_eq_true rfl⟩) (fun v1 S1 H locs hp w => ?_)
        obtain ⟨rfl, rfl⟩ := hp
        refine lv_iconst (v := 3) hx hb dX16_goneNow_35 (by decide) ?_
        refine lv_icmp_lt (tgt := 74) hx hb dX16_goneNow_36 (by decide) (fun ha => ?_) (fun ha => ?_)
        · have hx2 : x ||| 0 = rGone S nt land (k + 1) := by rw [hx1]; show _ = _ ||| (if _ then _ else _); rw [if_neg (show ¬ rGoneC S nt land k = true by unfold rGoneC; rw [decide_eq_false (Int32.not_le.mpr ha)]; simp)]
          refine lv_iconst (v := 0) hx hb dX16_goneNow_74 (by decide) ?_
          refine lv_ior hx hb dX16_goneNow_75 ?_
          refine lv_istore_n (lv' := [(3, .int (x ||| 0)), (0, .ref (gG S 16 0)), (1, .int land), (2, .int (mI S 257 0 / 24)), (4, .int (nI k))]) hx hb dX16_goneNow_76 rfl hl (by decide) rfl (fun ls hl => ?_)
          refine lv_iinc (v := nI (k + 1)) (lv' := [(4, .int (nI (k + 1))), (3, .int (x ||| 0)), (0, .ref (gG S 16 0)), (1, .int land), (2, .int (mI S 257 0 / 24))]) hx hb dX16_goneNow_77 hl (k := 4) rfl (nI_1 _) (by decide) rfl (fun ls hl => ?_)
          refine lv_goto (tgt := 13) hx hb dX16_goneNow_80 (by decide) ?_
          exact ih13 (k + 1) (x ||| 0) _ _ _ (by omega) (by omega) (hx2) w (lv_sub hl [2, 3, 4, 1, 0] rfl)
        · refine lv_aload_n hx hb dX16_goneNow_39 rfl (lv_at hl 0 rfl) ?_
          refine lv_iload_n hx hb dX16_goneNow_40 rfl (lv_at hl 1 rfl) ?_
          refine lv_iload hx hb dX16_goneNow_41 (lv_at hl 4 rfl) ?_
          refine lv_iload_n hx hb dX16_goneNow_43 rfl (lv_at hl 2 rfl) ?_
          refine lv_iconst (v := 2) hx hb dX16_goneNow_44 (by decide) ?_
          refine lv_isub hx hb dX16_goneNow_45 ?_
          refine lv_iload_n hx hb dX16_goneNow_46 rfl (lv_at hl 2 rfl) ?_
          refine cV (S := S) (nA := 4) (As := [.int land, .int (nI k), .int ((mI S 257 0 / 24) - 2), .int (mI S 257 0 / 24)]) (rest := [.int x]) X w hl h.v (m_X16_usedNow G S ea ns nj nm nt nr nq h land (nI k) ((mI S 257 0 / 24) - 2) (mI S 257 0 / 24)) wY_X16_usedNow wM_X16_296 wIn_X16_usedNow wSe_X16_X16_usedNow wI_X16 (by decide) rfl (by decide +kernel) rfl rfl dX16_goneNow_47 ⟨by decide, by decide⟩ (Nat.le_of_ble_eq_true rfl) (⟨Nat.le_of_ble_eq_true rfl, Nat.le_of_ble_eq_true rfl⟩) (fun v2 S1 H locs hp w => ?_)
          obtain ⟨rfl, rfl⟩ := hp
          refine lv_if_ne (tgt := 74) hx hb dX16_goneNow_50 (by decide) (fun hbb => ?_) (fun hbb => ?_)
          · have hx2 : x ||| 0 = rGone S nt land (k + 1) := by rw [hx1]; show _ = _ ||| (if _ then _ else _); rw [if_neg (show ¬ rGoneC S nt land k = true by unfold rGoneC; rw [decide_eq_false hbb]; simp)]
            refine lv_iconst (v := 0) hx hb dX16_goneNow_74 (by decide) ?_
            refine lv_ior hx hb dX16_goneNow_75 ?_
            refine lv_istore_n (lv' := [(3, .int (x ||| 0)), (0, .ref (gG S 16 0)), (1, .int land), (2, .int (mI S 257 0 / 24)), (4, .int (nI k))]) hx hb dX16_goneNow_76 rfl hl (by decide) rfl (fun ls hl => ?_)
            refine lv_iinc (v := nI (k + 1)) (lv' := [(4, .int (nI (k + 1))), (3, .int (x ||| 0)), (0, .ref (gG S 16 0)), (1, .int land), (2, .int (mI S 257 0 / 24))]) hx hb dX16_goneNow_77 hl (k := 4) rfl (nI_1 _) (by decide) rfl (fun ls hl => ?_)
            refine lv_goto (tgt := 13) hx hb dX16_goneNow_80 (by decide) ?_
            exact ih13 (k + 1) (x ||| 0) _ _ _ (by omega) (by omega) (hx2) w (lv_sub hl [2, 3, 4, 1, 0] rfl)
          · refine lv_aload_n hx hb dX16_goneNow_53 rfl (lv_at hl 0 rfl) ?_
            refine lv_iload_n hx hb dX16_goneNow_54 rfl (lv_at hl 1 rfl) ?_
            refine lv_iconst (v := (-1)) hx hb dX16_goneNow_55 (by decide) ?_
            refine lv_iload_n hx hb dX16_goneNow_56 rfl (lv_at hl 2 rfl) ?_
            refine lv_iconst (v := 2) hx hb dX16_goneNow_57 (by decide) ?_
            refine lv_isub hx hb dX16_goneNow_58 ?_
            refine lv_iload_n hx hb dX16_goneNow_59 rfl (lv_at hl 2 rfl) ?_
            refine cV (S := S) (nA := 4) (As := [.int land, .int (-1), .int ((mI S 257 0 / 24) - 2), .int (mI S 257 0 / 24)]) (rest := [.int x]) X w hl h.v (m_X16_usedNow G S ea ns nj nm nt nr nq h land (-1) ((mI S 257 0 / 24) - 2) (mI S 257 0 / 24)) wY_X16_usedNow wM_X16_296 wIn_X16_usedNow wSe_X16_X16_usedNow wI_X16 (by decide) rfl (by decide +kernel) rfl rfl dX16_goneNow_60 ⟨by decide, by decide⟩ (Nat.le_of_ble_eq_true rfl) (⟨Nat.le_of_ble_eq_true rfl, Nat.le_of_ble_eq_true rfl⟩) (fun v3 S1 H locs hp w => ?_)
            obtain ⟨rfl, rfl⟩ := hp
            refine lv_iconst (v := 2) hx hb dX16_goneNow_63 (by decide) ?_
            refine lv_icmp_lt (tgt := 74) hx hb dX16_goneNow_64 (by decide) (fun hc => ?_) (fun hc => ?_)
            · have hx2 : x ||| 0 = rGone S nt land (k + 1) := by rw [hx1]; show _ = _ ||| (if _ then _ else _); rw [if_neg (show ¬ rGoneC S nt land k = true by unfold rGoneC; rw [decide_eq_false (Int32.not_le.mpr hc)]; simp)]
              refine lv_iconst (v := 0) hx hb dX16_goneNow_74 (by decide) ?_
              refine lv_ior hx hb dX16_goneNow_75 ?_
              refine lv_istore_n (lv' := [(3, .int (x ||| 0)), (0, .ref (gG S 16 0)), (1, .int land), (2, .int (mI S 257 0 / 24)), (4, .int (nI k))]) hx hb dX16_goneNow_76 rfl hl (by decide) rfl (fun ls hl => ?_)
              refine lv_iinc (v := nI (k + 1)) (lv' := [(4, .int (nI (k + 1))), (3, .int (x ||| 0)), (0, .ref (gG S 16 0)), (1, .int land), (2, .int (mI S 257 0 / 24))]) hx hb dX16_goneNow_77 hl (k := 4) rfl (nI_1 _) (by decide) rfl (fun ls hl => ?_)
              refine lv_goto (tgt := 13) hx hb dX16_goneNow_80 (by decide) ?_
              exact ih13 (k + 1) (x ||| 0) _ _ _ (by omega) (by omega) (hx2) w (lv_sub hl [2, 3, 4, 1, 0] rfl)
            · have hx2 : x ||| ((1 : Int32) <<< (nI k &&& 31)) = rGone S nt land (k + 1) := by rw [hx1]; show _ = _ ||| (if _ then _ else _); rw [if_pos (show rGoneC S nt land k = true by unfold rGoneC; rw [decide_eq_true (Int32.not_lt.mp ha), decide_eq_true hbb, decide_eq_true (Int32.not_lt.mp hc)]; rfl)]
              refine lv_iconst (v := 1) hx hb dX16_goneNow_67 (by decide) ?_
              refine lv_iload hx hb dX16_goneNow_68 (lv_at hl 4 rfl) ?_
              refine lv_ishl hx hb dX16_goneNow_70 ?_
              refine lv_goto (tgt := 75) hx hb dX16_goneNow_71 (by decide) ?_
              refine lv_ior hx hb dX16_goneNow_75 ?_
              refine lv_istore_n (lv' := [(3, .int (x ||| (1 <<< ((nI k) &&& 31)))), (0, .ref (gG S 16 0)), (1, .int land), (2, .int (mI S 257 0 / 24)), (4, .int (nI k))]) hx hb dX16_goneNow_76 rfl hl (by decide) rfl (fun ls hl => ?_)
              refine lv_iinc (v := nI (k + 1)) (lv' := [(4, .int (nI (k + 1))), (3, .int (x ||| (1 <<< ((nI k) &&& 31)))), (0, .ref (gG S 16 0)), (1, .int land), (2, .int (mI S 257 0 / 24))]) hx hb dX16_goneNow_77 hl (k := 4) rfl (nI_1 _) (by decide) rfl (fun ls hl => ?_)
              refine lv_goto (tgt := 13) hx hb dX16_goneNow_80 (by decide) ?_
              exact ih13 (k + 1) (x ||| (1 <<< ((nI k) &&& 31))) _ _ _ (by omega) (by omega) (hx2) w (lv_sub hl [2, 3, 4, 1, 0] rfl)
  exact L13 _ 0 0 _ _ _ (Nat.lt_succ_self _) (by omega) (rfl) w (lv_sub hl [3, 4, 2, 1, 0] rfl)

theorem dX16_firstNow_0 : decode cX16_firstNow 0 = .ok (.iconst (-1), 1) := by decide +kernel
theorem dX16_firstNow_1 : decode cX16_firstNow 1 = .ok (.istore_n 2, 1) := by decide +kernel
theorem dX16_firstNow_2 : decode cX16_firstNow 2 = .ok (.iconst 0, 1) := by decide +kernel
theorem dX16_firstNow_3 : decode cX16_firstNow 3 = .ok (.istore_n 3, 1) := by decide +kernel
theorem dX16_firstNow_4 : decode cX16_firstNow 4 = .ok (.iload_n 3, 1) := by decide +kernel
theorem dX16_firstNow_5 : decode cX16_firstNow 5 = .ok (.aload_n 0, 1) := by decide +kernel
theorem dX16_firstNow_6 : decode cX16_firstNow 6 = .ok (.getfield 26, 3) := by decide +kernel
theorem dX16_firstNow_9 : decode cX16_firstNow 9 = .ok (.invokeinterface 73 1, 5) := by decide +kernel
theorem dX16_firstNow_14 : decode cX16_firstNow 14 = .ok (.if_icmp .ge 94, 3) := by decide +kernel
theorem dX16_firstNow_17 : decode cX16_firstNow 17 = .ok (.aload_n 0, 1) := by decide +kernel
theorem dX16_firstNow_18 : decode cX16_firstNow 18 = .ok (.getfield 26, 3) := by decide +kernel
theorem dX16_firstNow_21 : decode cX16_firstNow 21 = .ok (.iload_n 3, 1) := by decide +kernel
theorem dX16_firstNow_22 : decode cX16_firstNow 22 = .ok (.invokeinterface 46 2, 5) := by decide +kernel
theorem dX16_firstNow_27 : decode cX16_firstNow 27 = .ok (.checkcast 105, 3) := by decide +kernel
theorem dX16_firstNow_30 : decode cX16_firstNow 30 = .ok (.getfield 144, 3) := by decide +kernel
theorem dX16_firstNow_33 : decode cX16_firstNow 33 = .ok (.iconst 1, 1) := by decide +kernel
theorem dX16_firstNow_34 : decode cX16_firstNow 34 = .ok (.if_icmp .ne 68, 3) := by decide +kernel
theorem dX16_firstNow_37 : decode cX16_firstNow 37 = .ok (.aload_n 0, 1) := by decide +kernel
theorem dX16_firstNow_38 : decode cX16_firstNow 38 = .ok (.getfield 26, 3) := by decide +kernel
theorem dX16_firstNow_41 : decode cX16_firstNow 41 = .ok (.iload_n 3, 1) := by decide +kernel
theorem dX16_firstNow_42 : decode cX16_firstNow 42 = .ok (.invokeinterface 46 2, 5) := by decide +kernel
theorem dX16_firstNow_47 : decode cX16_firstNow 47 = .ok (.checkcast 105, 3) := by decide +kernel
theorem dX16_firstNow_50 : decode cX16_firstNow 50 = .ok (.getfield 197, 3) := by decide +kernel
theorem dX16_firstNow_53 : decode cX16_firstNow 53 = .ok (.iload_n 1, 1) := by decide +kernel
theorem dX16_firstNow_54 : decode cX16_firstNow 54 = .ok (.if_icmp .eq 6, 3) := by decide +kernel
theorem dX16_firstNow_57 : decode cX16_firstNow 57 = .ok (.goto 45, 3) := by decide +kernel
theorem dX16_firstNow_60 : decode cX16_firstNow 60 = .ok (.iload_n 2, 1) := by decide +kernel
theorem dX16_firstNow_61 : decode cX16_firstNow 61 = .ok (.iconst (-1), 1) := by decide +kernel
theorem dX16_firstNow_62 : decode cX16_firstNow 62 = .ok (.if_icmp .eq 38, 3) := by decide +kernel
theorem dX16_firstNow_65 : decode cX16_firstNow 65 = .ok (.aload_n 0, 1) := by decide +kernel
theorem dX16_firstNow_66 : decode cX16_firstNow 66 = .ok (.getfield 26, 3) := by decide +kernel
theorem dX16_firstNow_69 : decode cX16_firstNow 69 = .ok (.iload_n 3, 1) := by decide +kernel
theorem dX16_firstNow_70 : decode cX16_firstNow 70 = .ok (.invokeinterface 46 2, 5) := by decide +kernel
theorem dX16_firstNow_75 : decode cX16_firstNow 75 = .ok (.checkcast 105, 3) := by decide +kernel
theorem dX16_firstNow_78 : decode cX16_firstNow 78 = .ok (.getfield 188, 3) := by decide +kernel
theorem dX16_firstNow_81 : decode cX16_firstNow 81 = .ok (.aload_n 0, 1) := by decide +kernel
theorem dX16_firstNow_82 : decode cX16_firstNow 82 = .ok (.getfield 26, 3) := by decide +kernel
theorem dX16_firstNow_85 : decode cX16_firstNow 85 = .ok (.iload_n 2, 1) := by decide +kernel
theorem dX16_firstNow_86 : decode cX16_firstNow 86 = .ok (.invokeinterface 46 2, 5) := by decide +kernel
theorem dX16_firstNow_91 : decode cX16_firstNow 91 = .ok (.checkcast 105, 3) := by decide +kernel
theorem dX16_firstNow_94 : decode cX16_firstNow 94 = .ok (.getfield 188, 3) := by decide +kernel
theorem dX16_firstNow_97 : decode cX16_firstNow 97 = .ok (.if_icmp .ge 5, 3) := by decide +kernel
theorem dX16_firstNow_100 : decode cX16_firstNow 100 = .ok (.iload_n 3, 1) := by decide +kernel
theorem dX16_firstNow_101 : decode cX16_firstNow 101 = .ok (.istore_n 2, 1) := by decide +kernel
theorem dX16_firstNow_102 : decode cX16_firstNow 102 = .ok (.iinc 3 1, 3) := by decide +kernel
theorem dX16_firstNow_105 : decode cX16_firstNow 105 = .ok (.goto (-101), 3) := by decide +kernel
theorem dX16_firstNow_108 : decode cX16_firstNow 108 = .ok (.iload_n 2, 1) := by decide +kernel
theorem dX16_firstNow_109 : decode cX16_firstNow 109 = .ok (.ireturn, 1) := by decide +kernel
abbrev rm_m_X16_firstNow : Room := { frames := 3, cells := 0, slots := 0, locals := 64 }
set_option maxHeartbeats 4000000 in
set_option maxRecDepth 100000 in
theorem m_X16_firstNow {s0 : State} {l : Launch} {D : va_G} {cy : Nat → ClassId} (G : Gl s0 l D cy) (S : HS) (ea ns nj nm nt nr nq : Nat) (h : RI ea S ns nj nm nt nr nq) (topic : Int32) : Ctr s0 l D cy yX16_firstNow cX16_firstNow 4 (some .int) rm_m_X16_firstNow S [.ref (gG S 16 0), .int topic] (PU S (some (.int (rFirst S topic nt)))) := by
  refine pro "CavershamShiftModel" G rfl rfl (Nat.le_of_ble_eq_true rfl) (fun p e s m below meth c ls X w hnm hl => ?_)
  have hx := X.1
  have hb := X.2.1
  have hown := X.2.2.2.1
  have hts := X.2.2.2.2.1
  have hl : lv_has ls 4 [(0, .ref (gG S 16 0)), (1, .int topic)] := hl
  refine lv_iconst (v := (-1)) hx hb dX16_firstNow_0 (by decide) ?_
  refine lv_istore_n (lv' := [(2, .int (-1)), (0, .ref (gG S 16 0)), (1, .int topic)]) hx hb dX16_firstNow_1 rfl hl (by decide) rfl (fun ls hl => ?_)
  refine lv_iconst (v := 0) hx hb dX16_firstNow_2 (by decide) ?_
  refine lv_istore_n (lv' := [(3, .int 0), (2, .int (-1)), (0, .ref (gG S 16 0)), (1, .int topic)]) hx hb dX16_firstNow_3 rfl hl (by decide) rfl (fun ls hl => ?_)
  have L4 : ∀ (N : Nat) (k : Nat) (best : Int32) (H : Heap) (locs : List Loc) (ls : Array Slot), nt - k < N → (k ≤ nt) → (best = rFirst S topic k) → Wd s0 D cy S s.heap H locs → lv_has ls 4 [(0, .ref (gG S 16 0)), (1, .int topic), (2, .int best), (3, .int (nI k))] → W p l e rm_m_X16_firstNow s m ([.ref (gG S 16 0), .int topic] : List Value).toArray below meth c H locs 0 0 (MQ below (GQ s0 D cy (PU S (some (.int (rFirst S topic nt))))) ([.ref (gG S 16 0), .int topic] : List Value).toArray s rm_m_X16_firstNow.cells rm_m_X16_firstNow.slots (A0 s0)) (F0 m 4 ls []) := by
    intro N
    induction N with
    | zero => intros; omega
    | succ N ih4 =>
      intro k best H locs ls hmu hk hB w hl
      refine lv_iload_n hx hb dX16_firstNow_4 rfl (lv_at hl 3 rfl) ?_
      refine lv_aload_n hx hb dX16_firstNow_5 rfl (lv_at hl 0 rfl) ?_
      refine g_16_9 (S := S) (x := (some (gG S 17 9))) X w h.v wF_X16_26 (h.f_ta) dX16_firstNow_6 ?_
      refine cF (S := S) (t := 17) (nA := 0) (As := []) (rest := [.int (nI k)]) X w hl h.l_ta.1 (m_size G S ea 9 nt h.l_ta) wY_Jx4a65c_size_8abf5 wM_X16_73 wIn_Jx4a65c_size_8abf5 wSe_Jx4a65c_Jx4a65c_size_8abf5_of_java_util_List_size___I wI_Jx4a65c fw_size (by decide) rfl (by decide +kernel) rfl rfl dX16_firstNow_9 ⟨by decide, by decide⟩ (Nat.le_of_ble_eq_true rfl) (⟨Nat.le_of_ble_eq_true rfl, Nat.le_of_ble_eq_true rfl⟩) (fun v1 S1 H locs hp w => ?_)
      obtain ⟨rfl, rfl⟩ := hp
      refine lv_icmp_ge (tgt := 108) hx hb dX16_firstNow_14 (by decide) (fun hc9 => ?_) (fun hc9 => ?_)
      · have hge : nt ≤ k := by
          have hb1 := h.b_ta
          exact (nI_leI (by omega) (by omega)).mp hc9
        refine lv_iload_n hx hb dX16_firstNow_108 rfl (lv_at hl 2 rfl) ?_
        exact rI X w rfl dX16_firstNow_109 (by decide) (by decide) (pu_i (by rw [hB, show k = nt by omega]))
      · have hlt : k < nt := by
          have hb1 := h.b_ta
          exact Nat.lt_of_not_le (fun z => hc9 ((nI_leI (by omega) (by omega)).mpr z))
        refine lv_aload_n hx hb dX16_firstNow_17 rfl (lv_at hl 0 rfl) ?_
        refine g_16_9 (S := S) (x := (some (gG S 17 9))) X w h.v wF_X16_26 (h.f_ta) dX16_firstNow_18 ?_
        refine lv_iload_n hx hb dX16_firstNow_21 rfl (lv_at hl 3 rfl) ?_
        refine cF (S := S) (t := 17) (nA := 1) (As := [.int (nI k)]) (rest := []) X w hl h.l_ta.1 (m_get G S ea 9 k nt (some (gG S 15 k)) h.l_ta hlt (h.e_ta k hlt).1) wY_Jx4a65c_get_915e3 wM_X16_46 wIn_Jx4a65c_get_915e3 wSe_Jx4a65c_Jx4a65c_get_915e3_of_java_util_List_get__I_Ljava_lang_Object_ wI_Jx4a65c fw_get (by decide) rfl (by decide +kernel) rfl rfl dX16_firstNow_22 ⟨by decide, by decide⟩ (Nat.le_of_ble_eq_true rfl) (⟨Nat.le_of_ble_eq_true rfl, Nat.le_of_ble_eq_true rfl⟩) (fun v2 S1 H locs hp w => ?_)
        obtain ⟨rfl, rfl⟩ := hp
        refine ckC (S := S) (t := 15) X w (h.e_ta k hlt).2 (by decide) rfl wC_X16_105 dX16_firstNow_27 ?_
        refine g_15_7 (S := S) (x := (mI S 247 k)) X w (h.e_ta k hlt).2 wF_X16_144 (rfl) dX16_firstNow_30 ?_
        refine lv_iconst (v := 1) hx hb dX16_firstNow_33 (by decide) ?_
        refine lv_icmp_ne (tgt := 102) hx hb dX16_firstNow_34 (by decide) (fun ha => ?_) (fun ha => ?_)
        · have hst : best = rFirst S topic (k + 1) := hB.trans (if_neg (fun z => ha z.1)).symm
          refine lv_iinc (v := nI (k + 1)) (lv' := [(3, .int (nI (k + 1))), (0, .ref (gG S 16 0)), (1, .int topic), (2, .int best)]) hx hb dX16_firstNow_102 hl (k := 3) rfl (nI_1 _) (by decide) rfl (fun ls hl => ?_)
          refine lv_goto (tgt := 4) hx hb dX16_firstNow_105 (by decide) ?_
          exact ih4 (k + 1) best _ _ _ (by omega) (by omega) (hst) w (lv_sub hl [1, 2, 3, 0] rfl)
        · refine lv_aload_n hx hb dX16_firstNow_37 rfl (lv_at hl 0 rfl) ?_
          refine g_16_9 (S := S) (x := (some (gG S 17 9))) X w h.v wF_X16_26 (h.f_ta) dX16_firstNow_38 ?_
          refine lv_iload_n hx hb dX16_firstNow_41 rfl (lv_at hl 3 rfl) ?_
          refine cF (S := S) (t := 17) (nA := 1) (As := [.int (nI k)]) (rest := []) X w hl h.l_ta.1 (m_get G S ea 9 k nt (some (gG S 15 k)) h.l_ta hlt (h.e_ta k hlt).1) wY_Jx4a65c_get_915e3 wM_X16_46 wIn_Jx4a65c_get_915e3 wSe_Jx4a65c_Jx4a65c_get_915e3_of_java_util_List_get__I_Ljava_lang_Object_ wI_Jx4a65c fw_get (by decide) rfl (by decide +kernel) rfl rfl dX16_firstNow_42 ⟨by decide, by decide⟩ (Nat.le_of_ble_eq_true rfl) (⟨Nat.le_of_ble_eq_true rfl, Nat.le_of_ble_eq_true rfl⟩) (fun v3 S1 H locs hp w => ?_)
          obtain ⟨rfl, rfl⟩ := hp
          refine ckC (S := S) (t := 15) X w (h.e_ta k hlt).2 (by decide) rfl wC_X16_105 dX16_firstNow_47 ?_
          refine g_15_2 (S := S) (x := (mI S 242 k)) X w (h.e_ta k hlt).2 wF_X16_197 (rfl) dX16_firstNow_50 ?_
          refine lv_iload_n hx hb dX16_firstNow_53 rfl (lv_at hl 1 rfl) ?_
          refine lv_icmp_eq (tgt := 60) hx hb dX16_firstNow_54 (by decide) (fun ht => ?_) (fun ht => ?_)
          · refine lv_iload_n hx hb dX16_firstNow_60 rfl (lv_at hl 2 rfl) ?_
            refine lv_iconst (v := (-1)) hx hb dX16_firstNow_61 (by decide) ?_
            refine lv_icmp_eq (tgt := 100) hx hb dX16_firstNow_62 (by decide) (fun hbm => ?_) (fun hbm => ?_)
            · have hst : nI k = rFirst S topic (k + 1) := (if_pos ⟨ha, ht, Or.inl (hB.symm.trans hbm)⟩).symm
              refine lv_iload_n hx hb dX16_firstNow_100 rfl (lv_at hl 3 rfl) ?_
              refine lv_istore_n (lv' := [(2, .int (nI k)), (0, .ref (gG S 16 0)), (1, .int topic), (3, .int (nI k))]) hx hb dX16_firstNow_101 rfl hl (by decide) rfl (fun ls hl => ?_)
              refine lv_iinc (v := nI (k + 1)) (lv' := [(3, .int (nI (k + 1))), (2, .int (nI k)), (0, .ref (gG S 16 0)), (1, .int topic)]) hx hb dX16_firstNow_102 hl (k := 3) rfl (nI_1 _) (by decide) rfl (fun ls hl => ?_)
              refine lv_goto (tgt := 4) hx hb dX16_firstNow_105 (by decide) ?_
              exact ih4 (k + 1) (nI k) _ _ _ (by omega) (by omega) (hst) w (lv_sub hl [2, 3, 1, 0] rfl)
            · obtain ⟨b, hbk, hbe⟩ := (rFirst_in (S := S) (topic := topic) k).resolve_left (fun z => hbm (hB.trans z))
              have hbt : b < nt := Nat.lt_trans hbk hlt
              obtain rfl : best = nI b := hB.trans hbe
              have e1 : (rFirst S topic k).toNatClampNeg = b := by rw [← hB]; exact nI_clamp (by have := h.b_ta; omega)
              refine lv_aload_n hx hb dX16_firstNow_65 rfl (lv_at hl 0 rfl) ?_
              refine g_16_9 (S := S) (x := (some (gG S 17 9))) X w h.v wF_X16_26 (h.f_ta) dX16_firstNow_66 ?_
              refine lv_iload_n hx hb dX16_firstNow_69 rfl (lv_at hl 3 rfl) ?_
              refine cF (S := S) (t := 17) (nA := 1) (As := [.int (nI k)]) (rest := []) X w hl h.l_ta.1 (m_get G S ea 9 k nt (some (gG S 15 k)) h.l_ta hlt (h.e_ta k hlt).1) wY_Jx4a65c_get_915e3 wM_X16_46 wIn_Jx4a65c_get_915e3 wSe_Jx4a65c_Jx4a65c_get_915e3_of_java_util_List_get__I_Ljava_lang_Object_ wI_Jx4a65c fw_get (by decide) rfl (by decide +kernel) rfl rfl dX16_firstNow_70 ⟨by decide, by decide⟩ (Nat.le_of_ble_eq_true rfl) (⟨Nat.le_of_ble_eq_true rfl, Nat.le_of_ble_eq_true rfl⟩) (fun v4 S1 H locs hp w => ?_)
              obtain ⟨rfl, rfl⟩ := hp
              refine ckC (S := S) (t := 15) X w (h.e_ta k hlt).2 (by decide) rfl wC_X16_105 dX16_firstNow_75 ?_
              refine g_15_12 (S := S) (x := (mI S 252 k)) X w (h.e_ta k hlt).2 wF_X16_188 (rfl) dX16_firstNow_78 ?_
              refine lv_aload_n hx hb dX16_firstNow_81 rfl (lv_at hl 0 rfl) ?_
              refine g_16_9 (S := S) (x := (some (gG S 17 9))) X w h.v wF_X16_26 (h.f_ta) dX16_firstNow_82 ?_
              refine lv_iload_n hx hb dX16_firstNow_85 rfl (lv_at hl 2 rfl) ?_
              refine cF (S := S) (t := 17) (nA := 1) (As := [.int (nI b)]) (rest := [.int (mI S 252 k)]) X w hl h.l_ta.1 (m_get G S ea 9 b nt (some (gG S 15 b)) h.l_ta hbt (h.e_ta b hbt).1) wY_Jx4a65c_get_915e3 wM_X16_46 wIn_Jx4a65c_get_915e3 wSe_Jx4a65c_Jx4a65c_get_915e3_of_java_util_List_get__I_Ljava_lang_Object_ wI_Jx4a65c fw_get (by decide) rfl (by decide +kernel) rfl rfl dX16_firstNow_86 ⟨by decide, by decide⟩ (Nat.le_of_ble_eq_true rfl) (⟨Nat.le_of_ble_eq_true rfl, Nat.le_of_ble_eq_true rfl⟩) (fun v5 S1 H locs hp w => ?_)
              obtain ⟨rfl, rfl⟩ := hp
              refine ckC (S := S) (t := 15) X w (h.e_ta b hbt).2 (by decide) rfl wC_X16_105 dX16_firstNow_91 ?_
              refine g_15_12 (S := S) (x := (mI S 252 b)) X w (h.e_ta b hbt).2 wF_X16_188 (rfl) dX16_firstNow_94 ?_
              refine lv_icmp_ge (tgt := 102) hx hb dX16_firstNow_97 (by decide) (fun hge => ?_) (fun hge => ?_)
              · have hst : nI b = rFirst S topic (k + 1) := hB.trans (if_neg (fun z => z.2.2.elim (fun y => hbm (hB.trans y)) (fun y => by rw [e1] at y; exact absurd y (Int32.not_lt.mpr hge)))).symm
                refine lv_iinc (v := nI (k + 1)) (lv' := [(3, .int (nI (k + 1))), (0, .ref (gG S 16 0)), (1, .int topic), (2, .int (nI b))]) hx hb dX16_firstNow_102 hl (k := 3) rfl (nI_1 _) (by decide) rfl (fun ls hl => ?_)
                refine lv_goto (tgt := 4) hx hb dX16_firstNow_105 (by decide) ?_
                exact ih4 (k + 1) (nI b) _ _ _ (by omega) (by omega) (hst) w (lv_sub hl [1, 2, 3, 0] rfl)
              · have hst : nI k = rFirst S topic (k + 1) := (if_pos ⟨ha, ht, Or.inr (by rw [e1]; exact Int32.not_le.mp hge)⟩).symm
                refine lv_iload_n hx hb dX16_firstNow_100 rfl (lv_at hl 3 rfl) ?_
                refine lv_istore_n (lv' := [(2, .int (nI k)), (0, .ref (gG S 16 0)), (1, .int topic), (3, .int (nI k))]) hx hb dX16_firstNow_101 rfl hl (by decide) rfl (fun ls hl => ?_)
                refine lv_iinc (v := nI (k + 1)) (lv' := [(3, .int (nI (k + 1))), (2, .int (nI k)), (0, .ref (gG S 16 0)), (1, .int topic)]) hx hb dX16_firstNow_102 hl (k := 3) rfl (nI_1 _) (by decide) rfl (fun ls hl => ?_)
                refine lv_goto (tgt := 4) hx hb dX16_firstNow_105 (by decide) ?_
                exact ih4 (k + 1) (nI k) _ _ _ (by omega) (by omega) (hst) w (lv_sub hl [2, 3, 1, 0] rfl)
          · have hst : best = rFirst S topic (k + 1) := hB.trans (if_neg (fun z => ht z.2.1)).symm
            refine lv_goto (tgt := 102) hx hb dX16_firstNow_57 (by decide) ?_
            refine lv_iinc (v := nI (k + 1)) (lv' := [(3, .int (nI (k + 1))), (0, .ref (gG S 16 0)), (1, .int topic), (2, .int best)]) hx hb dX16_firstNow_102 hl (k := 3) rfl (nI_1 _) (by decide) rfl (fun ls hl => ?_)
            refine lv_goto (tgt := 4) hx hb dX16_firstNow_105 (by decide) ?_
            exact ih4 (k + 1) best _ _ _ (by omega) (by omega) (hst) w (lv_sub hl [1, 2, 3, 0] rfl)
  exact L4 _ 0 (-1) _ _ _ (Nat.lt_succ_self _) (by omega) (rfl) w (lv_sub hl [2, 3, 1, 0] rfl)

