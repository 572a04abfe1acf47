def hN (S : HS) : Nat := (mI S 257 0).toNatClampNeg
theorem RI.hNx {ea : Nat} {S : HS} {ns nj nm nt nr nq : Nat} (h : RI ea S ns nj nm nt nr nq) : hN S ≤ 720 ∧ mI S 257 0 = nI (hN S) := by
  obtain ⟨g, h1, h2⟩ := h.x_ho
  have e : hN S = g := by unfold hN; rw [h2]; exact nI_clamp (by omega)
  rw [e]; exact ⟨h1, h2⟩
def rTalkNow (S : HS) (j q : Nat) : Int32 := match q with
  | 0 => mI S 240 j
  | 1 => mI S 241 j
  | 2 => mI S 242 j
  | 3 => mI S 243 j
  | 4 => mI S 244 j
  | 5 => mI S 245 j
  | 6 => mI S 246 j
  | _ => if mI S 247 j ≠ -1 then 2 else if mI S 241 j < mI S 257 0 then 1 else 0
def rTold (S : HS) (i : Nat) : Nat → Int32
  | 0 => 0
  | k + 1 => if mI S 240 k = nI i then rTold S i k + 1 else rTold S i k
def rRepd (S : HS) (i : Nat) : Nat → Int32
  | 0 => 0
  | k + 1 => if mI S 240 k = nI i then rRepd S i k + (if mI S 247 k ≠ -1 then 1 else 0) else rRepd S i k
def rStaNow (S : HS) (ns nj nt i q : Nat) : Int32 := match q with
  | 0 => mI S 229 i
  | 1 => mI S 224 i
  | 2 => mI S 225 i
  | 3 => mI S 226 i
  | 4 => mI S 227 i
  | 5 => b2i (sIn (mI S 228 i) (nI (hN S % 24)))
  | 6 => rComes S ns nj i (nI (hN S % 24))
  | 7 => rTold S i nt
  | _ => rRepd S i nt

theorem dX16_talkNow_0 : decode cX16_talkNow 0 = .ok (.aload_n 0, 1) := by decide +kernel
theorem dX16_talkNow_1 : decode cX16_talkNow 1 = .ok (.getfield 26, 3) := by decide +kernel
theorem dX16_talkNow_4 : decode cX16_talkNow 4 = .ok (.iload_n 1, 1) := by decide +kernel
theorem dX16_talkNow_5 : decode cX16_talkNow 5 = .ok (.invokeinterface 46 2, 5) := by decide +kernel
theorem dX16_talkNow_10 : decode cX16_talkNow 10 = .ok (.checkcast 105, 3) := by decide +kernel
theorem dX16_talkNow_13 : decode cX16_talkNow 13 = .ok (.astore_n 3, 1) := by decide +kernel
theorem dX16_talkNow_14 : decode cX16_talkNow 14 = .ok (.bipush 8, 2) := by decide +kernel
theorem dX16_talkNow_16 : decode cX16_talkNow 16 = .ok (.newarray .int, 2) := by decide +kernel
theorem dX16_talkNow_18 : decode cX16_talkNow 18 = .ok (.dup, 1) := by decide +kernel
theorem dX16_talkNow_19 : decode cX16_talkNow 19 = .ok (.iconst 0, 1) := by decide +kernel
theorem dX16_talkNow_20 : decode cX16_talkNow 20 = .ok (.aload_n 3, 1) := by decide +kernel
theorem dX16_talkNow_21 : decode cX16_talkNow 21 = .ok (.getfield 104, 3) := by decide +kernel
theorem dX16_talkNow_24 : decode cX16_talkNow 24 = .ok (.iastore, 1) := by decide +kernel
theorem dX16_talkNow_25 : decode cX16_talkNow 25 = .ok (.dup, 1) := by decide +kernel
theorem dX16_talkNow_26 : decode cX16_talkNow 26 = .ok (.iconst 1, 1) := by decide +kernel
theorem dX16_talkNow_27 : decode cX16_talkNow 27 = .ok (.aload_n 3, 1) := by decide +kernel
theorem dX16_talkNow_28 : decode cX16_talkNow 28 = .ok (.getfield 112, 3) := by decide +kernel
theorem dX16_talkNow_31 : decode cX16_talkNow 31 = .ok (.iastore, 1) := by decide +kernel
theorem dX16_talkNow_32 : decode cX16_talkNow 32 = .ok (.dup, 1) := by decide +kernel
theorem dX16_talkNow_33 : decode cX16_talkNow 33 = .ok (.iconst 2, 1) := by decide +kernel
theorem dX16_talkNow_34 : decode cX16_talkNow 34 = .ok (.aload_n 3, 1) := by decide +kernel
theorem dX16_talkNow_35 : decode cX16_talkNow 35 = .ok (.getfield 197, 3) := by decide +kernel
theorem dX16_talkNow_38 : decode cX16_talkNow 38 = .ok (.iastore, 1) := by decide +kernel
theorem dX16_talkNow_39 : decode cX16_talkNow 39 = .ok (.dup, 1) := by decide +kernel
theorem dX16_talkNow_40 : decode cX16_talkNow 40 = .ok (.iconst 3, 1) := by decide +kernel
theorem dX16_talkNow_41 : decode cX16_talkNow 41 = .ok (.aload_n 3, 1) := by decide +kernel
theorem dX16_talkNow_42 : decode cX16_talkNow 42 = .ok (.getfield 273, 3) := by decide +kernel
theorem dX16_talkNow_45 : decode cX16_talkNow 45 = .ok (.iastore, 1) := by decide +kernel
theorem dX16_talkNow_46 : decode cX16_talkNow 46 = .ok (.dup, 1) := by decide +kernel
theorem dX16_talkNow_47 : decode cX16_talkNow 47 = .ok (.iconst 4, 1) := by decide +kernel
theorem dX16_talkNow_48 : decode cX16_talkNow 48 = .ok (.aload_n 3, 1) := by decide +kernel
theorem dX16_talkNow_49 : decode cX16_talkNow 49 = .ok (.getfield 154, 3) := by decide +kernel
theorem dX16_talkNow_52 : decode cX16_talkNow 52 = .ok (.iastore, 1) := by decide +kernel
theorem dX16_talkNow_53 : decode cX16_talkNow 53 = .ok (.dup, 1) := by decide +kernel
theorem dX16_talkNow_54 : decode cX16_talkNow 54 = .ok (.iconst 5, 1) := by decide +kernel
theorem dX16_talkNow_55 : decode cX16_talkNow 55 = .ok (.aload_n 3, 1) := by decide +kernel
theorem dX16_talkNow_56 : decode cX16_talkNow 56 = .ok (.getfield 276, 3) := by decide +kernel
theorem dX16_talkNow_59 : decode cX16_talkNow 59 = .ok (.iastore, 1) := by decide +kernel
theorem dX16_talkNow_60 : decode cX16_talkNow 60 = .ok (.dup, 1) := by decide +kernel
theorem dX16_talkNow_61 : decode cX16_talkNow 61 = .ok (.bipush 6, 2) := by decide +kernel
theorem dX16_talkNow_63 : decode cX16_talkNow 63 = .ok (.aload_n 3, 1) := by decide +kernel
theorem dX16_talkNow_64 : decode cX16_talkNow 64 = .ok (.getfield 249, 3) := by decide +kernel
theorem dX16_talkNow_67 : decode cX16_talkNow 67 = .ok (.iastore, 1) := by decide +kernel
theorem dX16_talkNow_68 : decode cX16_talkNow 68 = .ok (.dup, 1) := by decide +kernel
theorem dX16_talkNow_69 : decode cX16_talkNow 69 = .ok (.bipush 7, 2) := by decide +kernel
theorem dX16_talkNow_71 : decode cX16_talkNow 71 = .ok (.aload_n 3, 1) := by decide +kernel
theorem dX16_talkNow_72 : decode cX16_talkNow 72 = .ok (.invokevirtual 252, 3) := by decide +kernel
theorem dX16_talkNow_75 : decode cX16_talkNow 75 = .ok (.ifCond .eq 7, 3) := by decide +kernel
theorem dX16_talkNow_78 : decode cX16_talkNow 78 = .ok (.iconst 2, 1) := by decide +kernel
theorem dX16_talkNow_79 : decode cX16_talkNow 79 = .ok (.goto 19, 3) := by decide +kernel
theorem dX16_talkNow_82 : decode cX16_talkNow 82 = .ok (.aload_n 0, 1) := by decide +kernel
theorem dX16_talkNow_83 : decode cX16_talkNow 83 = .ok (.getfield 125, 3) := by decide +kernel
theorem dX16_talkNow_86 : decode cX16_talkNow 86 = .ok (.aload_n 3, 1) := by decide +kernel
theorem dX16_talkNow_87 : decode cX16_talkNow 87 = .ok (.getfield 112, 3) := by decide +kernel
theorem dX16_talkNow_90 : decode cX16_talkNow 90 = .ok (.if_icmp .le 7, 3) := by decide +kernel
theorem dX16_talkNow_93 : decode cX16_talkNow 93 = .ok (.iconst 1, 1) := by decide +kernel
theorem dX16_talkNow_94 : decode cX16_talkNow 94 = .ok (.goto 4, 3) := by decide +kernel
theorem dX16_talkNow_97 : decode cX16_talkNow 97 = .ok (.iconst 0, 1) := by decide +kernel
theorem dX16_talkNow_98 : decode cX16_talkNow 98 = .ok (.iastore, 1) := by decide +kernel
theorem dX16_talkNow_99 : decode cX16_talkNow 99 = .ok (.astore 4, 2) := by decide +kernel
theorem dX16_talkNow_101 : decode cX16_talkNow 101 = .ok (.aload 4, 2) := by decide +kernel
theorem dX16_talkNow_103 : decode cX16_talkNow 103 = .ok (.iload_n 2, 1) := by decide +kernel
theorem dX16_talkNow_104 : decode cX16_talkNow 104 = .ok (.iaload, 1) := by decide +kernel
theorem dX16_talkNow_105 : decode cX16_talkNow 105 = .ok (.ireturn, 1) := by decide +kernel
abbrev rm_m_X16_talkNow : Room := { frames := 3, cells := 1, slots := 8, locals := 64 }
set_option maxHeartbeats 4000000 in
set_option maxRecDepth 100000 in
theorem m_X16_talkNow {s0 : State} {l : Launch} {D : va_G} {cy : Nat → ClassId} (G : Gl s0 l D cy) (S : HS) (ea ns nj nm nt nr nq : Nat) (h : RI ea S ns nj nm nt nr nq) (j q : Nat) (hj : j < nt) (hq : q < 8) (hT : ¬ vV S 39 0) : Ctr s0 l D cy yX16_talkNow cX16_talkNow 5 (some .int) rm_m_X16_talkNow S [.ref (gG S 16 0), .int (nI j), .int (nI q)] (PU S (some (.int (rTalkNow S j q)))) := by
  refine pro "CavershamShiftModel" G rfl rfl (Nat.le_of_ble_eq_true rfl) (fun p e s m below meth c ls X w hnm hl => ?_)
  have hx := X.1
  have hb := X.2.1
  have hown := X.2.2.2.1
  have hts := X.2.2.2.2.1
  have hl : lv_has ls 5 [(0, .ref (gG S 16 0)), (1, .int (nI j)), (2, .int (nI q))] := hl
  have h0 := h
  refine lv_aload_n hx hb dX16_talkNow_0 rfl (lv_at hl 0 rfl) ?_
  refine g_16_9 (S := S) (x := (some (gG S 17 9))) X w h.v wF_X16_26 (h.f_ta) dX16_talkNow_1 ?_
  refine lv_iload_n hx hb dX16_talkNow_4 rfl (lv_at hl 1 rfl) ?_
  refine cF (S := S) (t := 17) (nA := 1) (As := [.int (nI j)]) (rest := []) X w hl h.l_ta.1 (m_get G S ea 9 j nt (some (gG S 15 j)) h.l_ta hj (h.e_ta j hj).1) wY_Jx4a65c_get_915e3 wM_X16_46 wIn_Jx4a65c_get_915e3 wSe_Jx4a65c_Jx4a65c_get_915e3_of_java_util_List_get__I_Ljava_lang_Object_ wI_Jx4a65c fw_get (by decide) rfl (by decide +kernel) rfl rfl dX16_talkNow_5 ⟨by decide, by decide⟩ (Nat.le_of_ble_eq_true rfl) (⟨Nat.le_of_ble_eq_true rfl, Nat.le_of_ble_eq_true rfl⟩) (fun v1 S1 H locs hp w => ?_)
  obtain ⟨rfl, rfl⟩ := hp
  refine ckC (S := S) (t := 15) X w (h.e_ta j hj).2 (by decide) rfl wC_X16_105 dX16_talkNow_10 ?_
  refine lv_astore_n (lv' := [(3, .ref (gG S 15 j)), (0, .ref (gG S 16 0)), (1, .int (nI j)), (2, .int (nI q))]) hx hb dX16_talkNow_13 rfl hl (by decide) rfl (fun ls hl => ?_)
  refine lv_bipush (v := 8) hx hb dX16_talkNow_14 (by decide) ?_
  refine nwI (S := S) (atype := .int) (ty := .int) (n := 8) X w 39 0 (hT) (by decide) rfl rfl (Or.inl ⟨rfl, rfl⟩) wA_int (rfl) (by decide) dX16_talkNow_16 (by decide) (by decide) (fun q2 S2 H hS2 w => ?_)
  rw [tmp_0] at hS2
  subst hS2
  have h : RI ea (sTmp S 39 0 q2 8 (fun _ => 0)) ns nj nm nt nr nq := RI.tmp h0 (by decide)
  refine lv_dup hx hb dX16_talkNow_18 rfl ?_
  refine lv_iconst (v := 0) hx hb dX16_talkNow_19 (by decide) ?_
  refine lv_aload_n hx hb dX16_talkNow_20 rfl (lv_at hl 0 rfl) ?_
  refine g_15_0 (S := (sTmp S 39 0 q2 8 (fun _ => 0))) (x := (mI S 240 j)) X w (h.e_ta j hj).2 wF_X16_104 (rfl) dX16_talkNow_21 ?_
  refine tStI (S := S) (t := 39) (i := 0) (q := q2) (n := 8) (f := (fun _ => 0)) (k := 0) X w (by decide) rfl rfl (rfl) (by decide) (by decide) dX16_talkNow_24 (fun H locs w => ?_)
  have h : RI ea (sTmp S 39 0 q2 8 (upd (fun _ => 0) 0 (mI S 240 j))) ns nj nm nt nr nq := RI.tmp h0 (by decide)
  refine lv_dup hx hb dX16_talkNow_25 rfl ?_
  refine lv_iconst (v := 1) hx hb dX16_talkNow_26 (by decide) ?_
  refine lv_aload_n hx hb dX16_talkNow_27 rfl (lv_at hl 0 rfl) ?_
  refine g_15_1 (S := (sTmp S 39 0 q2 8 (upd (fun _ => 0) 0 (mI S 240 j)))) (x := (mI S 241 j)) X w (h.e_ta j hj).2 wF_X16_112 (rfl) dX16_talkNow_28 ?_
  refine tStI (S := S) (t := 39) (i := 0) (q := q2) (n := 8) (f := (upd (fun _ => 0) 0 (mI S 240 j))) (k := 1) X w (by decide) rfl rfl (rfl) (by decide) (by decide) dX16_talkNow_31 (fun H locs w => ?_)
  have h : RI ea (sTmp S 39 0 q2 8 (upd (upd (fun _ => 0) 0 (mI S 240 j)) 1 (mI S 241 j))) ns nj nm nt nr nq := RI.tmp h0 (by decide)
  refine lv_dup hx hb dX16_talkNow_32 rfl ?_
  refine lv_iconst (v := 2) hx hb dX16_talkNow_33 (by decide) ?_
  refine lv_aload_n hx hb dX16_talkNow_34 rfl (lv_at hl 0 rfl) ?_
  refine g_15_2 (S := (sTmp S 39 0 q2 8 (upd (upd (fun _ => 0) 0 (mI S 240 j)) 1 (mI S 241 j)))) (x := (mI S 242 j)) X w (h.e_ta j hj).2 wF_X16_197 (rfl) dX16_talkNow_35 ?_
  refine tStI (S := S) (t := 39) (i := 0) (q := q2) (n := 8) (f := (upd (upd (fun _ => 0) 0 (mI S 240 j)) 1 (mI S 241 j))) (k := 2) X w (by decide) rfl rfl (rfl) (by decide) (by decide) dX16_talkNow_38 (fun H locs w => ?_)
  have h : RI ea (sTmp S 39 0 q2 8 (upd (upd (upd (fun _ => 0) 0 (mI S 240 j)) 1 (mI S 241 j)) 2 (mI S 242 j))) ns nj nm nt nr nq := RI.tmp h0 (by decide)
  refine lv_dup hx hb dX16_talkNow_39 rfl ?_
  refine lv_iconst (v := 3) hx hb dX16_talkNow_40 (by decide) ?_
  refine lv_aload_n hx hb dX16_talkNow_41 rfl (lv_at hl 0 rfl) ?_
  refine g_15_3 (S := (sTmp S 39 0 q2 8 (upd (upd (upd (fun _ => 0) 0 (mI S 240 j)) 1 (mI S 241 j)) 2 (mI S 242 j)))) (x := (mI S 243 j)) X w (h.e_ta j hj).2 wF_X16_273 (rfl) dX16_talkNow_42 ?_
  refine tStI (S := S) (t := 39) (i := 0) (q := q2) (n := 8) (f := (upd (upd (upd (fun _ => 0) 0 (mI S 240 j)) 1 (mI S 241 j)) 2 (mI S 242 j))) (k := 3) X w (by decide) rfl rfl (rfl) (by decide) (by decide) dX16_talkNow_45 (fun H locs w => ?_)
  have h : RI ea (sTmp S 39 0 q2 8 (upd (upd (upd (upd (fun _ => 0) 0 (mI S 240 j)) 1 (mI S 241 j)) 2 (mI S 242 j)) 3 (mI S 243 j))) ns nj nm nt nr nq := RI.tmp h0 (by decide)
  refine lv_dup hx hb dX16_talkNow_46 rfl ?_
  refine lv_iconst (v := 4) hx hb dX16_talkNow_47 (by decide) ?_
  refine lv_aload_n hx hb dX16_talkNow_48 rfl (lv_at hl 0 rfl) ?_
  refine g_15_4 (S := (sTmp S 39 0 q2 8 (upd (upd (upd (upd (fun _ => 0) 0 (mI S 240 j)) 1 (mI S 241 j)) 2 (mI S 242 j)) 3 (mI S 243 j)))) (x := (mI S 244 j)) X w (h.e_ta j hj).2 wF_X16_154 (rfl) dX16_talkNow_49 ?_
  refine tStI (S := S) (t := 39) (i := 0) (q := q2) (n := 8) (f := (upd (upd (upd (upd (fun _ => 0) 0 (mI S 240 j)) 1 (mI S 241 j)) 2 (mI S 242 j)) 3 (mI S 243 j))) (k := 4) X w (by decide) rfl rfl (rfl) (by decide) (by decide) dX16_talkNow_52 (fun H locs w => ?_)
  have h : RI ea (sTmp S 39 0 q2 8 (upd (upd (upd (upd (upd (fun _ => 0) 0 (mI S 240 j)) 1 (mI S 241 j)) 2 (mI S 242 j)) 3 (mI S 243 j)) 4 (mI S 244 j))) ns nj nm nt nr nq := RI.tmp h0 (by decide)
  refine lv_dup hx hb dX16_talkNow_53 rfl ?_
  refine lv_iconst (v := 5) hx hb dX16_talkNow_54 (by decide) ?_
  refine lv_aload_n hx hb dX16_talkNow_55 rfl (lv_at hl 0 rfl) ?_
  refine g_15_5 (S := (sTmp S 39 0 q2 8 (upd (upd (upd (upd (upd (fun _ => 0) 0 (mI S 240 j)) 1 (mI S 241 j)) 2 (mI S 242 j)) 3 (mI S 243 j)) 4 (mI S 244 j)))) (x := (mI S 245 j)) X w (h.e_ta j hj).2 wF_X16_276 (rfl) dX16_talkNow_56 ?_
  refine tStI (S := S) (t := 39) (i := 0) (q := q2) (n := 8) (f := (upd (upd (upd (upd (upd (fun _ => 0) 0 (mI S 240 j)) 1 (mI S 241 j)) 2 (mI S 242 j)) 3 (mI S 243 j)) 4 (mI S 244 j))) (k := 5) X w (by decide) rfl rfl (rfl) (by decide) (by decide) dX16_talkNow_59 (fun H locs w => ?_)
  have h : RI ea (sTmp S 39 0 q2 8 (upd (upd (upd (upd (upd (upd (fun _ => 0) 0 (mI S 240 j)) 1 (mI S 241 j)) 2 (mI S 242 j)) 3 (mI S 243 j)) 4 (mI S 244 j)) 5 (mI S 245 j))) ns nj nm nt nr nq := RI.tmp h0 (by decide)
  refine lv_dup hx hb dX16_talkNow_60 rfl ?_
  refine lv_bipush (v := 6) hx hb dX16_talkNow_61 (by decide) ?_
  refine lv_aload_n hx hb dX16_talkNow_63 rfl (lv_at hl 0 rfl) ?_
  refine g_15_6 (S := (sTmp S 39 0 q2 8 (upd (upd (upd (upd (upd (upd (fun _ => 0) 0 (mI S 240 j)) 1 (mI S 241 j)) 2 (mI S 242 j)) 3 (mI S 243 j)) 4 (mI S 244 j)) 5 (mI S 245 j)))) (x := (mI S 246 j)) X w (h.e_ta j hj).2 wF_X16_249 (rfl) dX16_talkNow_64 ?_
  refine tStI (S := S) (t := 39) (i := 0) (q := q2) (n := 8) (f := (upd (upd (upd (upd (upd (upd (fun _ => 0) 0 (mI S 240 j)) 1 (mI S 241 j)) 2 (mI S 242 j)) 3 (mI S 243 j)) 4 (mI S 244 j)) 5 (mI S 245 j))) (k := 6) X w (by decide) rfl rfl (rfl) (by decide) (by decide) dX16_talkNow_67 (fun H locs w => ?_)
  have h : RI ea (sTmp S 39 0 q2 8 (upd (upd (upd (upd (upd (upd (upd (fun _ => 0) 0 (mI S 240 j)) 1 (mI S 241 j)) 2 (mI S 242 j)) 3 (mI S 243 j)) 4 (mI S 244 j)) 5 (mI S 245 j)) 6 (mI S 246 j))) ns nj nm nt nr nq := RI.tmp h0 (by decide)
  refine lv_dup hx hb dX16_talkNow_68 rfl ?_
  refine lv_bipush (v := 7) hx hb dX16_talkNow_69 (by decide) ?_
  refine lv_aload_n hx hb dX16_talkNow_71 rfl (lv_at hl 0 rfl) ?_
  refine cV (S := (sTmp S 39 0 q2 8 (upd (upd (upd (upd (upd (upd (upd (fun _ => 0) 0 (mI S 240 j)) 1 (mI S 241 j)) 2 (mI S 242 j)) 3 (mI S 243 j)) 4 (mI S 244 j)) 5 (mI S 245 j)) 6 (mI S 246 j)))) (nA := 0) (As := []) (rest := [.int 7, .ref (gG (sTmp S 39 0 q2 8 (fun _ => 0)) 39 0), .ref (gG (sTmp S 39 0 q2 8 (fun _ => 0)) 39 0)]) X w hl (h.e_ta j hj).2 (m_X15_isReported G (sTmp S 39 0 q2 8 (upd (upd (upd (upd (upd (upd (upd (fun _ => 0) 0 (mI S 240 j)) 1 (mI S 241 j)) 2 (mI S 242 j)) 3 (mI S 243 j)) 4 (mI S 244 j)) 5 (mI S 245 j)) 6 (mI S 246 j))) j (h.e_ta j hj).2) wY_X15_isReported wM_X16_252 wIn_X15_isReported wSe_X15_X15_isReported wI_X15 (by decide) rfl (by decide +kernel) rfl rfl dX16_talkNow_72 ⟨by decide, by decide⟩ (Nat.le_of_ble_eq_true rfl) (⟨Nat.le_of_ble_eq_true rfl, Nat.le_of_ble_eq_true rfl⟩) (fun v3 S1 H locs hp w => ?_)
  obtain ⟨rfl, rfl⟩ := hp
  refine lv_if_eq (tgt := 82) hx hb dX16_talkNow_75 (by decide) (fun hrep => ?_) (fun hrep => ?_)
  · have hlast : (0 : Int32) = 0 := rfl
    refine lv_aload_n hx hb dX16_talkNow_82 rfl (lv_at hl 1 rfl) ?_
    refine g_16_1 (S := (sTmp S 39 0 q2 8 (upd (upd (upd (upd (upd (upd (upd (fun _ => 0) 0 (mI S 240 j)) 1 (mI S 241 j)) 2 (mI S 242 j)) 3 (mI S 243 j)) 4 (mI S 244 j)) 5 (mI S 245 j)) 6 (mI S 246 j)))) (x := (mI S 257 0)) X w h.v wF_X16_125 (rfl) dX16_talkNow_83 ?_
    refine lv_aload_n hx hb dX16_talkNow_86 rfl (lv_at hl 0 rfl) ?_
    refine g_15_1 (S := (sTmp S 39 0 q2 8 (upd (upd (upd (upd (upd (upd (upd (fun _ => 0) 0 (mI S 240 j)) 1 (mI S 241 j)) 2 (mI S 242 j)) 3 (mI S 243 j)) 4 (mI S 244 j)) 5 (mI S 245 j)) 6 (mI S 246 j)))) (x := (mI S 241 j)) X w (h.e_ta j hj).2 wF_X16_112 (rfl) dX16_talkNow_87 ?_
    refine lv_icmp_le (tgt := 97) hx hb dX16_talkNow_90 (by decide) (fun hlt9 => ?_) (fun hlt9 => ?_)
    · have hlast : (0 : Int32) = rTalkNow S j 7 := ((if_neg (of_decide_eq_false (b2i_f hrep))).trans (if_neg (Int32.not_lt.mpr hlt9))).symm
      refine lv_iconst (v := 0) hx hb dX16_talkNow_97 (by decide) ?_
      refine tStI (S := S) (t := 39) (i := 0) (q := q2) (n := 8) (f := (upd (upd (upd (upd (upd (upd (upd (fun _ => 0) 0 (mI S 240 j)) 1 (mI S 241 j)) 2 (mI S 242 j)) 3 (mI S 243 j)) 4 (mI S 244 j)) 5 (mI S 245 j)) 6 (mI S 246 j))) (k := 7) X w (by decide) rfl rfl (rfl) (by decide) (by decide) dX16_talkNow_98 (fun H locs w => ?_)
      have h : RI ea (sTmp S 39 0 q2 8 (upd (upd (upd (upd (upd (upd (upd (upd (fun _ => 0) 0 (mI S 240 j)) 1 (mI S 241 j)) 2 (mI S 242 j)) 3 (mI S 243 j)) 4 (mI S 244 j)) 5 (mI S 245 j)) 6 (mI S 246 j)) 7 0)) ns nj nm nt nr nq := RI.tmp h0 (by decide)
      refine lv_astore (lv' := [(4, .ref (gG (sTmp S 39 0 q2 8 (fun _ => 0)) 39 0)), (3, .ref (gG S 15 j)), (0, .ref (gG S 16 0)), (1, .int (nI j)), (2, .int (nI q))]) hx hb dX16_talkNow_99 hl (by decide) rfl (fun ls hl => ?_)
      refine lv_aload hx hb dX16_talkNow_101 (lv_at hl 0 rfl) ?_
      refine lv_iload_n hx hb dX16_talkNow_103 rfl (lv_at hl 4 rfl) ?_
      refine tLdI (S := S) (t := 39) (i := 0) (q := q2) (n := 8) (f := (upd (upd (upd (upd (upd (upd (upd (upd (fun _ => 0) 0 (mI S 240 j)) 1 (mI S 241 j)) 2 (mI S 242 j)) 3 (mI S 243 j)) 4 (mI S 244 j)) 5 (mI S 245 j)) 6 (mI S 246 j)) 7 0)) (k := q) (v := rTalkNow S j q) X w (by decide) rfl rfl (rfl) (hq) (by decide) (by rcases (show q = 0 ∨ q = 1 ∨ q = 2 ∨ q = 3 ∨ q = 4 ∨ q = 5 ∨ q = 6 ∨ q = 7 by omega) with rfl | rfl | rfl | rfl | rfl | rfl | rfl | rfl <;> first | rfl | exact hlast) dX16_talkNow_104 ?_
      have w := w.off hT Off.tmp
      exact rI X w rfl dX16_talkNow_105 (by decide) (by decide) (pu_i rfl)
    · have hlast : (1 : Int32) = rTalkNow S j 7 := ((if_neg (of_decide_eq_false (b2i_f hrep))).trans (if_pos (Int32.not_le.mp hlt9))).symm
      refine lv_iconst (v := 1) hx hb dX16_talkNow_93 (by decide) ?_
      refine lv_goto (tgt := 98) hx hb dX16_talkNow_94 (by decide) ?_
      refine tStI (S := S) (t := 39) (i := 0) (q := q2) (n := 8) (f := (upd (upd (upd (upd (upd (upd (upd (fun _ => 0) 0 (mI S 240 j)) 1 (mI S 241 j)) 2 (mI S 242 j)) 3 (mI S 243 j)) 4 (mI S 244 j)) 5 (mI S 245 j)) 6 (mI S 246 j))) (k := 7) X w (by decide) rfl rfl (rfl) (by decide) (by decide) dX16_talkNow_98 (fun H locs w => ?_)
      have h : RI ea (sTmp S 39 0 q2 8 (upd (upd (upd (upd (upd (upd (upd (upd (fun _ => 0) 0 (mI S 240 j)) 1 (mI S 241 j)) 2 (mI S 242 j)) 3 (mI S 243 j)) 4 (mI S 244 j)) 5 (mI S 245 j)) 6 (mI S 246 j)) 7 1)) ns nj nm nt nr nq := RI.tmp h0 (by decide)
      refine lv_astore (lv' := [(4, .ref (gG (sTmp S 39 0 q2 8 (fun _ => 0)) 39 0)), (3, .ref (gG S 15 j)), (0, .ref (gG S 16 0)), (1, .int (nI j)), (2, .int (nI q))]) hx hb dX16_talkNow_99 hl (by decide) rfl (fun ls hl => ?_)
      refine lv_aload hx hb dX16_talkNow_101 (lv_at hl 0 rfl) ?_
      refine lv_iload_n hx hb dX16_talkNow_103 rfl (lv_at hl 4 rfl) ?_
      refine tLdI (S := S) (t := 39) (i := 0) (q := q2) (n := 8) (f := (upd (upd (upd (upd (upd (upd (upd (upd (fun _ => 0) 0 (mI S 240 j)) 1 (mI S 241 j)) 2 (mI S 242 j)) 3 (mI S 243 j)) 4 (mI S 244 j)) 5 (mI S 245 j)) 6 (mI S 246 j)) 7 1)) (k := q) (v := rTalkNow S j q) X w (by decide) rfl rfl (rfl) (hq) (by decide) (by rcases (show q = 0 ∨ q = 1 ∨ q = 2 ∨ q = 3 ∨ q = 4 ∨ q = 5 ∨ q = 6 ∨ q = 7 by omega) with rfl | rfl | rfl | rfl | rfl | rfl | rfl | rfl <;> first | rfl | exact hlast) dX16_talkNow_104 ?_
      have w := w.off hT Off.tmp
      exact rI X w rfl dX16_talkNow_105 (by decide) (by decide) (pu_i rfl)
  · have hlast : (2 : Int32) = rTalkNow S j 7 := (if_pos (of_decide_eq_true (b2i_t hrep))).symm
    refine lv_iconst (v := 2) hx hb dX16_talkNow_78 (by decide) ?_
    refine lv_goto (tgt := 98) hx hb dX16_talkNow_79 (by decide) ?_
    refine tStI (S := S) (t := 39) (i := 0) (q := q2) (n := 8) (f := (upd (upd (upd (upd (upd (upd (upd (fun _ => 0) 0 (mI S 240 j)) 1 (mI S 241 j)) 2 (mI S 242 j)) 3 (mI S 243 j)) 4 (mI S 244 j)) 5 (mI S 245 j)) 6 (mI S 246 j))) (k := 7) X w (by decide) rfl rfl (rfl) (by decide) (by decide) dX16_talkNow_98 (fun H locs w => ?_)
    have h : RI ea (sTmp S 39 0 q2 8 (upd (upd (upd (upd (upd (upd (upd (upd (fun _ => 0) 0 (mI S 240 j)) 1 (mI S 241 j)) 2 (mI S 242 j)) 3 (mI S 243 j)) 4 (mI S 244 j)) 5 (mI S 245 j)) 6 (mI S 246 j)) 7 2)) ns nj nm nt nr nq := RI.tmp h0 (by decide)
    refine lv_astore (lv' := [(4, .ref (gG (sTmp S 39 0 q2 8 (fun _ => 0)) 39 0)), (3, .ref (gG S 15 j)), (0, .ref (gG S 16 0)), (1, .int (nI j)), (2, .int (nI q))]) hx hb dX16_talkNow_99 hl (by decide) rfl (fun ls hl => ?_)
    refine lv_aload hx hb dX16_talkNow_101 (lv_at hl 0 rfl) ?_
    refine lv_iload_n hx hb dX16_talkNow_103 rfl (lv_at hl 4 rfl) ?_
    refine tLdI (S := S) (t := 39) (i := 0) (q := q2) (n := 8) (f := (upd (upd (upd (upd (upd (upd (upd (upd (fun _ => 0) 0 (mI S 240 j)) 1 (mI S 241 j)) 2 (mI S 242 j)) 3 (mI S 243 j)) 4 (mI S 244 j)) 5 (mI S 245 j)) 6 (mI S 246 j)) 7 2)) (k := q) (v := rTalkNow S j q) X w (by decide) rfl rfl (rfl) (hq) (by decide) (by rcases (show q = 0 ∨ q = 1 ∨ q = 2 ∨ q = 3 ∨ q = 4 ∨ q = 5 ∨ q = 6 ∨ q = 7 by omega) with rfl | rfl | rfl | rfl | rfl | rfl | rfl | rfl <;> first | rfl | exact hlast) dX16_talkNow_104 ?_
    have w := w.off hT Off.tmp
    exact rI X w rfl dX16_talkNow_105 (by decide) (by decide) (pu_i rfl)
