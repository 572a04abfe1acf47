def hN (S : HS) : Nat := (mI S 257 0).toNatClampNeg
theorem RI.hNx {ea : Nat} {S : HS} {ns nj nm nt nr nq : Nat} (h : RI ea S ns nj nm nt nr nq) : hN S ≤ 720 ∧ mI S 257 0 = nI (hN S) := by
  obtain ⟨g, h1, h2⟩ := h.x_ho
  have e : hN S = g := by unfold hN; rw [h2]; exact nI_clamp (by omega)
  rw [e]; exact ⟨h1, h2⟩
def rTalkNow (S : HS) (j q : Nat) : Int32 := match q with
  | 0 => mI S 240 j
  | 1 => mI S 241 j
  | 2 => mI S 242 j
  | 3 => mI S 243 j
  | 4 => mI S 244 j
  | 5 => mI S 245 j
  | 6 => mI S 246 j
  | _ => if mI S 247 j ≠ -1 then 2 else if mI S 241 j < mI S 257 0 then 1 else 0
def rTold (S : HS) (i : Nat) : Nat → Int32
  | 0 => 0
  | k + 1 => if mI S 240 k = nI i then rTold S i k + 1 else rTold S i k
def rRepd (S : HS) (i : Nat) : Nat → Int32
  | 0 => 0
  | k + 1 => if mI S 240 k = nI i then rRepd S i k + (if mI S 247 k ≠ -1 then 1 else 0) else rRepd S i k
def rStaNow (S : HS) (ns nj nt i q : Nat) : Int32 := match q with
  | 0 => mI S 229 i
  | 1 => mI S 224 i
  | 2 => mI S 225 i
  | 3 => mI S 226 i
  | 4 => mI S 227 i
  | 5 => b2i (sIn (mI S 228 i) (nI (hN S % 24)))
  | 6 => rComes S ns nj i (nI (hN S % 24))
  | 7 => rTold S i nt
  | _ => rRepd S i nt

theorem dX16_talkNow_0 : decode cX16_talkNow 0 = .ok (.aload_n 0, 1) := by decide +kernel
theorem dX16_talkNow_1 : decode cX16_talkNow 1 = .ok (.getfield 26, 3) := by decide +kernel
theorem dX16_talkNow_4 : decode cX16_talkNow 4 = .ok (.iload_n 1, 1) := by decide +kernel
theorem dX16_talkNow_5 : decode cX16_talkNow 5 = .ok (.invokeinterface 46 2, 5) := by decide +kernel
theorem dX16_talkNow_10 : decode cX16_talkNow 10 = .ok (.checkcast 105, 3) := by decide +kernel
theorem dX16_talkNow_13 : decode cX16_talkNow 13 = .ok (.astore_n 3, 1) := by decide +kernel
theorem dX16_talkNow_14 : decode cX16_talkNow 14 = .ok (.bipush 8, 2) := by decide +kernel
theorem dX16_talkNow_16 : decode cX16_talkNow 16 = .ok (.newarray .int, 2) := by decide +kernel
theorem dX16_talkNow_18 : decode cX16_talkNow 18 = .ok (.dup, 1) := by decide +kernel
theorem dX16_talkNow_19 : decode cX16_talkNow 19 = .ok (.iconst 0, 1) := by decide +kernel
theorem dX16_talkNow_20 : decode cX16_talkNow 20 = .ok (.aload_n 3, 1) := by decide +kernel
theorem dX16_talkNow_21 : decode cX16_talkNow 21 = .ok (.getfield 104, 3) := by decide +kernel
theorem dX16_talkNow_24 : decode cX16_talkNow 24 = .ok (.iastore, 1) := by decide +kernel
theorem dX16_talkNow_25 : decode cX16_talkNow 25 = .ok (.dup, 1) := by decide +kernel
theorem dX16_talkNow_26 : decode cX16_talkNow 26 = .ok (.iconst 1, 1) := by decide +kernel
theorem dX16_talkNow_27 : decode cX16_talkNow 27 = .ok (.aload_n 3, 1) := by decide +kernel
theorem dX16_talkNow_28 : decode cX16_talkNow 28 = .ok (.getfield 112, 3) := by decide +kernel
theorem dX16_talkNow_31 : decode cX16_talkNow 31 = .ok (.iastore, 1) := by decide +kernel
theorem dX16_talkNow_32 : decode cX16_talkNow 32 = .ok (.dup, 1) := by decide +kernel
theorem dX16_talkNow_33 : decode cX16_talkNow 33 = .ok (.iconst 2, 1) := by decide +kernel
theorem dX16_talkNow_34 : decode cX16_talkNow 34 = .ok (.aload_n 3, 1) := by decide +kernel
theorem dX16_talkNow_35 : decode cX16_talkNow 35 = .ok (.getfield 197, 3) := by decide +kernel
theorem dX16_talkNow_38 : decode cX16_talkNow 38 = .ok (.iastore, 1) := by decide +kernel
theorem dX16_talkNow_39 : decode cX16_talkNow 39 = .ok (.dup, 1) := by decide +kernel
theorem dX16_talkNow_40 : decode cX16_talkNow 40 = .ok (.iconst 3, 1) := by decide +kernel
theorem dX16_talkNow_41 : decode cX16_talkNow 41 = .ok (.aload_n 3, 1) := by decide +kernel
theorem dX16_talkNow_42 : decode cX16_talkNow 42 = .ok (.getfield 273, 3) := by decide +kernel
theorem dX16_talkNow_45 : decode cX16_talkNow 45 = .ok (.iastore, 1) := by decide +kernel
theorem dX16_talkNow_46 : decode cX16_talkNow 46 = .ok (.dup, 1) := by decide +kernel
theorem dX16_talkNow_47 : decode cX16_talkNow 47 = .ok (.iconst 4, 1) := by decide +kernel
theorem dX16_talkNow_48 : decode cX16_talkNow 48 = .ok (.aload_n 3, 1) := by decide +kernel
theorem dX16_talkNow_49 : decode cX16_talkNow 49 = .ok (.getfield 154, 3) := by decide +kernel
theorem dX16_talkNow_52 : decode cX16_talkNow 52 = .ok (.iastore, 1) := by decide +kernel
theorem dX16_talkNow_53 : decode cX16_talkNow 53 = .ok (.dup, 1) := by decide +kernel
theorem dX16_talkNow_54 : decode cX16_talkNow 54 = .ok (.iconst 5, 1) := by decide +kernel
theorem dX16_talkNow_55 : decode cX16_talkNow 55 = .ok (.aload_n 3, 1) := by decide +kernel
theorem dX16_talkNow_56 : decode cX16_talkNow 56 = .ok (.getfield 276, 3) := by decide +kernel
theorem dX16_talkNow_59 : decode cX16_talkNow 59 = .ok (.iastore, 1) := by decide +kernel
theorem dX16_talkNow_60 : decode cX16_talkNow 60 = .ok (.dup, 1) := by decide +kernel
theorem dX16_talkNow_61 : decode cX16_talkNow 61 = .ok (.bipush 6, 2) := by decide +kernel
theorem dX16_talkNow_63 : decode cX16_talkNow 63 = .ok (.aload_n 3, 1) := by decide +kernel
theorem dX16_talkNow_64 : decode cX16_talkNow 64 = .ok (.getfield 249, 3) := by decide +kernel
theorem dX16_talkNow_67 : decode cX16_talkNow 67 = .ok (.iastore, 1) := by decide +kernel
theorem dX16_talkNow_68 : decode cX16_talkNow 68 = .ok (.dup, 1) := by decide +kernel
theorem dX16_talkNow_69 : decode cX16_talkNow 69 = .ok (.bipush 7, 2) := by decide +kernel
theorem dX16_talkNow_71 : decode cX16_talkNow 71 = .ok (.aload_n 3, 1) := by decide +kernel
theorem dX16_talkNow_72 : decode cX16_talkNow 72 = .ok (.invokevirtual 252, 3) := by decide +kernel
theorem dX16_talkNow_75 : decode cX16_talkNow 75 = .ok (.ifCond .eq 7, 3) := by decide +kernel
theorem dX16_talkNow_78 : decode cX16_talkNow 78 = .ok (.iconst 2, 1) := by decide +kernel
theorem dX16_talkNow_79 : decode cX16_talkNow 79 = .ok (.goto 19, 3) := by decide +kernel
theorem dX16_talkNow_82 : decode cX16_talkNow 82 = .ok (.aload_n 0, 1) := by decide +kernel
theorem dX16_talkNow_83 : decode cX16_talkNow 83 = .ok (.getfield 125, 3) := by decide +kernel
theorem dX16_talkNow_86 : decode cX16_talkNow 86 = .ok (.aload_n 3, 1) := by decide +kernel
theorem dX16_talkNow_87 : decode cX16_talkNow 87 = .ok (.getfield 112, 3) := by decide +kernel
theorem dX16_talkNow_90 : decode cX16_talkNow 90 = .ok (.if_icmp .le 7, 3) := by decide +kernel
theorem dX16_talkNow_93 : decode cX16_talkNow 93 = .ok (.iconst 1, 1) := by decide +kernel
theorem dX16_talkNow_94 : decode cX16_talkNow 94 = .ok (.goto 4, 3) := by decide +kernel
theorem dX16_talkNow_97 : decode cX16_talkNow 97 = .ok (.iconst 0, 1) := by decide +kernel
theorem dX16_talkNow_98 : decode cX16_talkNow 98 = .ok (.iastore, 1) := by decide +kernel
theorem dX16_talkNow_99 : decode cX16_talkNow 99 = .ok (.astore 4, 2) := by decide +kernel
theorem dX16_talkNow_101 : decode cX16_talkNow 101 = .ok (.aload 4, 2) := by decide +kernel
theorem dX16_talkNow_103 : decode cX16_talkNow 103 = .ok (.iload_n 2, 1) := by decide +kernel
theorem dX16_talkNow_104 : decode cX16_talkNow 104 = .ok (.iaload, 1) := by decide +kernel
theorem dX16_talkNow_105 : decode cX16_talkNow 105 = .ok (.ireturn, 1) := by decide +kernel
abbrev rm_m_X16_talkNow : Room := { frames := 3, cells := 1, slots := 8, locals := 64 }
set_option maxHeartbeats 4000000 in
set_option maxRecDepth 100000 in
theorem m_X16_talkNow {s0 : State} {l : Launch} {D : va_G} {cy : Nat → ClassId} (G : Gl s0 l D cy) (S : HS) (ea ns nj nm nt nr nq : Nat) (h : RI ea S ns nj nm nt nr nq) (j q : Nat) (hj : j < nt) (hq : q < 8) (hT : ¬ vV S 39 0) : Ctr s0 l D cy yX16_talkNow cX16_talkNow 5 (some .int) rm_m_X16_talkNow S [.ref (gG S 16 0), .int (nI j), .int (nI q)] (PU S (some (.int (rTalkNow S j q)))) := by
  refine pro "CavershamShiftModel" G rfl rfl (Nat.le_of_ble_eq_true rfl) (fun p e s m below meth c ls X w hnm hl => ?_)
  have hx := X.1
  have hb := X.2.1
  have hown := X.2.2.2.1
  have hts := X.2.2.2.2.1
  have hl : lv_has ls 5 [(0, .ref (gG S 16 0)), (1, .int (nI j)), (2, .int (nI q))] := hl
  have h0 := h
  refine lv_aload_n hx hb dX16_talkNow_0 rfl (lv_at hl 0 rfl) ?_
  refine g_16_9 (S := S) (x := (some (gG S 17 9))) X w h.v wF_X16_26 (h.f_ta) dX16_talkNow_1 ?_
  refine lv_iload_n hx hb dX16_talkNow_4 rfl (lv_at hl 1 rfl) ?_
  refine cF (S := S) (t := 17) (nA := 1) (As := [.int (nI j)]) (rest := []) X w hl h.l_ta.1 (m_get G S ea 9 j nt (some (gG S 15 j)) h.l_ta hj (h.e_ta j hj).1) wY_Jx4a65c_get_915e3 wM_X16_46 wIn_Jx4a65c_get_915e3 wSe_Jx4a65c_Jx4a65c_get_915e3_of_java_util_List_get__I_Ljava_lang_Object_ wI_Jx4a65c fw_get (by decide) rfl (by decide +kernel) rfl rfl dX16_talkNow_5 ⟨by decide, by decide⟩ (Nat.le_of_ble_eq_true rfl) (⟨Nat.le_of_ble_eq_true rfl, Nat.le_of_ble_eq_true rfl⟩) (fun v1 S1 H locs hp w => ?_)
  obtain ⟨rfl, rfl⟩ := hp
  refine ckC (S := S) (t := 15) X w (h.e_ta j hj).2 (by decide) rfl wC_X16_105 dX16_talkNow_10 ?_
  refine lv_astore_n (lv' := [(3, .ref (gG S 15 j)), (0, .ref (gG S 16 0)), (1, .int (nI j)), (2, .int (nI q))]) hx hb dX16_talkNow_13 rfl hl (by decide) rfl (fun ls hl => ?_)
  refine lv_bipush (v := 8) hx hb dX16_talkNow_14 (by decide) ?_
  refine nwI (S := S) (atype := .int) (ty := .int) (n := 8) X w 39 0 (hT) (by decide) rfl rfl (Or.inl ⟨rfl, rfl⟩) wA_int (rfl) (by decide) dX16_talkNow_16 (by decide) (by decide) (fun q2 S2 H hS2 w => ?_)
  rw [tmp_0] at hS2
  subst hS2
  have h : RI ea (sTmp S 39 0 q2 8 (fun _ => 0)) ns nj nm nt nr nq := RI.tmp h0 (by decide)
  refine lv_dup hx hb dX16_talkNow_18 rfl ?_
  refine lv_iconst (v := 0) hx hb dX16_talkNow_19 (by decide) ?_
  refine lv_aload_n hx hb dX16_talkNow_20 rfl (lv_at hl 0 rfl) ?_
  refine g_15_0 (S := (sTmp S 39 0 q2 8 (fun _ => 0))) (x := (mI S 240 j)) X w (h.e_ta j hj).2 wF_X16_104 (rfl) dX16_talkNow_21 ?_
  refine tStI (S := S) (t := 39) (i := 0) (q := q2) (n := 8) (f := (fun _ => 0)) (k := 0) X w (by decide) rfl rfl (rfl) (by decide) (by decide) dX16_talkNow_24 (fun H locs w => ?_)
  have h : RI ea (sTmp S 39 0 q2 8 (upd (fun _ => 0) 0 (mI S 240 j))) ns nj nm nt nr nq := RI.tmp h0 (by decide)
  refine lv_dup hx hb dX16_talkNow_25 rfl ?_
  refine lv_iconst (v := 1) hx hb dX16_talkNow_26 (by decide) ?_
  refine lv_aload_n hx hb dX16_talkNow_27 rfl (lv_at hl 0 rfl) ?_
  refine g_15_1 (S := (sTmp S 39 0 q2 8 (upd (fun _ => 0) 0 (mI S 240 j)))) (x := (mI S 241 j)) X w (h.e_ta j hj).2 wF_X16_112 (rfl) dX16_talkNow_28 ?_
  refine tStI (S := S) (t := 39) (i := 0) (q := q2) (n := 8) (f := (upd (fun _ => 0) 0 (mI S 240 j))) (k := 1) X w (by decide) rfl rfl (rfl) (by decide) (by decide) dX16_talkNow_31 (fun H locs w => ?_)
  have h : RI ea (sTmp S 39 0 q2 8 (upd (upd (fun _ => 0) 0 (mI S 240 j)) 1 (mI S 241 j))) ns nj nm nt nr nq := RI.tmp h0 (by decide)
  refine lv_dup hx hb dX16_talkNow_32 rfl ?_
  refine lv_iconst (v := 2) hx hb dX16_talkNow_33 (by decide) ?_
  refine lv_aload_n hx hb dX16_talkNow_34 rfl (lv_at hl 0 rfl) ?_
  refine g_15_2 (S := (sTmp S 39 0 q2 8 (upd (upd (fun _ => 0) 0 (mI S 240 j)) 1 (mI S 241 j)))) (x := (mI S 242 j)) X w (h.e_ta j hj).2 wF_X16_197 (rfl) dX16_talkNow_35 ?_
  refine tStI (S := S) (t := 39) (i := 0) (q := q2) (n := 8) (f := (upd (upd (fun _ => 0) 0 (mI S 240 j)) 1 (mI S 241 j))) (k := 2) X w (by decide) rfl rfl (rfl) (by decide) (by decide) dX16_talkNow_38 (fun H locs w => ?_)
  have h : RI ea (sTmp S 39 0 q2 8 (upd (upd (upd (fun _ => 0) 0 (mI S 240 j)) 1 (mI S 241 j)) 2 (mI S 242 j))) ns nj nm nt nr nq := RI.tmp h0 (by decide)
  refine lv_dup hx hb dX16_talkNow_39 rfl ?_
  refine lv_iconst (v := 3) hx hb dX16_talkNow_40 (by decide) ?_
  refine lv_aload_n hx hb dX16_talkNow_41 rfl (lv_at hl 0 rfl) ?_
  refine g_15_3 (S := (sTmp S 39 0 q2 8 (upd (upd (upd (fun _ => 0) 0 (mI S 240 j)) 1 (mI S 241 j)) 2 (mI S 242 j)))) (x := (mI S 243 j)) X w (h.e_ta j hj).2 wF_X16_273 (rfl) dX16_talkNow_42 ?_
  refine tStI (S := S) (t := 39) (i := 0) (q := q2) (n := 8) (f := (upd (upd (upd (fun _ => 0) 0 (mI S 240 j)) 1 (mI S 241 j)) 2 (mI S 242 j))) (k := 3) X w (by decide) rfl rfl (rfl) (by decide) (by decide) dX16_talkNow_45 (fun H locs w => ?_)
  have h : RI ea (sTmp S 39 0 q2 8 (upd (upd (upd (upd (fun _ => 0) 0 (mI S 240 j)) 1 (mI S 241 j)) 2 (mI S 242 j)) 3 (mI S 243 j))) ns nj nm nt nr nq := RI.tmp h0 (by decide)
  refine lv_dup hx hb dX16_talkNow_46 rfl ?_
  refine lv_iconst (v := 4) hx hb dX16_talkNow_47 (by decide) ?_
  refine lv_aload_n hx hb dX16_talkNow_48 rfl (lv_at hl 0 rfl) ?_
  refine g_15_4 (S := (sTmp S 39 0 q2 8 (upd (upd (upd (upd (fun _ => 0) 0 (mI S 240 j)) 1 (mI S 241 j)) 2 (mI S 242 j)) 3 (mI S 243 j)))) (x := (mI S 244 j)) X w (h.e_ta j hj).2 wF_X16_154 (rfl) dX16_talkNow_49 ?_
  refine tStI (S := S) (t := 39) (i := 0) (q := q2) (n := 8) (f := (upd (upd (upd (upd (fun _ => 0) 0 (mI S 240 j)) 1 (mI S 241 j)) 2 (mI S 242 j)) 3 (mI S 243 j))) (k := 4) X w (by decide) rfl rfl (rfl) (by decide) (by decide) dX16_talkNow_52 (fun H locs w => ?_)
  have h : RI ea (sTmp S 39 0 q2 8 (upd (upd (upd (upd (upd (fun _ => 0) 0 (mI S 240 j)) 1 (mI S 241 j)) 2 (mI S 242 j)) 3 (mI S 243 j)) 4 (mI S 244 j))) ns nj nm nt nr nq := RI.tmp h0 (by decide)
  refine lv_dup hx hb dX16_talkNow_53 rfl ?_
  refine lv_iconst (v := 5) hx hb dX16_talkNow_54 (by decide) ?_
  refine lv_aload_n hx hb dX16_talkNow_55 rfl (lv_at hl 0 rfl) ?_
  refine g_15_5 (S := (sTmp S 39 0 q2 8 (upd (upd (upd (upd (upd (fun _ => 0) 0 (mI S 240 j)) 1 (mI S 241 j)) 2 (mI S 242 j)) 3 (mI S 243 j)) 4 (mI S 244 j)))) (x := (mI S 245 j)) X w (h.e_ta j hj).2 wF_X16_276 (rfl) dX16_talkNow_56 ?_
  refine tStI (S := S) (t := 39) (i := 0) (q := q2) (n := 8) (f := (upd (upd (upd (upd (upd (fun _ => 0) 0 (mI S 240 j)) 1 (mI S 241 j)) 2 (mI S 242 j)) 3 (mI S 243 j)) 4 (mI S 244 j))) (k := 5) X w (by decide) rfl rfl (rfl) (by decide) (by decide) dX16_talkNow_59 (fun H locs w => ?_)
  have h : RI ea (sTmp S 39 0 q2 8 (upd (upd (upd (upd (upd (upd (fun _ => 0) 0 (mI S 240 j)) 1 (mI S 241 j)) 2 (mI S 242 j)) 3 (mI S 243 j)) 4 (mI S 244 j)) 5 (mI S 245 j))) ns nj nm nt nr nq := RI.tmp h0 (by decide)
  refine lv_dup hx hb dX16_talkNow_60 rfl ?_
  refine lv_bipush (v := 6) hx hb dX16_talkNow_61 (by decide) ?_
  refine lv_aload_n hx hb dX16_talkNow_63 rfl (lv_at hl 0 rfl) ?_
  refine g_15_6 (S := (sTmp S 39 0 q2 8 (upd (upd (upd (upd (upd (upd (fun _ => 0) 0 (mI S 240 j)) 1 (mI S 241 j)) 2 (mI S 242 j)) 3 (mI S 243 j)) 4 (mI S 244 j)) 5 (mI S 245 j)))) (x := (mI S 246 j)) X w (h.e_ta j hj).2 wF_X16_249 (rfl) dX16_talkNow_64 ?_
  refine tStI (S := S) (t := 39) (i := 0) (q := q2) (n := 8) (f := (upd (upd (upd (upd (upd (upd (fun _ => 0) 0 (mI S 240 j)) 1 (mI S 241 j)) 2 (mI S 242 j)) 3 (mI S 243 j)) 4 (mI S 244 j)) 5 (mI S 245 j))) (k := 6) X w (by decide) rfl rfl (rfl) (by decide) (by decide) dX16_talkNow_67 (fun H locs w => ?_)
  have h : RI ea (sTmp S 39 0 q2 8 (upd (upd (upd (upd (upd (upd (upd (fun _ => 0) 0 (mI S 240 j)) 1 (mI S 241 j)) 2 (mI S 242 j)) 3 (mI S 243 j)) 4 (mI S 244 j)) 5 (mI S 245 j)) 6 (mI S 246 j))) ns nj nm nt nr nq := RI.tmp h0 (by decide)
  refine lv_dup hx hb dX16_talkNow_68 rfl ?_
  refine lv_bipush (v := 7) hx hb dX16_talkNow_69 (by decide) ?_
  refine lv_aload_n hx hb dX16_talkNow_71 rfl (lv_at hl 0 rfl) ?_
  refine cV (S := (sTmp S 39 0 q2 8 (upd (upd (upd (upd (upd (upd (upd (fun _ => 0) 0 (mI S 240 j)) 1 (mI S 241 j)) 2 (mI S 242 j)) 3 (mI S 243 j)) 4 (mI S 244 j)) 5 (mI S 245 j)) 6 (mI S 246 j)))) (nA := 0) (As := []) (rest := [.int 7, .ref (gG (sTmp S 39 0 q2 8 (fun _ => 0)) 39 0), .ref (gG (sTmp S 39 0 q2 8 (fun _ => 0)) 39 0)]) X w hl (h.e_ta j hj).2 (m_X15_isReported G (sTmp S 39 0 q2 8 (upd (upd (upd (upd (upd (upd (upd (fun _ => 0) 0 (mI S 240 j)) 1 (mI S 241 j)) 2 (mI S 242 j)) 3 (mI S 243 j)) 4 (mI S 244 j)) 5 (mI S 245 j)) 6 (mI S 246 j))) j (h.e_ta j hj).2) wY_X15_isReported wM_X16_252 wIn_X15_isReported wSe_X15_X15_isReported wI_X15 (by decide) rfl (by decide +kernel) rfl rfl dX16_talkNow_72 ⟨by decide, by decide⟩ (Nat.le_of_ble_eq_true rfl) (⟨Nat.le_of_ble_eq_true rfl, Nat.le_of_ble_eq_true rfl⟩) (fun v3 S1 H locs hp w => ?_)
  obtain ⟨rfl, rfl⟩ := hp
  refine lv_if_eq (tgt := 82) hx hb dX16_talkNow_75 (by decide) (fun hrep => ?_) (fun hrep => ?_)
  · have hlast : (0 : Int32) = 0 := rfl
    refine lv_aload_n hx hb dX16_talkNow_82 rfl (lv_at hl 1 rfl) ?_
    refine g_16_1 (S := (sTmp S 39 0 q2 8 (upd (upd (upd (upd (upd (upd (upd (fun _ => 0) 0 (mI S 240 j)) 1 (mI S 241 j)) 2 (mI S 242 j)) 3 (mI S 243 j)) 4 (mI S 244 j)) 5 (mI S 245 j)) 6 (mI S 246 j)))) (x := (mI S 257 0)) X w h.v wF_X16_125 (rfl) dX16_talkNow_83 ?_
    refine lv_aload_n hx hb dX16_talkNow_86 rfl (lv_at hl 0 rfl) ?_
    refine g_15_1 (S := (sTmp S 39 0 q2 8 (upd (upd (upd (upd (upd (upd (upd (fun _ => 0) 0 (mI S 240 j)) 1 (mI S 241 j)) 2 (mI S 242 j)) 3 (mI S 243 j)) 4 (mI S 244 j)) 5 (mI S 245 j)) 6 (mI S 246 j)))) (x := (mI S 241 j)) X w (h.e_ta j hj).2 wF_X16_112 (rfl) dX16_talkNow_87 ?_
    refine lv_icmp_le (tgt := 97) hx hb dX16_talkNow_90 (by decide) (fun hlt9 => ?_) (fun hlt9 => ?_)
    · have hlast : (0 : Int32) = rTalkNow S j 7 := ((if_neg (of_decide_eq_false (b2i_f hrep))).trans (if_neg (Int32.not_lt.mpr hlt9))).symm
      refine lv_iconst (v := 0) hx hb dX16_talkNow_97 (by decide) ?_
      refine tStI (S := S) (t := 39) (i := 0) (q := q2) (n := 8) (f := (upd (upd (upd (upd (upd (upd (upd (fun _ => 0) 0 (mI S 240 j)) 1 (mI S 241 j)) 2 (mI S 242 j)) 3 (mI S 243 j)) 4 (mI S 244 j)) 5 (mI S 245 j)) 6 (mI S 246 j))) (k := 7) X w (by decide) rfl rfl (rfl) (by decide) (by decide) dX16_talkNow_98 (fun H locs w => ?_)
      have h : RI ea (sTmp S 39 0 q2 8 (upd (upd (upd (upd (upd (upd (upd (upd (fun _ => 0) 0 (mI S 240 j)) 1 (mI S 241 j)) 2 (mI S 242 j)) 3 (mI S 243 j)) 4 (mI S 244 j)) 5 (mI S 245 j)) 6 (mI S 246 j)) 7 0)) ns nj nm nt nr nq := RI.tmp h0 (by decide)
      refine lv_astore (lv' := [(4, .ref (gG (sTmp S 39 0 q2 8 (fun _ => 0)) 39 0)), (3, .ref (gG S 15 j)), (0, .ref (gG S 16 0)), (1, .int (nI j)), (2, .int (nI q))]) hx hb dX16_talkNow_99 hl (by decide) rfl (fun ls hl => ?_)
      refine lv_aload hx hb dX16_talkNow_101 (lv_at hl 0 rfl) ?_
      refine lv_iload_n hx hb dX16_talkNow_103 rfl (lv_at hl 4 rfl) ?_
      refine tLdI (S := S) (t := 39) (i := 0) (q := q2) (n := 8) (f := (upd (upd (upd (upd (upd (upd (upd (upd (fun _ => 0) 0 (mI S 240 j)) 1 (mI S 241 j)) 2 (mI S 242 j)) 3 (mI S 243 j)) 4 (mI S 244 j)) 5 (mI S 245 j)) 6 (mI S 246 j)) 7 0)) (k := q) (v := rTalkNow S j q) X w (by decide) rfl rfl (rfl) (hq) (by decide) (by rcases (show q = 0 ∨ q = 1 ∨ q = 2 ∨ q = 3 ∨ q = 4 ∨ q = 5 ∨ q = 6 ∨ q = 7 by omega) with rfl | rfl | rfl | rfl | rfl | rfl | rfl | rfl <;> first | rfl | exact hlast) dX16_talkNow_104 ?_
      have w := w.off hT Off.tmp
      exact rI X w rfl dX16_talkNow_105 (by decide) (by decide) (pu_i rfl)
    · have hlast : (1 : Int32) = rTalkNow S j 7 := ((if_neg (of_decide_eq_false (b2i_f hrep))).trans (if_pos (Int32.not_le.mp hlt9))).symm
      refine lv_iconst (v := 1) hx hb dX16_talkNow_93 (by decide) ?_
      refine lv_goto (tgt := 98) hx hb dX16_talkNow_94 (by decide) ?_
      refine tStI (S := S) (t := 39) (i := 0) (q := q2) (n := 8) (f := (upd (upd (upd (upd (upd (upd (upd (fun _ => 0) 0 (mI S 240 j)) 1 (mI S 241 j)) 2 (mI S 242 j)) 3 (mI S 243 j)) 4 (mI S 244 j)) 5 (mI S 245 j)) 6 (mI S 246 j))) (k := 7) X w (by decide) rfl rfl (rfl) (by decide) (by decide) dX16_talkNow_98 (fun H locs w => ?_)
      have h : RI ea (sTmp S 39 0 q2 8 (upd (upd (upd (upd (upd (upd (upd (upd (fun _ => 0) 0 (mI S 240 j)) 1 (mI S 241 j)) 2 (mI S 242 j)) 3 (mI S 243 j)) 4 (mI S 244 j)) 5 (mI S 245 j)) 6 (mI S 246 j)) 7 1)) ns nj nm nt nr nq := RI.tmp h0 (by decide)
      refine lv_astore (lv' := [(4, .ref (gG (sTmp S 39 0 q2 8 (fun _ => 0)) 39 0)), (3, .ref (gG S 15 j)), (0, .ref (gG S 16 0)), (1, .int (nI j)), (2, .int (nI q))]) hx hb dX16_talkNow_99 hl (by decide) rfl (fun ls hl => ?_)
      refine lv_aload hx hb dX16_talkNow_101 (lv_at hl 0 rfl) ?_
      refine lv_iload_n hx hb dX16_talkNow_103 rfl (lv_at hl 4 rfl) ?_
      refine tLdI (S := S) (t := 39) (i := 0) (q := q2) (n := 8) (f := (upd (upd (upd (upd (upd (upd (upd (upd (fun _ => 0) 0 (mI S 240 j)) 1 (mI S 241 j)) 2 (mI S 242 j)) 3 (mI S 243 j)) 4 (mI S 244 j)) 5 (mI S 245 j)) 6 (mI S 246 j)) 7 1)) (k := q) (v := rTalkNow S j q) X w (by decide) rfl rfl (rfl) (hq) (by decide) (by rcases (show q = 0 ∨ q = 1 ∨ q = 2 ∨ q = 3 ∨ q = 4 ∨ q = 5 ∨ q = 6 ∨ q = 7 by omega) with rfl | rfl | rfl | rfl | rfl | rfl | rfl | rfl <;> first | rfl | exact hlast) dX16_talkNow_104 ?_
      have w := w.off hT Off.tmp
      exact rI X w rfl dX16_talkNow_105 (by decide) (by decide) (pu_i rfl)
  · have hlast : (2 : Int32) = rTalkNow S j 7 := (if_pos (of_decide_eq_true (b2i_t hrep))).symm
    refine lv_iconst (v := 2) hx hb dX16_talkNow_78 (by decide) ?_
    refine lv_goto (tgt := 98) hx hb dX16_talkNow_79 (by decide) ?_
    refine tStI (S := S) (t := 39) (i := 0) (q := q2) (n := 8) (f := (upd (upd (upd (upd (upd (upd (upd (fun _ => 0) 0 (mI S 240 j)) 1 (mI S 241 j)) 2 (mI S 242 j)) 3 (mI S 243 j)) 4 (mI S 244 j)) 5 (mI S 245 j)) 6 (mI S 246 j))) (k := 7) X w (by decide) rfl rfl (rfl) (by decide) (by decide) dX16_talkNow_98 (fun H locs w => ?_)
    have h : RI ea (sTmp S 39 0 q2 8 (upd (upd (upd (upd (upd (upd (upd (upd (fun _ => 0) 0 (mI S 240 j)) 1 (mI S 241 j)) 2 (mI S 242 j)) 3 (mI S 243 j)) 4 (mI S 244 j)) 5 (mI S 245 j)) 6 (mI S 246 j)) 7 2)) ns nj nm nt nr nq := RI.tmp h0 (by decide)
    refine lv_astore (lv' := [(4, .ref (gG (sTmp S 39 0 q2 8 (fun _ => 0)) 39 0)), (3, .ref (gG S 15 j)), (0, .ref (gG S 16 0)), (1, .int (nI j)), (2, .int (nI q))]) hx hb dX16_talkNow_99 hl (by decide) rfl (fun ls hl => ?_)
    refine lv_aload hx hb dX16_talkNow_101 (lv_at hl 0 rfl) ?_
    refine lv_iload_n hx hb dX16_talkNow_103 rfl (lv_at hl 4 rfl) ?_
    refine tLdI (S := S) (t := 39) (i := 0) (q := q2) (n := 8) (f := (upd (upd (upd (upd (upd (upd (upd (upd (fun _ => 0) 0 (mI S 240 j)) 1 (mI S 241 j)) 2 (mI S 242 j)) 3 (mI S 243 j)) 4 (mI S 244 j)) 5 (mI S 245 j)) 6 (mI S 246 j)) 7 2)) (k := q) (v := rTalkNow S j q) X w (by decide) rfl rfl (rfl) (hq) (by decide) (by rcases (show q = 0 ∨ q = 1 ∨ q = 2 ∨ q = 3 ∨ q = 4 ∨ q = 5 ∨ q = 6 ∨ q = 7 by omega) with rfl | rfl | rfl | rfl | rfl | rfl | rfl | rfl <;> first | rfl | exact hlast) dX16_talkNow_104 ?_
    have w := w.off hT Off.tmp
    exact rI X w rfl dX16_talkNow_105 (by decide) (by decide) (pu_i rfl)

theorem add0 (x : Int32) : x + 0 = x := Int32.add_zero x
def rRepNow (S : HS) (j q : Nat) : Int32 := match q with
  | 0 => rSort (mI S 244 j)
  | 1 => rLen (mI S 244 j) (mI S 243 j) (mI S 248 j)
  | 2 => rCaught (mI S 243 j) (mI S 248 j)
  | 3 => rHeard (mI S 245 j) (mI S 248 j)
  | 4 => rGuess (mI S 245 j) (mI S 248 j)
  | 5 => mI S 247 j
  | 6 => mI S 251 j
  | 7 => mI S 249 j
  | 8 => mI S 250 j
  | 9 => mI S 248 j
  | 10 => b2i (rWrong (mI S 247 j) (mI S 246 j) (mI S 245 j) (mI S 248 j))
  | _ => mI S 253 j

theorem dX16_stationNow_0 : decode cX16_stationNow 0 = .ok (.aload_n 0, 1) := by decide +kernel
theorem dX16_stationNow_1 : decode cX16_stationNow 1 = .ok (.getfield 16, 3) := by decide +kernel
theorem dX16_stationNow_4 : decode cX16_stationNow 4 = .ok (.iload_n 1, 1) := by decide +kernel
theorem dX16_stationNow_5 : decode cX16_stationNow 5 = .ok (.invokeinterface 46 2, 5) := by decide +kernel
theorem dX16_stationNow_10 : decode cX16_stationNow 10 = .ok (.checkcast 52, 3) := by decide +kernel
theorem dX16_stationNow_13 : decode cX16_stationNow 13 = .ok (.astore_n 3, 1) := by decide +kernel
theorem dX16_stationNow_14 : decode cX16_stationNow 14 = .ok (.iconst 0, 1) := by decide +kernel
theorem dX16_stationNow_15 : decode cX16_stationNow 15 = .ok (.istore 4, 2) := by decide +kernel
theorem dX16_stationNow_17 : decode cX16_stationNow 17 = .ok (.iconst 0, 1) := by decide +kernel
theorem dX16_stationNow_18 : decode cX16_stationNow 18 = .ok (.istore 5, 2) := by decide +kernel
theorem dX16_stationNow_20 : decode cX16_stationNow 20 = .ok (.iconst 0, 1) := by decide +kernel
theorem dX16_stationNow_21 : decode cX16_stationNow 21 = .ok (.istore 6, 2) := by decide +kernel
theorem dX16_stationNow_23 : decode cX16_stationNow 23 = .ok (.iload 6, 2) := by decide +kernel
theorem dX16_stationNow_25 : decode cX16_stationNow 25 = .ok (.aload_n 0, 1) := by decide +kernel
theorem dX16_stationNow_26 : decode cX16_stationNow 26 = .ok (.getfield 26, 3) := by decide +kernel
theorem dX16_stationNow_29 : decode cX16_stationNow 29 = .ok (.invokeinterface 73 1, 5) := by decide +kernel
theorem dX16_stationNow_34 : decode cX16_stationNow 34 = .ok (.if_icmp .ge 66, 3) := by decide +kernel
theorem dX16_stationNow_37 : decode cX16_stationNow 37 = .ok (.aload_n 0, 1) := by decide +kernel
theorem dX16_stationNow_38 : decode cX16_stationNow 38 = .ok (.getfield 26, 3) := by decide +kernel
theorem dX16_stationNow_41 : decode cX16_stationNow 41 = .ok (.iload 6, 2) := by decide +kernel
theorem dX16_stationNow_43 : decode cX16_stationNow 43 = .ok (.invokeinterface 46 2, 5) := by decide +kernel
theorem dX16_stationNow_48 : decode cX16_stationNow 48 = .ok (.checkcast 105, 3) := by decide +kernel
theorem dX16_stationNow_51 : decode cX16_stationNow 51 = .ok (.getfield 104, 3) := by decide +kernel
theorem dX16_stationNow_54 : decode cX16_stationNow 54 = .ok (.iload_n 1, 1) := by decide +kernel
theorem dX16_stationNow_55 : decode cX16_stationNow 55 = .ok (.if_icmp .eq 6, 3) := by decide +kernel
theorem dX16_stationNow_58 : decode cX16_stationNow 58 = .ok (.goto 36, 3) := by decide +kernel
theorem dX16_stationNow_61 : decode cX16_stationNow 61 = .ok (.iinc 4 1, 3) := by decide +kernel
theorem dX16_stationNow_64 : decode cX16_stationNow 64 = .ok (.iload 5, 2) := by decide +kernel
theorem dX16_stationNow_66 : decode cX16_stationNow 66 = .ok (.aload_n 0, 1) := by decide +kernel
theorem dX16_stationNow_67 : decode cX16_stationNow 67 = .ok (.getfield 26, 3) := by decide +kernel
theorem dX16_stationNow_70 : decode cX16_stationNow 70 = .ok (.iload 6, 2) := by decide +kernel
theorem dX16_stationNow_72 : decode cX16_stationNow 72 = .ok (.invokeinterface 46 2, 5) := by decide +kernel
theorem dX16_stationNow_77 : decode cX16_stationNow 77 = .ok (.checkcast 105, 3) := by decide +kernel
theorem dX16_stationNow_80 : decode cX16_stationNow 80 = .ok (.invokevirtual 252, 3) := by decide +kernel
theorem dX16_stationNow_83 : decode cX16_stationNow 83 = .ok (.ifCond .eq 7, 3) := by decide +kernel
theorem dX16_stationNow_86 : decode cX16_stationNow 86 = .ok (.iconst 1, 1) := by decide +kernel
theorem dX16_stationNow_87 : decode cX16_stationNow 87 = .ok (.goto 4, 3) := by decide +kernel
theorem dX16_stationNow_90 : decode cX16_stationNow 90 = .ok (.iconst 0, 1) := by decide +kernel
theorem dX16_stationNow_91 : decode cX16_stationNow 91 = .ok (.iadd, 1) := by decide +kernel
theorem dX16_stationNow_92 : decode cX16_stationNow 92 = .ok (.istore 5, 2) := by decide +kernel
theorem dX16_stationNow_94 : decode cX16_stationNow 94 = .ok (.iinc 6 1, 3) := by decide +kernel
theorem dX16_stationNow_97 : decode cX16_stationNow 97 = .ok (.goto (-74), 3) := by decide +kernel
theorem dX16_stationNow_100 : decode cX16_stationNow 100 = .ok (.aload_n 0, 1) := by decide +kernel
theorem dX16_stationNow_101 : decode cX16_stationNow 101 = .ok (.getfield 125, 3) := by decide +kernel
theorem dX16_stationNow_104 : decode cX16_stationNow 104 = .ok (.bipush 24, 2) := by decide +kernel
theorem dX16_stationNow_106 : decode cX16_stationNow 106 = .ok (.irem, 1) := by decide +kernel
theorem dX16_stationNow_107 : decode cX16_stationNow 107 = .ok (.istore 6, 2) := by decide +kernel
theorem dX16_stationNow_109 : decode cX16_stationNow 109 = .ok (.bipush 9, 2) := by decide +kernel
theorem dX16_stationNow_111 : decode cX16_stationNow 111 = .ok (.newarray .int, 2) := by decide +kernel
theorem dX16_stationNow_113 : decode cX16_stationNow 113 = .ok (.dup, 1) := by decide +kernel
theorem dX16_stationNow_114 : decode cX16_stationNow 114 = .ok (.iconst 0, 1) := by decide +kernel
theorem dX16_stationNow_115 : decode cX16_stationNow 115 = .ok (.aload_n 3, 1) := by decide +kernel
theorem dX16_stationNow_116 : decode cX16_stationNow 116 = .ok (.getfield 70, 3) := by decide +kernel
theorem dX16_stationNow_119 : decode cX16_stationNow 119 = .ok (.iastore, 1) := by decide +kernel
theorem dX16_stationNow_120 : decode cX16_stationNow 120 = .ok (.dup, 1) := by decide +kernel
theorem dX16_stationNow_121 : decode cX16_stationNow 121 = .ok (.iconst 1, 1) := by decide +kernel
theorem dX16_stationNow_122 : decode cX16_stationNow 122 = .ok (.aload_n 3, 1) := by decide +kernel
theorem dX16_stationNow_123 : decode cX16_stationNow 123 = .ok (.getfield 64, 3) := by decide +kernel
theorem dX16_stationNow_126 : decode cX16_stationNow 126 = .ok (.iastore, 1) := by decide +kernel
theorem dX16_stationNow_127 : decode cX16_stationNow 127 = .ok (.dup, 1) := by decide +kernel
theorem dX16_stationNow_128 : decode cX16_stationNow 128 = .ok (.iconst 2, 1) := by decide +kernel
theorem dX16_stationNow_129 : decode cX16_stationNow 129 = .ok (.aload_n 3, 1) := by decide +kernel
theorem dX16_stationNow_130 : decode cX16_stationNow 130 = .ok (.getfield 67, 3) := by decide +kernel
theorem dX16_stationNow_133 : decode cX16_stationNow 133 = .ok (.iastore, 1) := by decide +kernel
theorem dX16_stationNow_134 : decode cX16_stationNow 134 = .ok (.dup, 1) := by decide +kernel
theorem dX16_stationNow_135 : decode cX16_stationNow 135 = .ok (.iconst 3, 1) := by decide +kernel
theorem dX16_stationNow_136 : decode cX16_stationNow 136 = .ok (.aload_n 3, 1) := by decide +kernel
theorem dX16_stationNow_137 : decode cX16_stationNow 137 = .ok (.getfield 109, 3) := by decide +kernel
theorem dX16_stationNow_140 : decode cX16_stationNow 140 = .ok (.iastore, 1) := by decide +kernel
theorem dX16_stationNow_141 : decode cX16_stationNow 141 = .ok (.dup, 1) := by decide +kernel
theorem dX16_stationNow_142 : decode cX16_stationNow 142 = .ok (.iconst 4, 1) := by decide +kernel
theorem dX16_stationNow_143 : decode cX16_stationNow 143 = .ok (.aload_n 3, 1) := by decide +kernel
theorem dX16_stationNow_144 : decode cX16_stationNow 144 = .ok (.getfield 98, 3) := by decide +kernel
theorem dX16_stationNow_147 : decode cX16_stationNow 147 = .ok (.iastore, 1) := by decide +kernel
theorem dX16_stationNow_148 : decode cX16_stationNow 148 = .ok (.dup, 1) := by decide +kernel
theorem dX16_stationNow_149 : decode cX16_stationNow 149 = .ok (.iconst 5, 1) := by decide +kernel
theorem dX16_stationNow_150 : decode cX16_stationNow 150 = .ok (.aload_n 0, 1) := by decide +kernel
theorem dX16_stationNow_151 : decode cX16_stationNow 151 = .ok (.iload_n 1, 1) := by decide +kernel
theorem dX16_stationNow_152 : decode cX16_stationNow 152 = .ok (.iload 6, 2) := by decide +kernel
theorem dX16_stationNow_154 : decode cX16_stationNow 154 = .ok (.invokevirtual 61, 3) := by decide +kernel
theorem dX16_stationNow_157 : decode cX16_stationNow 157 = .ok (.ifCond .eq 7, 3) := by decide +kernel
theorem dX16_stationNow_160 : decode cX16_stationNow 160 = .ok (.iconst 1, 1) := by decide +kernel
theorem dX16_stationNow_161 : decode cX16_stationNow 161 = .ok (.goto 4, 3) := by decide +kernel
theorem dX16_stationNow_164 : decode cX16_stationNow 164 = .ok (.iconst 0, 1) := by decide +kernel
theorem dX16_stationNow_165 : decode cX16_stationNow 165 = .ok (.iastore, 1) := by decide +kernel
theorem dX16_stationNow_166 : decode cX16_stationNow 166 = .ok (.dup, 1) := by decide +kernel
theorem dX16_stationNow_167 : decode cX16_stationNow 167 = .ok (.bipush 6, 2) := by decide +kernel
theorem dX16_stationNow_169 : decode cX16_stationNow 169 = .ok (.aload_n 0, 1) := by decide +kernel
theorem dX16_stationNow_170 : decode cX16_stationNow 170 = .ok (.iload_n 1, 1) := by decide +kernel
theorem dX16_stationNow_171 : decode cX16_stationNow 171 = .ok (.iload 6, 2) := by decide +kernel
theorem dX16_stationNow_173 : decode cX16_stationNow 173 = .ok (.invokevirtual 85, 3) := by decide +kernel
theorem dX16_stationNow_176 : decode cX16_stationNow 176 = .ok (.iastore, 1) := by decide +kernel
theorem dX16_stationNow_177 : decode cX16_stationNow 177 = .ok (.dup, 1) := by decide +kernel
theorem dX16_stationNow_178 : decode cX16_stationNow 178 = .ok (.bipush 7, 2) := by decide +kernel
theorem dX16_stationNow_180 : decode cX16_stationNow 180 = .ok (.iload 4, 2) := by decide +kernel
theorem dX16_stationNow_182 : decode cX16_stationNow 182 = .ok (.iastore, 1) := by decide +kernel
theorem dX16_stationNow_183 : decode cX16_stationNow 183 = .ok (.dup, 1) := by decide +kernel
theorem dX16_stationNow_184 : decode cX16_stationNow 184 = .ok (.bipush 8, 2) := by decide +kernel
theorem dX16_stationNow_186 : decode cX16_stationNow 186 = .ok (.iload 5, 2) := by decide +kernel
theorem dX16_stationNow_188 : decode cX16_stationNow 188 = .ok (.iastore, 1) := by decide +kernel
theorem dX16_stationNow_189 : decode cX16_stationNow 189 = .ok (.astore 7, 2) := by decide +kernel
theorem dX16_stationNow_191 : decode cX16_stationNow 191 = .ok (.aload 7, 2) := by decide +kernel
theorem dX16_stationNow_193 : decode cX16_stationNow 193 = .ok (.iload_n 2, 1) := by decide +kernel
theorem dX16_stationNow_194 : decode cX16_stationNow 194 = .ok (.iaload, 1) := by decide +kernel
theorem dX16_stationNow_195 : decode cX16_stationNow 195 = .ok (.ireturn, 1) := by decide +kernel
abbrev rm_m_X16_stationNow : Room := { frames := 5, cells := 1, slots := 9, locals := 112 }
set_option maxHeartbeats 4000000 in
set_option maxRecDepth 100000 in
theorem m_X16_stationNow {s0 : State} {l : Launch} {D : va_G} {cy : Nat → ClassId} (G : Gl s0 l D cy) (S : HS) (ea ns nj nm nt nr nq : Nat) (h : RI ea S ns nj nm nt nr nq) (i q : Nat) (hi : i < ns) (hq : q < 9) (hT : ¬ vV S 39 0) : Ctr s0 l D cy yX16_stationNow cX16_stationNow 8 (some .int) rm_m_X16_stationNow S [.ref (gG S 16 0), .int (nI i), .int (nI q)] (PU S (some (.int (rStaNow S ns nj nt i q)))) := by
  refine pro "CavershamShiftModel" G rfl rfl (Nat.le_of_ble_eq_true rfl) (fun p e s m below meth c ls X w hnm hl => ?_)
  have hx := X.1
  have hb := X.2.1
  have hown := X.2.2.2.1
  have hts := X.2.2.2.2.1
  have hl : lv_has ls 8 [(0, .ref (gG S 16 0)), (1, .int (nI i)), (2, .int (nI q))] := hl
  have h0 := h
  refine lv_aload_n hx hb dX16_stationNow_0 rfl (lv_at hl 0 rfl) ?_
  refine g_16_6 (S := S) (x := (some (gG S 17 6))) X w h.v wF_X16_16 (h.f_st) dX16_stationNow_1 ?_
  refine lv_iload_n hx hb dX16_stationNow_4 rfl (lv_at hl 1 rfl) ?_
  refine cF (S := S) (t := 17) (nA := 1) (As := [.int (nI i)]) (rest := []) X w hl h.l_st.1 (m_get G S ea 6 i ns (some (gG S 14 i)) h.l_st hi (h.e_st i hi).1) wY_Jx4a65c_get_915e3 wM_X16_46 wIn_Jx4a65c_get_915e3 wSe_Jx4a65c_Jx4a65c_get_915e3_of_java_util_List_get__I_Ljava_lang_Object_ wI_Jx4a65c fw_get (by decide) rfl (by decide +kernel) rfl rfl dX16_stationNow_5 ⟨by decide, by decide⟩ (Nat.le_of_ble_eq_true rfl) (⟨Nat.le_of_ble_eq_true rfl, Nat.le_of_ble_eq_true rfl⟩) (fun v1 S1 H locs hp w => ?_)
  obtain ⟨rfl, rfl⟩ := hp
  refine ckC (S := S) (t := 14) X w (h.e_st i hi).2 (by decide) rfl wC_X16_52 dX16_stationNow_10 ?_
  refine lv_astore_n (lv' := [(3, .ref (gG S 14 i)), (0, .ref (gG S 16 0)), (1, .int (nI i)), (2, .int (nI q))]) hx hb dX16_stationNow_13 rfl hl (by decide) rfl (fun ls hl => ?_)
  refine lv_iconst (v := 0) hx hb dX16_stationNow_14 (by decide) ?_
  refine lv_istore (lv' := [(4, .int 0), (3, .ref (gG S 14 i)), (0, .ref (gG S 16 0)), (1, .int (nI i)), (2, .int (nI q))]) hx hb dX16_stationNow_15 hl (by decide) rfl (fun ls hl => ?_)
  refine lv_iconst (v := 0) hx hb dX16_stationNow_17 (by decide) ?_
  refine lv_istore (lv' := [(5, .int 0), (4, .int 0), (3, .ref (gG S 14 i)), (0, .ref (gG S 16 0)), (1, .int (nI i)), (2, .int (nI q))]) hx hb dX16_stationNow_18 hl (by decide) rfl (fun ls hl => ?_)
  refine lv_iconst (v := 0) hx hb dX16_stationNow_20 (by decide) ?_
  refine lv_istore (lv' := [(6, .int 0), (5, .int 0), (4, .int 0), (3, .ref (gG S 14 i)), (0, .ref (gG S 16 0)), (1, .int (nI i)), (2, .int (nI q))]) hx hb dX16_stationNow_21 hl (by decide) rfl (fun ls hl => ?_)
  have L23 : ∀ (N : Nat) (k : Nat) (x : Int32) (y : Int32) (H : Heap) (locs : List Loc) (ls : Array Slot), nt - k < N → (k ≤ nt) → (x = rTold S i k) → (y = rRepd S i k) → Wd s0 D cy S s.heap H locs → lv_has ls 8 [(0, .ref (gG S 16 0)), (1, .int (nI i)), (2, .int (nI q)), (3, .ref (gG S 14 i)), (4, .int x), (5, .int y), (6, .int (nI k))] → W p l e rm_m_X16_stationNow s m ([.ref (gG S 16 0), .int (nI i), .int (nI q)] : List Value).toArray below meth c H locs 0 0 (MQ below (GQ s0 D cy (PU S (some (.int (rStaNow S ns nj nt i q))))) ([.ref (gG S 16 0), .int (nI i), .int (nI q)] : List Value).toArray s rm_m_X16_stationNow.cells rm_m_X16_stationNow.slots (A0 s0)) (F0 m 23 ls []) := by
    intro N
    induction N with
    | zero => intros; omega
    | succ N ih23 =>
      intro k x y H locs ls hmu hk hx1 hy1 w hl
      refine lv_iload hx hb dX16_stationNow_23 (lv_at hl 6 rfl) ?_
      refine lv_aload_n hx hb dX16_stationNow_25 rfl (lv_at hl 0 rfl) ?_
      refine g_16_9 (S := S) (x := (some (gG S 17 9))) X w h.v wF_X16_26 (h.f_ta) dX16_stationNow_26 ?_
      refine cF (S := S) (t := 17) (nA := 0) (As := []) (rest := [.int (nI k)]) X w hl h.l_ta.1 (m_size G S ea 9 nt h.l_ta) wY_Jx4a65c_size_8abf5 wM_X16_73 wIn_Jx4a65c_size_8abf5 wSe_Jx4a65c_Jx4a65c_size_8abf5_of_java_util_List_size___I wI_Jx4a65c fw_size (by decide) rfl (by decide +kernel) rfl rfl dX16_stationNow_29 ⟨by decide, by decide⟩ (Nat.le_of_ble_eq_true rfl) (⟨Nat.le_of_ble_eq_true rfl, Nat.le_of_ble_eq_true rfl⟩) (fun v2 S1 H locs hp w => ?_)
      obtain ⟨rfl, rfl⟩ := hp
      refine lv_icmp_ge (tgt := 100) hx hb dX16_stationNow_34 (by decide) (fun hc9 => ?_) (fun hc9 => ?_)
      · have hge : nt ≤ k := by
          have hb1 := h.b_ta
          exact (nI_leI (by omega) (by omega)).mp hc9
        have e7 : x = rTold S i nt := by rw [hx1, show k = nt by omega]
        have e8 : y = rRepd S i nt := by rw [hy1, show k = nt by omega]
        refine lv_aload_n hx hb dX16_stationNow_100 rfl (lv_at hl 0 rfl) ?_
        refine g_16_1 (S := S) (x := (nI (hN S))) X w h.v wF_X16_125 (h.hNx.2) dX16_stationNow_101 ?_
        refine lv_bipush (v := 24) hx hb dX16_stationNow_104 (by decide) ?_
        refine lv_irem hx hb dX16_stationNow_106 (by decide) ?_
        refine lv_topi (fun z3 ez3 => ?_)
        obtain rfl : z3 = nI (hN S % 24) := ez3.trans (pk_rem (d := 24) (by have := h.hNx.1; omega) (by decide) (by decide))
        refine lv_istore (lv' := [(6, .int (nI (hN S % 24))), (0, .ref (gG S 16 0)), (1, .int (nI i)), (2, .int (nI q)), (3, .ref (gG S 14 i)), (4, .int x), (5, .int y)]) hx hb dX16_stationNow_107 hl (by decide) rfl (fun ls hl => ?_)
        refine lv_bipush (v := 9) hx hb dX16_stationNow_109 (by decide) ?_
        refine nwI (S := S) (atype := .int) (ty := .int) (n := 9) X w 39 0 (hT) (by decide) rfl rfl (Or.inl ⟨rfl, rfl⟩) wA_int (rfl) (by decide) dX16_stationNow_111 (by decide) (by decide) (fun q4 S2 H hS2 w => ?_)
        rw [tmp_0] at hS2
        subst hS2
        have h : RI ea (sTmp S 39 0 q4 9 (fun _ => 0)) ns nj nm nt nr nq := RI.tmp h0 (by decide)
        refine lv_dup hx hb dX16_stationNow_113 rfl ?_
        refine lv_iconst (v := 0) hx hb dX16_stationNow_114 (by decide) ?_
        refine lv_aload_n hx hb dX16_stationNow_115 rfl (lv_at hl 4 rfl) ?_
        refine g_14_5 (S := (sTmp S 39 0 q4 9 (fun _ => 0))) (x := (mI S 229 i)) X w (h.e_st i hi).2 wF_X16_70 (rfl) dX16_stationNow_116 ?_
        refine tStI (S := S) (t := 39) (i := 0) (q := q4) (n := 9) (f := (fun _ => 0)) (k := 0) X w (by decide) rfl rfl (rfl) (by decide) (by decide) dX16_stationNow_119 (fun H locs w => ?_)
        have h : RI ea (sTmp S 39 0 q4 9 (upd (fun _ => 0) 0 (mI S 229 i))) ns nj nm nt nr nq := RI.tmp h0 (by decide)
        refine lv_dup hx hb dX16_stationNow_120 rfl ?_
        refine lv_iconst (v := 1) hx hb dX16_stationNow_121 (by decide) ?_
        refine lv_aload_n hx hb dX16_stationNow_122 rfl (lv_at hl 4 rfl) ?_
        refine g_14_0 (S := (sTmp S 39 0 q4 9 (upd (fun _ => 0) 0 (mI S 229 i)))) (x := (mI S 224 i)) X w (h.e_st i hi).2 wF_X16_64 (rfl) dX16_stationNow_123 ?_
        refine tStI (S := S) (t := 39) (i := 0) (q := q4) (n := 9) (f := (upd (fun _ => 0) 0 (mI S 229 i))) (k := 1) X w (by decide) rfl rfl (rfl) (by decide) (by decide) dX16_stationNow_126 (fun H locs w => ?_)
        have h : RI ea (sTmp S 39 0 q4 9 (upd (upd (fun _ => 0) 0 (mI S 229 i)) 1 (mI S 224 i))) ns nj nm nt nr nq := RI.tmp h0 (by decide)
        refine lv_dup hx hb dX16_stationNow_127 rfl ?_
        refine lv_iconst (v := 2) hx hb dX16_stationNow_128 (by decide) ?_
        refine lv_aload_n hx hb dX16_stationNow_129 rfl (lv_at hl 4 rfl) ?_
        refine g_14_1 (S := (sTmp S 39 0 q4 9 (upd (upd (fun _ => 0) 0 (mI S 229 i)) 1 (mI S 224 i)))) (x := (mI S 225 i)) X w (h.e_st i hi).2 wF_X16_67 (rfl) dX16_stationNow_130 ?_
        refine tStI (S := S) (t := 39) (i := 0) (q := q4) (n := 9) (f := (upd (upd (fun _ => 0) 0 (mI S 229 i)) 1 (mI S 224 i))) (k := 2) X w (by decide) rfl rfl (rfl) (by decide) (by decide) dX16_stationNow_133 (fun H locs w => ?_)
        have h : RI ea (sTmp S 39 0 q4 9 (upd (upd (upd (fun _ => 0) 0 (mI S 229 i)) 1 (mI S 224 i)) 2 (mI S 225 i))) ns nj nm nt nr nq := RI.tmp h0 (by decide)
        refine lv_dup hx hb dX16_stationNow_134 rfl ?_
        refine lv_iconst (v := 3) hx hb dX16_stationNow_135 (by decide) ?_
        refine lv_aload_n hx hb dX16_stationNow_136 rfl (lv_at hl 4 rfl) ?_
        refine g_14_2 (S := (sTmp S 39 0 q4 9 (upd (upd (upd (fun _ => 0) 0 (mI S 229 i)) 1 (mI S 224 i)) 2 (mI S 225 i)))) (x := (mI S 226 i)) X w (h.e_st i hi).2 wF_X16_109 (rfl) dX16_stationNow_137 ?_
        refine tStI (S := S) (t := 39) (i := 0) (q := q4) (n := 9) (f := (upd (upd (upd (fun _ => 0) 0 (mI S 229 i)) 1 (mI S 224 i)) 2 (mI S 225 i))) (k := 3) X w (by decide) rfl rfl (rfl) (by decide) (by decide) dX16_stationNow_140 (fun H locs w => ?_)
        have h : RI ea (sTmp S 39 0 q4 9 (upd (upd (upd (upd (fun _ => 0) 0 (mI S 229 i)) 1 (mI S 224 i)) 2 (mI S 225 i)) 3 (mI S 226 i))) ns nj nm nt nr nq := RI.tmp h0 (by decide)
        refine lv_dup hx hb dX16_stationNow_141 rfl ?_
        refine lv_iconst (v := 4) hx hb dX16_stationNow_142 (by decide) ?_
        refine lv_aload_n hx hb dX16_stationNow_143 rfl (lv_at hl 4 rfl) ?_
        refine g_14_3 (S := (sTmp S 39 0 q4 9 (upd (upd (upd (upd (fun _ => 0) 0 (mI S 229 i)) 1 (mI S 224 i)) 2 (mI S 225 i)) 3 (mI S 226 i)))) (x := (mI S 227 i)) X w (h.e_st i hi).2 wF_X16_98 (rfl) dX16_stationNow_144 ?_
        refine tStI (S := S) (t := 39) (i := 0) (q := q4) (n := 9) (f := (upd (upd (upd (upd (fun _ => 0) 0 (mI S 229 i)) 1 (mI S 224 i)) 2 (mI S 225 i)) 3 (mI S 226 i))) (k := 4) X w (by decide) rfl rfl (rfl) (by decide) (by decide) dX16_stationNow_147 (fun H locs w => ?_)
        have h : RI ea (sTmp S 39 0 q4 9 (upd (upd (upd (upd (upd (fun _ => 0) 0 (mI S 229 i)) 1 (mI S 224 i)) 2 (mI S 225 i)) 3 (mI S 226 i)) 4 (mI S 227 i))) ns nj nm nt nr nq := RI.tmp h0 (by decide)
        refine lv_dup hx hb dX16_stationNow_148 rfl ?_
        refine lv_iconst (v := 5) hx hb dX16_stationNow_149 (by decide) ?_
        refine lv_aload_n hx hb dX16_stationNow_150 rfl (lv_at hl 1 rfl) ?_
        refine lv_iload_n hx hb dX16_stationNow_151 rfl (lv_at hl 2 rfl) ?_
        refine lv_iload hx hb dX16_stationNow_152 (lv_at hl 0 rfl) ?_
        refine cV (S := (sTmp S 39 0 q4 9 (upd (upd (upd (upd (upd (fun _ => 0) 0 (mI S 229 i)) 1 (mI S 224 i)) 2 (mI S 225 i)) 3 (mI S 226 i)) 4 (mI S 227 i)))) (nA := 2) (As := [.int (nI i), .int (nI (hN S % 24))]) (rest := [.int 5, .ref (gG (sTmp S 39 0 q4 9 (fun _ => 0)) 39 0), .ref (gG (sTmp S 39 0 q4 9 (fun _ => 0)) 39 0)]) X w hl h.v (m_X16_isOn G (sTmp S 39 0 q4 9 (upd (upd (upd (upd (upd (fun _ => 0) 0 (mI S 229 i)) 1 (mI S 224 i)) 2 (mI S 225 i)) 3 (mI S 226 i)) 4 (mI S 227 i))) ea ns nj nm nt nr nq h i hi (nI (hN S % 24))) wY_X16_isOn wM_X16_61 wIn_X16_isOn wSe_X16_X16_isOn wI_X16 (by decide) rfl (by decide +kernel) rfl rfl dX16_stationNow_154 ⟨by decide, by decide⟩ (Nat.le_of_ble_eq_true rfl) (⟨Nat.le_of_ble_eq_true rfl, Nat.le_of_ble_eq_true rfl⟩) (fun v5 S1 H locs hp w => ?_)
        obtain ⟨rfl, rfl⟩ := hp
        refine lv_if_eq (tgt := 164) hx hb dX16_stationNow_157 (by decide) (fun hon => ?_) (fun hon => ?_)
        · have e5 : (0 : Int32) = rStaNow S ns nj nt i 5 := (b2i_0 (b2i_f hon)).symm
          refine lv_iconst (v := 0) hx hb dX16_stationNow_164 (by decide) ?_
          refine tStI (S := S) (t := 39) (i := 0) (q := q4) (n := 9) (f := (upd (upd (upd (upd (upd (fun _ => 0) 0 (mI S 229 i)) 1 (mI S 224 i)) 2 (mI S 225 i)) 3 (mI S 226 i)) 4 (mI S 227 i))) (k := 5) X w (by decide) rfl rfl (rfl) (by decide) (by decide) dX16_stationNow_165 (fun H locs w => ?_)
          have h : RI ea (sTmp S 39 0 q4 9 (upd (upd (upd (upd (upd (upd (fun _ => 0) 0 (mI S 229 i)) 1 (mI S 224 i)) 2 (mI S 225 i)) 3 (mI S 226 i)) 4 (mI S 227 i)) 5 0)) ns nj nm nt nr nq := RI.tmp h0 (by decide)
          refine lv_dup hx hb dX16_stationNow_166 rfl ?_
          refine lv_bipush (v := 6) hx hb dX16_stationNow_167 (by decide) ?_
          refine lv_aload_n hx hb dX16_stationNow_169 rfl (lv_at hl 1 rfl) ?_
          refine lv_iload_n hx hb dX16_stationNow_170 rfl (lv_at hl 2 rfl) ?_
          refine lv_iload hx hb dX16_stationNow_171 (lv_at hl 0 rfl) ?_
          refine cV (S := (sTmp S 39 0 q4 9 (upd (upd (upd (upd (upd (upd (fun _ => 0) 0 (mI S 229 i)) 1 (mI S 224 i)) 2 (mI S 225 i)) 3 (mI S 226 i)) 4 (mI S 227 i)) 5 0))) (nA := 2) (As := [.int (nI i), .int (nI (hN S % 24))]) (rest := [.int 6, .ref (gG (sTmp S 39 0 q4 9 (fun _ => 0)) 39 0), .ref (gG (sTmp S 39 0 q4 9 (fun _ => 0)) 39 0)]) X w hl h.v (m_X16_comesNow G (sTmp S 39 0 q4 9 (upd (upd (upd (upd (upd (upd (fun _ => 0) 0 (mI S 229 i)) 1 (mI S 224 i)) 2 (mI S 225 i)) 3 (mI S 226 i)) 4 (mI S 227 i)) 5 0)) ea ns nj nm nt nr nq h i hi (nI (hN S % 24))) wY_X16_comesNow wM_X16_85 wIn_X16_comesNow wSe_X16_X16_comesNow wI_X16 (by decide) rfl (by decide +kernel) rfl rfl dX16_stationNow_173 ⟨by decide, by decide⟩ (Nat.le_of_ble_eq_true rfl) (⟨Nat.le_of_ble_eq_true rfl, Nat.le_of_ble_eq_true rfl⟩) (fun v6 S1 H locs hp w => ?_)
          obtain ⟨rfl, rfl⟩ := hp
          refine tStI (S := S) (t := 39) (i := 0) (q := q4) (n := 9) (f := (upd (upd (upd (upd (upd (upd (fun _ => 0) 0 (mI S 229 i)) 1 (mI S 224 i)) 2 (mI S 225 i)) 3 (mI S 226 i)) 4 (mI S 227 i)) 5 0)) (k := 6) X w (by decide) rfl rfl (rfl) (by decide) (by decide) dX16_stationNow_176 (fun H locs w => ?_)
          have h : RI ea (sTmp S 39 0 q4 9 (upd (upd (upd (upd (upd (upd (upd (fun _ => 0) 0 (mI S 229 i)) 1 (mI S 224 i)) 2 (mI S 225 i)) 3 (mI S 226 i)) 4 (mI S 227 i)) 5 0) 6 (rComes (sTmp S 39 0 q4 9 (upd (upd (upd (upd (upd (upd (fun _ => 0) 0 (mI S 229 i)) 1 (mI S 224 i)) 2 (mI S 225 i)) 3 (mI S 226 i)) 4 (mI S 227 i)) 5 0)) ns nj i (nI (hN S % 24))))) ns nj nm nt nr nq := RI.tmp h0 (by decide)
          refine lv_dup hx hb dX16_stationNow_177 rfl ?_
          refine lv_bipush (v := 7) hx hb dX16_stationNow_178 (by decide) ?_
          refine lv_iload hx hb dX16_stationNow_180 (lv_at hl 5 rfl) ?_
          refine tStI (S := S) (t := 39) (i := 0) (q := q4) (n := 9) (f := (upd (upd (upd (upd (upd (upd (upd (fun _ => 0) 0 (mI S 229 i)) 1 (mI S 224 i)) 2 (mI S 225 i)) 3 (mI S 226 i)) 4 (mI S 227 i)) 5 0) 6 (rComes (sTmp S 39 0 q4 9 (upd (upd (upd (upd (upd (upd (fun _ => 0) 0 (mI S 229 i)) 1 (mI S 224 i)) 2 (mI S 225 i)) 3 (mI S 226 i)) 4 (mI S 227 i)) 5 0)) ns nj i (nI (hN S % 24))))) (k := 7) X w (by decide) rfl rfl (rfl) (by decide) (by decide) dX16_stationNow_182 (fun H locs w => ?_)
          have h : RI ea (sTmp S 39 0 q4 9 (upd (upd (upd (upd (upd (upd (upd (upd (fun _ => 0) 0 (mI S 229 i)) 1 (mI S 224 i)) 2 (mI S 225 i)) 3 (mI S 226 i)) 4 (mI S 227 i)) 5 0) 6 (rComes (sTmp S 39 0 q4 9 (upd (upd (upd (upd (upd (upd (fun _ => 0) 0 (mI S 229 i)) 1 (mI S 224 i)) 2 (mI S 225 i)) 3 (mI S 226 i)) 4 (mI S 227 i)) 5 0)) ns nj i (nI (hN S % 24)))) 7 x)) ns nj nm nt nr nq := RI.tmp h0 (by decide)
          refine lv_dup hx hb dX16_stationNow_183 rfl ?_
          refine lv_bipush (v := 8) hx hb dX16_stationNow_184 (by decide) ?_
          refine lv_iload hx hb dX16_stationNow_186 (lv_at hl 6 rfl) ?_
          refine tStI (S := S) (t := 39) (i := 0) (q := q4) (n := 9) (f := (upd (upd (upd (upd (upd (upd (upd (upd (fun _ => 0) 0 (mI S 229 i)) 1 (mI S 224 i)) 2 (mI S 225 i)) 3 (mI S 226 i)) 4 (mI S 227 i)) 5 0) 6 (rComes (sTmp S 39 0 q4 9 (upd (upd (upd (upd (upd (upd (fun _ => 0) 0 (mI S 229 i)) 1 (mI S 224 i)) 2 (mI S 225 i)) 3 (mI S 226 i)) 4 (mI S 227 i)) 5 0)) ns nj i (nI (hN S % 24)))) 7 x)) (k := 8) X w (by decide) rfl rfl (rfl) (by decide) (by decide) dX16_stationNow_188 (fun H locs w => ?_)
          have h : RI ea (sTmp S 39 0 q4 9 (upd (upd (upd (upd (upd (upd (upd (upd (upd (fun _ => 0) 0 (mI S 229 i)) 1 (mI S 224 i)) 2 (mI S 225 i)) 3 (mI S 226 i)) 4 (mI S 227 i)) 5 0) 6 (rComes (sTmp S 39 0 q4 9 (upd (upd (upd (upd (upd (upd (fun _ => 0) 0 (mI S 229 i)) 1 (mI S 224 i)) 2 (mI S 225 i)) 3 (mI S 226 i)) 4 (mI S 227 i)) 5 0)) ns nj i (nI (hN S % 24)))) 7 x) 8 y)) ns nj nm nt nr nq := RI.tmp h0 (by decide)
          refine lv_astore (lv' := [(7, .ref (gG (sTmp S 39 0 q4 9 (fun _ => 0)) 39 0)), (6, .int (nI (hN S % 24))), (0, .ref (gG S 16 0)), (1, .int (nI i)), (2, .int (nI q)), (3, .ref (gG S 14 i)), (4, .int x), (5, .int y)]) hx hb dX16_stationNow_189 hl (by decide) rfl (fun ls hl => ?_)
          refine lv_aload hx hb dX16_stationNow_191 (lv_at hl 0 rfl) ?_
          refine lv_iload_n hx hb dX16_stationNow_193 rfl (lv_at hl 4 rfl) ?_
          refine tLdI (S := S) (t := 39) (i := 0) (q := q4) (n := 9) (f := (upd (upd (upd (upd (upd (upd (upd (upd (upd (fun _ => 0) 0 (mI S 229 i)) 1 (mI S 224 i)) 2 (mI S 225 i)) 3 (mI S 226 i)) 4 (mI S 227 i)) 5 0) 6 (rComes (sTmp S 39 0 q4 9 (upd (upd (upd (upd (upd (upd (fun _ => 0) 0 (mI S 229 i)) 1 (mI S 224 i)) 2 (mI S 225 i)) 3 (mI S 226 i)) 4 (mI S 227 i)) 5 0)) ns nj i (nI (hN S % 24)))) 7 x) 8 y)) (k := q) (v := rStaNow S ns nj nt i q) X w (by decide) rfl rfl (rfl) (hq) (by decide) (by rcases (show q = 0 ∨ q = 1 ∨ q = 2 ∨ q = 3 ∨ q = 4 ∨ q = 5 ∨ q = 6 ∨ q = 7 ∨ q = 8 by omega) with rfl | rfl | rfl | rfl | rfl | rfl | rfl | rfl | rfl <;> first | rfl | exact e5 | exact e7 | exact e8) dX16_stationNow_194 ?_
          have w := w.off hT Off.tmp
          exact rI X w rfl dX16_stationNow_195 (by decide) (by decide) (pu_i rfl)
        · have e5 : (1 : Int32) = rStaNow S ns nj nt i 5 := (b2i_1 (b2i_t hon)).symm
          refine lv_iconst (v := 1) hx hb dX16_stationNow_160 (by decide) ?_
          refine lv_goto (tgt := 165) hx hb dX16_stationNow_161 (by decide) ?_
          refine tStI (S := S) (t := 39) (i := 0) (q := q4) (n := 9) (f := (upd (upd (upd (upd (upd (fun _ => 0) 0 (mI S 229 i)) 1 (mI S 224 i)) 2 (mI S 225 i)) 3 (mI S 226 i)) 4 (mI S 227 i))) (k := 5) X w (by decide) rfl rfl (rfl) (by decide) (by decide) dX16_stationNow_165 (fun H locs w => ?_)
          have h : RI ea (sTmp S 39 0 q4 9 (upd (upd (upd (upd (upd (upd (fun _ => 0) 0 (mI S 229 i)) 1 (mI S 224 i)) 2 (mI S 225 i)) 3 (mI S 226 i)) 4 (mI S 227 i)) 5 1)) ns nj nm nt nr nq := RI.tmp h0 (by decide)
          refine lv_dup hx hb dX16_stationNow_166 rfl ?_
          refine lv_bipush (v := 6) hx hb dX16_stationNow_167 (by decide) ?_
          refine lv_aload_n hx hb dX16_stationNow_169 rfl (lv_at hl 1 rfl) ?_
          refine lv_iload_n hx hb dX16_stationNow_170 rfl (lv_at hl 2 rfl) ?_
          refine lv_iload hx hb dX16_stationNow_171 (lv_at hl 0 rfl) ?_
          refine cV (S := (sTmp S 39 0 q4 9 (upd (upd (upd (upd (upd (upd (fun _ => 0) 0 (mI S 229 i)) 1 (mI S 224 i)) 2 (mI S 225 i)) 3 (mI S 226 i)) 4 (mI S 227 i)) 5 1))) (nA := 2) (As := [.int (nI i), .int (nI (hN S % 24))]) (rest := [.int 6, .ref (gG (sTmp S 39 0 q4 9 (fun _ => 0)) 39 0), .ref (gG (sTmp S 39 0 q4 9 (fun _ => 0)) 39 0)]) X w hl h.v (m_X16_comesNow G (sTmp S 39 0 q4 9 (upd (upd (upd (upd (upd (upd (fun _ => 0) 0 (mI S 229 i)) 1 (mI S 224 i)) 2 (mI S 225 i)) 3 (mI S 226 i)) 4 (mI S 227 i)) 5 1)) ea ns nj nm nt nr nq h i hi (nI (hN S % 24))) wY_X16_comesNow wM_X16_85 wIn_X16_comesNow wSe_X16_X16_comesNow wI_X16 (by decide) rfl (by decide +kernel) rfl rfl dX16_stationNow_173 ⟨by decide, by decide⟩ (Nat.le_of_ble_eq_true rfl) (⟨Nat.le_of_ble_eq_true rfl, Nat.le_of_ble_eq_true rfl⟩) (fun v7 S1 H locs hp w => ?_)
          obtain ⟨rfl, rfl⟩ := hp
          refine tStI (S := S) (t := 39) (i := 0) (q := q4) (n := 9) (f := (upd (upd (upd (upd (upd (upd (fun _ => 0) 0 (mI S 229 i)) 1 (mI S 224 i)) 2 (mI S 225 i)) 3 (mI S 226 i)) 4 (mI S 227 i)) 5 1)) (k := 6) X w (by decide) rfl rfl (rfl) (by decide) (by decide) dX16_stationNow_176 (fun H locs w => ?_)
          have h : RI ea (sTmp S 39 0 q4 9 (upd (upd (upd (upd (upd (upd (upd (fun _ => 0) 0 (mI S 229 i)) 1 (mI S 224 i)) 2 (mI S 225 i)) 3 (mI S 226 i)) 4 (mI S 227 i)) 5 1) 6 (rComes (sTmp S 39 0 q4 9 (upd (upd (upd (upd (upd (upd (fun _ => 0) 0 (mI S 229 i)) 1 (mI S 224 i)) 2 (mI S 225 i)) 3 (mI S 226 i)) 4 (mI S 227 i)) 5 1)) ns nj i (nI (hN S % 24))))) ns nj nm nt nr nq := RI.tmp h0 (by decide)
          refine lv_dup hx hb dX16_stationNow_177 rfl ?_
          refine lv_bipush (v := 7) hx hb dX16_stationNow_178 (by decide) ?_
          refine lv_iload hx hb dX16_stationNow_180 (lv_at hl 5 rfl) ?_
          refine tStI (S := S) (t := 39) (i := 0) (q := q4) (n := 9) (f := (upd (upd (upd (upd (upd (upd (upd (fun _ => 0) 0 (mI S 229 i)) 1 (mI S 224 i)) 2 (mI S 225 i)) 3 (mI S 226 i)) 4 (mI S 227 i)) 5 1) 6 (rComes (sTmp S 39 0 q4 9 (upd (upd (upd (upd (upd (upd (fun _ => 0) 0 (mI S 229 i)) 1 (mI S 224 i)) 2 (mI S 225 i)) 3 (mI S 226 i)) 4 (mI S 227 i)) 5 1)) ns nj i (nI (hN S % 24))))) (k := 7) X w (by decide) rfl rfl (rfl) (by decide) (by decide) dX16_stationNow_182 (fun H locs w => ?_)
          have h : RI ea (sTmp S 39 0 q4 9 (upd (upd (upd (upd (upd (upd (upd (upd (fun _ => 0) 0 (mI S 229 i)) 1 (mI S 224 i)) 2 (mI S 225 i)) 3 (mI S 226 i)) 4 (mI S 227 i)) 5 1) 6 (rComes (sTmp S 39 0 q4 9 (upd (upd (upd (upd (upd (upd (fun _ => 0) 0 (mI S 229 i)) 1 (mI S 224 i)) 2 (mI S 225 i)) 3 (mI S 226 i)) 4 (mI S 227 i)) 5 1)) ns nj i (nI (hN S % 24)))) 7 x)) ns nj nm nt nr nq := RI.tmp h0 (by decide)
          refine lv_dup hx hb dX16_stationNow_183 rfl ?_
          refine lv_bipush (v := 8) hx hb dX16_stationNow_184 (by decide) ?_
          refine lv_iload hx hb dX16_stationNow_186 (lv_at hl 6 rfl) ?_
          refine tStI (S := S) (t := 39) (i := 0) (q := q4) (n := 9) (f := (upd (upd (upd (upd (upd (upd (upd (upd (fun _ => 0) 0 (mI S 229 i)) 1 (mI S 224 i)) 2 (mI S 225 i)) 3 (mI S 226 i)) 4 (mI S 227 i)) 5 1) 6 (rComes (sTmp S 39 0 q4 9 (upd (upd (upd (upd (upd (upd (fun _ => 0) 0 (mI S 229 i)) 1 (mI S 224 i)) 2 (mI S 225 i)) 3 (mI S 226 i)) 4 (mI S 227 i)) 5 1)) ns nj i (nI (hN S % 24)))) 7 x)) (k := 8) X w (by decide) rfl rfl (rfl) (by decide) (by decide) dX16_stationNow_188 (fun H locs w => ?_)
          have h : RI ea (sTmp S 39 0 q4 9 (upd (upd (upd (upd (upd (upd (upd (upd (upd (fun _ => 0) 0 (mI S 229 i)) 1 (mI S 224 i)) 2 (mI S 225 i)) 3 (mI S 226 i)) 4 (mI S 227 i)) 5 1) 6 (rComes (sTmp S 39 0 q4 9 (upd (upd (upd (upd (upd (upd (fun _ => 0) 0 (mI S 229 i)) 1 (mI S 224 i)) 2 (mI S 225 i)) 3 (mI S 226 i)) 4 (mI S 227 i)) 5 1)) ns nj i (nI (hN S % 24)))) 7 x) 8 y)) ns nj nm nt nr nq := RI.tmp h0 (by decide)
          refine lv_astore (lv' := [(7, .ref (gG (sTmp S 39 0 q4 9 (fun _ => 0)) 39 0)), (6, .int (nI (hN S % 24))), (0, .ref (gG S 16 0)), (1, .int (nI i)), (2, .int (nI q)), (3, .ref (gG S 14 i)), (4, .int x), (5, .int y)]) hx hb dX16_stationNow_189 hl (by decide) rfl (fun ls hl => ?_)
          refine lv_aload hx hb dX16_stationNow_191 (lv_at hl 0 rfl) ?_
          refine lv_iload_n hx hb dX16_stationNow_193 rfl (lv_at hl 4 rfl) ?_
          refine tLdI (S := S) (t := 39) (i := 0) (q := q4) (n := 9) (f := (upd (upd (upd (upd (upd (upd (upd (upd (upd (fun _ => 0) 0 (mI S 229 i)) 1 (mI S 224 i)) 2 (mI S 225 i)) 3 (mI S 226 i)) 4 (mI S 227 i)) 5 1) 6 (rComes (sTmp S 39 0 q4 9 (upd (upd (upd (upd (upd (upd (fun _ => 0) 0 (mI S 229 i)) 1 (mI S 224 i)) 2 (mI S 225 i)) 3 (mI S 226 i)) 4 (mI S 227 i)) 5 1)) ns nj i (nI (hN S % 24)))) 7 x) 8 y)) (k := q) (v := rStaNow S ns nj nt i q) X w (by decide) rfl rfl (rfl) (hq) (by decide) (by rcases (show q = 0 ∨ q = 1 ∨ q = 2 ∨ q = 3 ∨ q = 4 ∨ q = 5 ∨ q = 6 ∨ q = 7 ∨ q = 8 by omega) with rfl | rfl | rfl | rfl | rfl | rfl | rfl | rfl | rfl <;> first | rfl | exact e5 | exact e7 | exact e8) dX16_stationNow_194 ?_
          have w := w.off hT Off.tmp
          exact rI X w rfl dX16_stationNow_195 (by decide) (by decide) (pu_i rfl)
      · have hlt : k < nt := by
          have hb1 := h.b_ta
          exact Nat.lt_of_not_le (fun z => hc9 ((nI_leI (by omega) (by omega)).mpr z))
        refine lv_aload_n hx hb dX16_stationNow_37 rfl (lv_at hl 0 rfl) ?_
        refine g_16_9 (S := S) (x := (some (gG S 17 9))) X w h.v wF_X16_26 (h.f_ta) dX16_stationNow_38 ?_
        refine lv_iload hx hb dX16_stationNow_41 (lv_at hl 6 rfl) ?_
        refine cF (S := S) (t := 17) (nA := 1) (As := [.int (nI k)]) (rest := []) X w hl h.l_ta.1 (m_get G S ea 9 k nt (some (gG S 15 k)) h.l_ta hlt (h.e_ta k hlt).1) wY_Jx4a65c_get_915e3 wM_X16_46 wIn_Jx4a65c_get_915e3 wSe_Jx4a65c_Jx4a65c_get_915e3_of_java_util_List_get__I_Ljava_lang_Object_ wI_Jx4a65c fw_get (by decide) rfl (by decide +kernel) rfl rfl dX16_stationNow_43 ⟨by decide, by decide⟩ (Nat.le_of_ble_eq_true rfl) (⟨Nat.le_of_ble_eq_true rfl, Nat.le_of_ble_eq_true rfl⟩) (fun v8 S1 H locs hp w => ?_)
        obtain ⟨rfl, rfl⟩ := hp
        refine ckC (S := S) (t := 15) X w (h.e_ta k hlt).2 (by decide) rfl wC_X16_105 dX16_stationNow_48 ?_
        refine g_15_0 (S := S) (x := (mI S 240 k)) X w (h.e_ta k hlt).2 wF_X16_104 (rfl) dX16_stationNow_51 ?_
        refine lv_iload_n hx hb dX16_stationNow_54 rfl (lv_at hl 1 rfl) ?_
        refine lv_icmp_eq (tgt := 61) hx hb dX16_stationNow_55 (by decide) (fun heq => ?_) (fun heq => ?_)
        · refine lv_iinc (v := (x + 1)) (lv' := [(4, .int (x + 1)), (0, .ref (gG S 16 0)), (1, .int (nI i)), (2, .int (nI q)), (3, .ref (gG S 14 i)), (5, .int y), (6, .int (nI k))]) hx hb dX16_stationNow_61 hl (k := 4) rfl (rfl) (by decide) rfl (fun ls hl => ?_)
          refine lv_iload hx hb dX16_stationNow_64 (lv_at hl 5 rfl) ?_
          refine lv_aload_n hx hb dX16_stationNow_66 rfl (lv_at hl 1 rfl) ?_
          refine g_16_9 (S := S) (x := (some (gG S 17 9))) X w h.v wF_X16_26 (h.f_ta) dX16_stationNow_67 ?_
          refine lv_iload hx hb dX16_stationNow_70 (lv_at hl 6 rfl) ?_
          refine cF (S := S) (t := 17) (nA := 1) (As := [.int (nI k)]) (rest := [.int y]) X w hl h.l_ta.1 (m_get G S ea 9 k nt (some (gG S 15 k)) h.l_ta hlt (h.e_ta k hlt).1) wY_Jx4a65c_get_915e3 wM_X16_46 wIn_Jx4a65c_get_915e3 wSe_Jx4a65c_Jx4a65c_get_915e3_of_java_util_List_get__I_Ljava_lang_Object_ wI_Jx4a65c fw_get (by decide) rfl (by decide +kernel) rfl rfl dX16_stationNow_72 ⟨by decide, by decide⟩ (Nat.le_of_ble_eq_true rfl) (⟨Nat.le_of_ble_eq_true rfl, Nat.le_of_ble_eq_true rfl⟩) (fun v9 S1 H locs hp w => ?_)
          obtain ⟨rfl, rfl⟩ := hp
          refine ckC (S := S) (t := 15) X w (h.e_ta k hlt).2 (by decide) rfl wC_X16_105 dX16_stationNow_77 ?_
          refine cV (S := S) (nA := 0) (As := []) (rest := [.int y]) X w hl (h.e_ta k hlt).2 (m_X15_isReported G S k (h.e_ta k hlt).2) wY_X15_isReported wM_X16_252 wIn_X15_isReported wSe_X15_X15_isReported wI_X15 (by decide) rfl (by decide +kernel) rfl rfl dX16_stationNow_80 ⟨by decide, by decide⟩ (Nat.le_of_ble_eq_true rfl) (⟨Nat.le_of_ble_eq_true rfl, Nat.le_of_ble_eq_true rfl⟩) (fun v10 S1 H locs hp w => ?_)
          obtain ⟨rfl, rfl⟩ := hp
          refine lv_if_eq (tgt := 90) hx hb dX16_stationNow_83 (by decide) (fun hrp => ?_) (fun hrp => ?_)
          · have e1 : x + 1 = rTold S i (k + 1) := by rw [hx1]; exact (if_pos heq).symm
            have e2 : y + 0 = rRepd S i (k + 1) := by rw [hy1]; show _ = (if _ then _ else _); rw [if_pos heq, if_neg (of_decide_eq_false (b2i_f hrp))]
            refine lv_iconst (v := 0) hx hb dX16_stationNow_90 (by decide) ?_
            refine lv_iadd hx hb dX16_stationNow_91 ?_
            refine lv_istore (lv' := [(5, .int (y + 0)), (4, .int (x + 1)), (0, .ref (gG S 16 0)), (1, .int (nI i)), (2, .int (nI q)), (3, .ref (gG S 14 i)), (6, .int (nI k))]) hx hb dX16_stationNow_92 hl (by decide) rfl (fun ls hl => ?_)
            refine lv_iinc (v := nI (k + 1)) (lv' := [(6, .int (nI (k + 1))), (5, .int (y + 0)), (4, .int (x + 1)), (0, .ref (gG S 16 0)), (1, .int (nI i)), (2, .int (nI q)), (3, .ref (gG S 14 i))]) hx hb dX16_stationNow_94 hl (k := 6) rfl (nI_1 _) (by decide) rfl (fun ls hl => ?_)
            refine lv_goto (tgt := 23) hx hb dX16_stationNow_97 (by decide) ?_
            exact ih23 (k + 1) (x + 1) (y + 0) _ _ _ (by omega) (by omega) (e1) (e2) w (lv_sub hl [3, 4, 5, 6, 2, 1, 0] rfl)
          · have e1 : x + 1 = rTold S i (k + 1) := by rw [hx1]; exact (if_pos heq).symm
            have e2 : y + 1 = rRepd S i (k + 1) := by rw [hy1]; show _ = (if _ then _ else _); rw [if_pos heq, if_pos (of_decide_eq_true (b2i_t hrp))]
            refine lv_iconst (v := 1) hx hb dX16_stationNow_86 (by decide) ?_
            refine lv_goto (tgt := 91) hx hb dX16_stationNow_87 (by decide) ?_
            refine lv_iadd hx hb dX16_stationNow_91 ?_
            refine lv_istore (lv' := [(5, .int (y + 1)), (4, .int (x + 1)), (0, .ref (gG S 16 0)), (1, .int (nI i)), (2, .int (nI q)), (3, .ref (gG S 14 i)), (6, .int (nI k))]) hx hb dX16_stationNow_92 hl (by decide) rfl (fun ls hl => ?_)
            refine lv_iinc (v := nI (k + 1)) (lv' := [(6, .int (nI (k + 1))), (5, .int (y + 1)), (4, .int (x + 1)), (0, .ref (gG S 16 0)), (1, .int (nI i)), (2, .int (nI q)), (3, .ref (gG S 14 i))]) hx hb dX16_stationNow_94 hl (k := 6) rfl (nI_1 _) (by decide) rfl (fun ls hl => ?_)
            refine lv_goto (tgt := 23) hx hb dX16_stationNow_97 (by decide) ?_
            exact ih23 (k + 1) (x + 1) (y + 1) _ _ _ (by omega) (by omega) (e1) (e2) w (lv_sub hl [3, 4, 5, 6, 2, 1, 0] rfl)
        · have e1 : x = rTold S i (k + 1) := hx1.trans (if_neg heq).symm
          have e2 : y = rRepd S i (k + 1) := hy1.trans (if_neg heq).symm
          refine lv_goto (tgt := 94) hx hb dX16_stationNow_58 (by decide) ?_
          refine lv_iinc (v := nI (k + 1)) (lv' := [(6, .int (nI (k + 1))), (0, .ref (gG S 16 0)), (1, .int (nI i)), (2, .int (nI q)), (3, .ref (gG S 14 i)), (4, .int x), (5, .int y)]) hx hb dX16_stationNow_94 hl (k := 6) rfl (nI_1 _) (by decide) rfl (fun ls hl => ?_)
          refine lv_goto (tgt := 23) hx hb dX16_stationNow_97 (by decide) ?_
          exact ih23 (k + 1) x y _ _ _ (by omega) (by omega) (e1) (e2) w (lv_sub hl [1, 2, 3, 4, 5, 6, 0] rfl)
  exact L23 _ 0 0 0 _ _ _ (Nat.lt_succ_self _) (by omega) (rfl) (rfl) w (lv_sub hl [4, 5, 6, 3, 2, 1, 0] rfl)

theorem dX16_reportNow_0 : decode cX16_reportNow 0 = .ok (.aload_n 0, 1) := by decide +kernel
theorem dX16_reportNow_1 : decode cX16_reportNow 1 = .ok (.getfield 26, 3) := by decide +kernel
theorem dX16_reportNow_4 : decode cX16_reportNow 4 = .ok (.iload_n 1, 1) := by decide +kernel
theorem dX16_reportNow_5 : decode cX16_reportNow 5 = .ok (.invokeinterface 46 2, 5) := by decide +kernel
theorem dX16_reportNow_10 : decode cX16_reportNow 10 = .ok (.checkcast 105, 3) := by decide +kernel
theorem dX16_reportNow_13 : decode cX16_reportNow 13 = .ok (.astore_n 3, 1) := by decide +kernel
theorem dX16_reportNow_14 : decode cX16_reportNow 14 = .ok (.bipush 12, 2) := by decide +kernel
theorem dX16_reportNow_16 : decode cX16_reportNow 16 = .ok (.newarray .int, 2) := by decide +kernel
theorem dX16_reportNow_18 : decode cX16_reportNow 18 = .ok (.dup, 1) := by decide +kernel
theorem dX16_reportNow_19 : decode cX16_reportNow 19 = .ok (.iconst 0, 1) := by decide +kernel
theorem dX16_reportNow_20 : decode cX16_reportNow 20 = .ok (.aload_n 3, 1) := by decide +kernel
theorem dX16_reportNow_21 : decode cX16_reportNow 21 = .ok (.invokevirtual 135, 3) := by decide +kernel
theorem dX16_reportNow_24 : decode cX16_reportNow 24 = .ok (.iastore, 1) := by decide +kernel
theorem dX16_reportNow_25 : decode cX16_reportNow 25 = .ok (.dup, 1) := by decide +kernel
theorem dX16_reportNow_26 : decode cX16_reportNow 26 = .ok (.iconst 1, 1) := by decide +kernel
theorem dX16_reportNow_27 : decode cX16_reportNow 27 = .ok (.aload_n 3, 1) := by decide +kernel
theorem dX16_reportNow_28 : decode cX16_reportNow 28 = .ok (.invokevirtual 151, 3) := by decide +kernel
theorem dX16_reportNow_31 : decode cX16_reportNow 31 = .ok (.iastore, 1) := by decide +kernel
theorem dX16_reportNow_32 : decode cX16_reportNow 32 = .ok (.dup, 1) := by decide +kernel
theorem dX16_reportNow_33 : decode cX16_reportNow 33 = .ok (.iconst 2, 1) := by decide +kernel
theorem dX16_reportNow_34 : decode cX16_reportNow 34 = .ok (.aload_n 3, 1) := by decide +kernel
theorem dX16_reportNow_35 : decode cX16_reportNow 35 = .ok (.invokevirtual 282, 3) := by decide +kernel
theorem dX16_reportNow_38 : decode cX16_reportNow 38 = .ok (.iastore, 1) := by decide +kernel
theorem dX16_reportNow_39 : decode cX16_reportNow 39 = .ok (.dup, 1) := by decide +kernel
theorem dX16_reportNow_40 : decode cX16_reportNow 40 = .ok (.iconst 3, 1) := by decide +kernel
theorem dX16_reportNow_41 : decode cX16_reportNow 41 = .ok (.aload_n 3, 1) := by decide +kernel
theorem dX16_reportNow_42 : decode cX16_reportNow 42 = .ok (.invokevirtual 285, 3) := by decide +kernel
theorem dX16_reportNow_45 : decode cX16_reportNow 45 = .ok (.iastore, 1) := by decide +kernel
theorem dX16_reportNow_46 : decode cX16_reportNow 46 = .ok (.dup, 1) := by decide +kernel
theorem dX16_reportNow_47 : decode cX16_reportNow 47 = .ok (.iconst 4, 1) := by decide +kernel
theorem dX16_reportNow_48 : decode cX16_reportNow 48 = .ok (.aload_n 3, 1) := by decide +kernel
theorem dX16_reportNow_49 : decode cX16_reportNow 49 = .ok (.invokevirtual 287, 3) := by decide +kernel
theorem dX16_reportNow_52 : decode cX16_reportNow 52 = .ok (.iastore, 1) := by decide +kernel
theorem dX16_reportNow_53 : decode cX16_reportNow 53 = .ok (.dup, 1) := by decide +kernel
theorem dX16_reportNow_54 : decode cX16_reportNow 54 = .ok (.iconst 5, 1) := by decide +kernel
theorem dX16_reportNow_55 : decode cX16_reportNow 55 = .ok (.aload_n 3, 1) := by decide +kernel
theorem dX16_reportNow_56 : decode cX16_reportNow 56 = .ok (.getfield 144, 3) := by decide +kernel
theorem dX16_reportNow_59 : decode cX16_reportNow 59 = .ok (.iastore, 1) := by decide +kernel
theorem dX16_reportNow_60 : decode cX16_reportNow 60 = .ok (.dup, 1) := by decide +kernel
theorem dX16_reportNow_61 : decode cX16_reportNow 61 = .ok (.bipush 6, 2) := by decide +kernel
theorem dX16_reportNow_63 : decode cX16_reportNow 63 = .ok (.aload_n 3, 1) := by decide +kernel
theorem dX16_reportNow_64 : decode cX16_reportNow 64 = .ok (.getfield 182, 3) := by decide +kernel
theorem dX16_reportNow_67 : decode cX16_reportNow 67 = .ok (.iastore, 1) := by decide +kernel
theorem dX16_reportNow_68 : decode cX16_reportNow 68 = .ok (.dup, 1) := by decide +kernel
theorem dX16_reportNow_69 : decode cX16_reportNow 69 = .ok (.bipush 7, 2) := by decide +kernel
theorem dX16_reportNow_71 : decode cX16_reportNow 71 = .ok (.aload_n 3, 1) := by decide +kernel
theorem dX16_reportNow_72 : decode cX16_reportNow 72 = .ok (.getfield 122, 3) := by decide +kernel
theorem dX16_reportNow_75 : decode cX16_reportNow 75 = .ok (.iastore, 1) := by decide +kernel
theorem dX16_reportNow_76 : decode cX16_reportNow 76 = .ok (.dup, 1) := by decide +kernel
theorem dX16_reportNow_77 : decode cX16_reportNow 77 = .ok (.bipush 8, 2) := by decide +kernel
theorem dX16_reportNow_79 : decode cX16_reportNow 79 = .ok (.aload_n 3, 1) := by decide +kernel
theorem dX16_reportNow_80 : decode cX16_reportNow 80 = .ok (.getfield 126, 3) := by decide +kernel
theorem dX16_reportNow_83 : decode cX16_reportNow 83 = .ok (.iastore, 1) := by decide +kernel
theorem dX16_reportNow_84 : decode cX16_reportNow 84 = .ok (.dup, 1) := by decide +kernel
theorem dX16_reportNow_85 : decode cX16_reportNow 85 = .ok (.bipush 9, 2) := by decide +kernel
theorem dX16_reportNow_87 : decode cX16_reportNow 87 = .ok (.aload_n 3, 1) := by decide +kernel
theorem dX16_reportNow_88 : decode cX16_reportNow 88 = .ok (.getfield 129, 3) := by decide +kernel
theorem dX16_reportNow_91 : decode cX16_reportNow 91 = .ok (.iastore, 1) := by decide +kernel
theorem dX16_reportNow_92 : decode cX16_reportNow 92 = .ok (.dup, 1) := by decide +kernel
theorem dX16_reportNow_93 : decode cX16_reportNow 93 = .ok (.bipush 10, 2) := by decide +kernel
theorem dX16_reportNow_95 : decode cX16_reportNow 95 = .ok (.aload_n 3, 1) := by decide +kernel
theorem dX16_reportNow_96 : decode cX16_reportNow 96 = .ok (.invokevirtual 157, 3) := by decide +kernel
theorem dX16_reportNow_99 : decode cX16_reportNow 99 = .ok (.ifCond .eq 7, 3) := by decide +kernel
theorem dX16_reportNow_102 : decode cX16_reportNow 102 = .ok (.iconst 1, 1) := by decide +kernel
theorem dX16_reportNow_103 : decode cX16_reportNow 103 = .ok (.goto 4, 3) := by decide +kernel
theorem dX16_reportNow_106 : decode cX16_reportNow 106 = .ok (.iconst 0, 1) := by decide +kernel
theorem dX16_reportNow_107 : decode cX16_reportNow 107 = .ok (.iastore, 1) := by decide +kernel
theorem dX16_reportNow_108 : decode cX16_reportNow 108 = .ok (.dup, 1) := by decide +kernel
theorem dX16_reportNow_109 : decode cX16_reportNow 109 = .ok (.bipush 11, 2) := by decide +kernel
theorem dX16_reportNow_111 : decode cX16_reportNow 111 = .ok (.aload_n 3, 1) := by decide +kernel
theorem dX16_reportNow_112 : decode cX16_reportNow 112 = .ok (.getfield 161, 3) := by decide +kernel
theorem dX16_reportNow_115 : decode cX16_reportNow 115 = .ok (.iastore, 1) := by decide +kernel
theorem dX16_reportNow_116 : decode cX16_reportNow 116 = .ok (.astore 4, 2) := by decide +kernel
theorem dX16_reportNow_118 : decode cX16_reportNow 118 = .ok (.aload_n 3, 1) := by decide +kernel
theorem dX16_reportNow_119 : decode cX16_reportNow 119 = .ok (.invokevirtual 252, 3) := by decide +kernel
theorem dX16_reportNow_122 : decode cX16_reportNow 122 = .ok (.ifCond .eq 10, 3) := by decide +kernel
theorem dX16_reportNow_125 : decode cX16_reportNow 125 = .ok (.aload 4, 2) := by decide +kernel
theorem dX16_reportNow_127 : decode cX16_reportNow 127 = .ok (.iload_n 2, 1) := by decide +kernel
theorem dX16_reportNow_128 : decode cX16_reportNow 128 = .ok (.iaload, 1) := by decide +kernel
theorem dX16_reportNow_129 : decode cX16_reportNow 129 = .ok (.goto 5, 3) := by decide +kernel
theorem dX16_reportNow_132 : decode cX16_reportNow 132 = .ok (.bipush (-2), 2) := by decide +kernel
theorem dX16_reportNow_134 : decode cX16_reportNow 134 = .ok (.ireturn, 1) := by decide +kernel
abbrev rm_m_X16_reportNow : Room := { frames := 4, cells := 1, slots := 12, locals := 81 }
set_option maxHeartbeats 4000000 in
set_option maxRecDepth 100000 in
theorem m_X16_reportNow {s0 : State} {l : Launch} {D : va_G} {cy : Nat → ClassId} (G : Gl s0 l D cy) (S : HS) (ea ns nj nm nt nr nq : Nat) (h : RI ea S ns nj nm nt nr nq) (j q : Nat) (hj : j < nt) (hq : q < 12) (hT : ¬ vV S 39 0) : Ctr s0 l D cy yX16_reportNow cX16_reportNow 5 (some .int) rm_m_X16_reportNow S [.ref (gG S 16 0), .int (nI j), .int (nI q)] (PU S (some (.int (if mI S 247 j = -1 then -2 else rRepNow S j q)))) := by
  refine pro "CavershamShiftModel" G rfl rfl (Nat.le_of_ble_eq_true rfl) (fun p e s m below meth c ls X w hnm hl => ?_)
  have hx := X.1
  have hb := X.2.1
  have hown := X.2.2.2.1
  have hts := X.2.2.2.2.1
  have hl : lv_has ls 5 [(0, .ref (gG S 16 0)), (1, .int (nI j)), (2, .int (nI q))] := hl
  have h0 := h
  refine lv_aload_n hx hb dX16_reportNow_0 rfl (lv_at hl 0 rfl) ?_
  refine g_16_9 (S := S) (x := (some (gG S 17 9))) X w h.v wF_X16_26 (h.f_ta) dX16_reportNow_1 ?_
  refine lv_iload_n hx hb dX16_reportNow_4 rfl (lv_at hl 1 rfl) ?_
  refine cF (S := S) (t := 17) (nA := 1) (As := [.int (nI j)]) (rest := []) X w hl h.l_ta.1 (m_get G S ea 9 j nt (some (gG S 15 j)) h.l_ta hj (h.e_ta j hj).1) wY_Jx4a65c_get_915e3 wM_X16_46 wIn_Jx4a65c_get_915e3 wSe_Jx4a65c_Jx4a65c_get_915e3_of_java_util_List_get__I_Ljava_lang_Object_ wI_Jx4a65c fw_get (by decide) rfl (by decide +kernel) rfl rfl dX16_reportNow_5 ⟨by decide, by decide⟩ (Nat.le_of_ble_eq_true rfl) (⟨Nat.le_of_ble_eq_true rfl, Nat.le_of_ble_eq_true rfl⟩) (fun v1 S1 H locs hp w => ?_)
  obtain ⟨rfl, rfl⟩ := hp
  refine ckC (S := S) (t := 15) X w (h.e_ta j hj).2 (by decide) rfl wC_X16_105 dX16_reportNow_10 ?_
  refine lv_astore_n (lv' := [(3, .ref (gG S 15 j)), (0, .ref (gG S 16 0)), (1, .int (nI j)), (2, .int (nI q))]) hx hb dX16_reportNow_13 rfl hl (by decide) rfl (fun ls hl => ?_)
  refine lv_bipush (v := 12) hx hb dX16_reportNow_14 (by decide) ?_
  refine nwI (S := S) (atype := .int) (ty := .int) (n := 12) X w 39 0 (hT) (by decide) rfl rfl (Or.inl ⟨rfl, rfl⟩) wA_int (rfl) (by decide) dX16_reportNow_16 (by decide) (by decide) (fun q2 S2 H hS2 w => ?_)
  rw [tmp_0] at hS2
  subst hS2
  have h : RI ea (sTmp S 39 0 q2 12 (fun _ => 0)) ns nj nm nt nr nq := RI.tmp h0 (by decide)
  refine lv_dup hx hb dX16_reportNow_18 rfl ?_
  refine lv_iconst (v := 0) hx hb dX16_reportNow_19 (by decide) ?_
  refine lv_aload_n hx hb dX16_reportNow_20 rfl (lv_at hl 0 rfl) ?_
  refine cV (S := (sTmp S 39 0 q2 12 (fun _ => 0))) (nA := 0) (As := []) (rest := [.int 0, .ref (gG (sTmp S 39 0 q2 12 (fun _ => 0)) 39 0), .ref (gG (sTmp S 39 0 q2 12 (fun _ => 0)) 39 0)]) X w hl (h.e_ta j hj).2 (m_X15_sort G (sTmp S 39 0 q2 12 (fun _ => 0)) j (h.e_ta j hj).2) wY_X15_sort wM_X16_135 wIn_X15_sort wSe_X15_X15_sort wI_X15 (by decide) rfl (by decide +kernel) rfl rfl dX16_reportNow_21 ⟨by decide, by decide⟩ (Nat.le_of_ble_eq_true rfl) (⟨Nat.le_of_ble_eq_true rfl, Nat.le_of_ble_eq_true rfl⟩) (fun v3 S1 H locs hp w => ?_)
  obtain ⟨rfl, rfl⟩ := hp
  refine tStI (S := S) (t := 39) (i := 0) (q := q2) (n := 12) (f := (fun _ => 0)) (k := 0) X w (by decide) rfl rfl (rfl) (by decide) (by decide) dX16_reportNow_24 (fun H locs w => ?_)
  have h : RI ea (sTmp S 39 0 q2 12 (upd (fun _ => 0) 0 (rSort (mI S 244 j)))) ns nj nm nt nr nq := RI.tmp h0 (by decide)
  refine lv_dup hx hb dX16_reportNow_25 rfl ?_
  refine lv_iconst (v := 1) hx hb dX16_reportNow_26 (by decide) ?_
  refine lv_aload_n hx hb dX16_reportNow_27 rfl (lv_at hl 0 rfl) ?_
  refine cV (S := (sTmp S 39 0 q2 12 (upd (fun _ => 0) 0 (rSort (mI S 244 j))))) (nA := 0) (As := []) (rest := [.int 1, .ref (gG (sTmp S 39 0 q2 12 (fun _ => 0)) 39 0), .ref (gG (sTmp S 39 0 q2 12 (fun _ => 0)) 39 0)]) X w hl (h.e_ta j hj).2 (m_X15_length G (sTmp S 39 0 q2 12 (upd (fun _ => 0) 0 (rSort (mI S 244 j)))) j (h.e_ta j hj).2) wY_X15_length wM_X16_151 wIn_X15_length wSe_X15_X15_length wI_X15 (by decide) rfl (by decide +kernel) rfl rfl dX16_reportNow_28 ⟨by decide, by decide⟩ (Nat.le_of_ble_eq_true rfl) (⟨Nat.le_of_ble_eq_true rfl, Nat.le_of_ble_eq_true rfl⟩) (fun v4 S1 H locs hp w => ?_)
  obtain ⟨rfl, rfl⟩ := hp
  refine tStI (S := S) (t := 39) (i := 0) (q := q2) (n := 12) (f := (upd (fun _ => 0) 0 (rSort (mI S 244 j)))) (k := 1) X w (by decide) rfl rfl (rfl) (by decide) (by decide) dX16_reportNow_31 (fun H locs w => ?_)
  have h : RI ea (sTmp S 39 0 q2 12 (upd (upd (fun _ => 0) 0 (rSort (mI S 244 j))) 1 (rLen (mI S 244 j) (mI S 243 j) (mI S 248 j)))) ns nj nm nt nr nq := RI.tmp h0 (by decide)
  refine lv_dup hx hb dX16_reportNow_32 rfl ?_
  refine lv_iconst (v := 2) hx hb dX16_reportNow_33 (by decide) ?_
  refine lv_aload_n hx hb dX16_reportNow_34 rfl (lv_at hl 0 rfl) ?_
  refine cV (S := (sTmp S 39 0 q2 12 (upd (upd (fun _ => 0) 0 (rSort (mI S 244 j))) 1 (rLen (mI S 244 j) (mI S 243 j) (mI S 248 j))))) (nA := 0) (As := []) (rest := [.int 2, .ref (gG (sTmp S 39 0 q2 12 (fun _ => 0)) 39 0), .ref (gG (sTmp S 39 0 q2 12 (fun _ => 0)) 39 0)]) X w hl (h.e_ta j hj).2 (m_X15_caught G (sTmp S 39 0 q2 12 (upd (upd (fun _ => 0) 0 (rSort (mI S 244 j))) 1 (rLen (mI S 244 j) (mI S 243 j) (mI S 248 j)))) j (h.e_ta j hj).2) wY_X15_caught wM_X16_282 wIn_X15_caught wSe_X15_X15_caught wI_X15 (by decide) rfl (by decide +kernel) rfl rfl dX16_reportNow_35 ⟨by decide, by decide⟩ (Nat.le_of_ble_eq_true rfl) (⟨Nat.le_of_ble_eq_true rfl, Nat.le_of_ble_eq_true rfl⟩) (fun v5 S1 H locs hp w => ?_)
  obtain ⟨rfl, rfl⟩ := hp
  refine tStI (S := S) (t := 39) (i := 0) (q := q2) (n := 12) (f := (upd (upd (fun _ => 0) 0 (rSort (mI S 244 j))) 1 (rLen (mI S 244 j) (mI S 243 j) (mI S 248 j)))) (k := 2) X w (by decide) rfl rfl (rfl) (by decide) (by decide) dX16_reportNow_38 (fun H locs w => ?_)
  have h : RI ea (sTmp S 39 0 q2 12 (upd (upd (upd (fun _ => 0) 0 (rSort (mI S 244 j))) 1 (rLen (mI S 244 j) (mI S 243 j) (mI S 248 j))) 2 (rCaught (mI S 243 j) (mI S 248 j)))) ns nj nm nt nr nq := RI.tmp h0 (by decide)
  refine lv_dup hx hb dX16_reportNow_39 rfl ?_
  refine lv_iconst (v := 3) hx hb dX16_reportNow_40 (by decide) ?_
  refine lv_aload_n hx hb dX16_reportNow_41 rfl (lv_at hl 0 rfl) ?_
  refine cV (S := (sTmp S 39 0 q2 12 (upd (upd (upd (fun _ => 0) 0 (rSort (mI S 244 j))) 1 (rLen (mI S 244 j) (mI S 243 j) (mI S 248 j))) 2 (rCaught (mI S 243 j) (mI S 248 j))))) (nA := 0) (As := []) (rest := [.int 3, .ref (gG (sTmp S 39 0 q2 12 (fun _ => 0)) 39 0), .ref (gG (sTmp S 39 0 q2 12 (fun _ => 0)) 39 0)]) X w hl (h.e_ta j hj).2 (m_X15_heard G (sTmp S 39 0 q2 12 (upd (upd (upd (fun _ => 0) 0 (rSort (mI S 244 j))) 1 (rLen (mI S 244 j) (mI S 243 j) (mI S 248 j))) 2 (rCaught (mI S 243 j) (mI S 248 j)))) j (h.e_ta j hj).2) wY_X15_heard wM_X16_285 wIn_X15_heard wSe_X15_X15_heard wI_X15 (by decide) rfl (by decide +kernel) rfl rfl dX16_reportNow_42 ⟨by decide, by decide⟩ (Nat.le_of_ble_eq_true rfl) (⟨Nat.le_of_ble_eq_true rfl, Nat.le_of_ble_eq_true rfl⟩) (fun v6 S1 H locs hp w => ?_)
  obtain ⟨rfl, rfl⟩ := hp
  refine tStI (S := S) (t := 39) (i := 0) (q := q2) (n := 12) (f := (upd (upd (upd (fun _ => 0) 0 (rSort (mI S 244 j))) 1 (rLen (mI S 244 j) (mI S 243 j) (mI S 248 j))) 2 (rCaught (mI S 243 j) (mI S 248 j)))) (k := 3) X w (by decide) rfl rfl (rfl) (by decide) (by decide) dX16_reportNow_45 (fun H locs w => ?_)
  have h : RI ea (sTmp S 39 0 q2 12 (upd (upd (upd (upd (fun _ => 0) 0 (rSort (mI S 244 j))) 1 (rLen (mI S 244 j) (mI S 243 j) (mI S 248 j))) 2 (rCaught (mI S 243 j) (mI S 248 j))) 3 (rHeard (mI S 245 j) (mI S 248 j)))) ns nj nm nt nr nq := RI.tmp h0 (by decide)
  refine lv_dup hx hb dX16_reportNow_46 rfl ?_
  refine lv_iconst (v := 4) hx hb dX16_reportNow_47 (by decide) ?_
  refine lv_aload_n hx hb dX16_reportNow_48 rfl (lv_at hl 0 rfl) ?_
  refine cV (S := (sTmp S 39 0 q2 12 (upd (upd (upd (upd (fun _ => 0) 0 (rSort (mI S 244 j))) 1 (rLen (mI S 244 j) (mI S 243 j) (mI S 248 j))) 2 (rCaught (mI S 243 j) (mI S 248 j))) 3 (rHeard (mI S 245 j) (mI S 248 j))))) (nA := 0) (As := []) (rest := [.int 4, .ref (gG (sTmp S 39 0 q2 12 (fun _ => 0)) 39 0), .ref (gG (sTmp S 39 0 q2 12 (fun _ => 0)) 39 0)]) X w hl (h.e_ta j hj).2 (m_X15_guessed G (sTmp S 39 0 q2 12 (upd (upd (upd (upd (fun _ => 0) 0 (rSort (mI S 244 j))) 1 (rLen (mI S 244 j) (mI S 243 j) (mI S 248 j))) 2 (rCaught (mI S 243 j) (mI S 248 j))) 3 (rHeard (mI S 245 j) (mI S 248 j)))) j (h.e_ta j hj).2) wY_X15_guessed wM_X16_287 wIn_X15_guessed wSe_X15_X15_guessed wI_X15 (by decide) rfl (by decide +kernel) rfl rfl dX16_reportNow_49 ⟨by decide, by decide⟩ (Nat.le_of_ble_eq_true rfl) (⟨Nat.le_of_ble_eq_true rfl, Nat.le_of_ble_eq_true rfl⟩) (fun v7 S1 H locs hp w => ?_)
  obtain ⟨rfl, rfl⟩ := hp
  refine tStI (S := S) (t := 39) (i := 0) (q := q2) (n := 12) (f := (upd (upd (upd (upd (fun _ => 0) 0 (rSort (mI S 244 j))) 1 (rLen (mI S 244 j) (mI S 243 j) (mI S 248 j))) 2 (rCaught (mI S 243 j) (mI S 248 j))) 3 (rHeard (mI S 245 j) (mI S 248 j)))) (k := 4) X w (by decide) rfl rfl (rfl) (by decide) (by decide) dX16_reportNow_52 (fun H locs w => ?_)
  have h : RI ea (sTmp S 39 0 q2 12 (upd (upd (upd (upd (upd (fun _ => 0) 0 (rSort (mI S 244 j))) 1 (rLen (mI S 244 j) (mI S 243 j) (mI S 248 j))) 2 (rCaught (mI S 243 j) (mI S 248 j))) 3 (rHeard (mI S 245 j) (mI S 248 j))) 4 (rGuess (mI S 245 j) (mI S 248 j)))) ns nj nm nt nr nq := RI.tmp h0 (by decide)
  refine lv_dup hx hb dX16_reportNow_53 rfl ?_
  refine lv_iconst (v := 5) hx hb dX16_reportNow_54 (by decide) ?_
  refine lv_aload_n hx hb dX16_reportNow_55 rfl (lv_at hl 0 rfl) ?_
  refine g_15_7 (S := (sTmp S 39 0 q2 12 (upd (upd (upd (upd (upd (fun _ => 0) 0 (rSort (mI S 244 j))) 1 (rLen (mI S 244 j) (mI S 243 j) (mI S 248 j))) 2 (rCaught (mI S 243 j) (mI S 248 j))) 3 (rHeard (mI S 245 j) (mI S 248 j))) 4 (rGuess (mI S 245 j) (mI S 248 j))))) (x := (mI S 247 j)) X w (h.e_ta j hj).2 wF_X16_144 (rfl) dX16_reportNow_56 ?_
  refine tStI (S := S) (t := 39) (i := 0) (q := q2) (n := 12) (f := (upd (upd (upd (upd (upd (fun _ => 0) 0 (rSort (mI S 244 j))) 1 (rLen (mI S 244 j) (mI S 243 j) (mI S 248 j))) 2 (rCaught (mI S 243 j) (mI S 248 j))) 3 (rHeard (mI S 245 j) (mI S 248 j))) 4 (rGuess (mI S 245 j) (mI S 248 j)))) (k := 5) X w (by decide) rfl rfl (rfl) (by decide) (by decide) dX16_reportNow_59 (fun H locs w => ?_)
  have h : RI ea (sTmp S 39 0 q2 12 (upd (upd (upd (upd (upd (upd (fun _ => 0) 0 (rSort (mI S 244 j))) 1 (rLen (mI S 244 j) (mI S 243 j) (mI S 248 j))) 2 (rCaught (mI S 243 j) (mI S 248 j))) 3 (rHeard (mI S 245 j) (mI S 248 j))) 4 (rGuess (mI S 245 j) (mI S 248 j))) 5 (mI S 247 j))) ns nj nm nt nr nq := RI.tmp h0 (by decide)
  refine lv_dup hx hb dX16_reportNow_60 rfl ?_
  refine lv_bipush (v := 6) hx hb dX16_reportNow_61 (by decide) ?_
  refine lv_aload_n hx hb dX16_reportNow_63 rfl (lv_at hl 0 rfl) ?_
  refine g_15_11 (S := (sTmp S 39 0 q2 12 (upd (upd (upd (upd (upd (upd (fun _ => 0) 0 (rSort (mI S 244 j))) 1 (rLen (mI S 244 j) (mI S 243 j) (mI S 248 j))) 2 (rCaught (mI S 243 j) (mI S 248 j))) 3 (rHeard (mI S 245 j) (mI S 248 j))) 4 (rGuess (mI S 245 j) (mI S 248 j))) 5 (mI S 247 j)))) (x := (mI S 251 j)) X w (h.e_ta j hj).2 wF_X16_182 (rfl) dX16_reportNow_64 ?_
  refine tStI (S := S) (t := 39) (i := 0) (q := q2) (n := 12) (f := (upd (upd (upd (upd (upd (upd (fun _ => 0) 0 (rSort (mI S 244 j))) 1 (rLen (mI S 244 j) (mI S 243 j) (mI S 248 j))) 2 (rCaught (mI S 243 j) (mI S 248 j))) 3 (rHeard (mI S 245 j) (mI S 248 j))) 4 (rGuess (mI S 245 j) (mI S 248 j))) 5 (mI S 247 j))) (k := 6) X w (by decide) rfl rfl (rfl) (by decide) (by decide) dX16_reportNow_67 (fun H locs w => ?_)
  have h : RI ea (sTmp S 39 0 q2 12 (upd (upd (upd (upd (upd (upd (upd (fun _ => 0) 0 (rSort (mI S 244 j))) 1 (rLen (mI S 244 j) (mI S 243 j) (mI S 248 j))) 2 (rCaught (mI S 243 j) (mI S 248 j))) 3 (rHeard (mI S 245 j) (mI S 248 j))) 4 (rGuess (mI S 245 j) (mI S 248 j))) 5 (mI S 247 j)) 6 (mI S 251 j))) ns nj nm nt nr nq := RI.tmp h0 (by decide)
  refine lv_dup hx hb dX16_reportNow_68 rfl ?_
  refine lv_bipush (v := 7) hx hb dX16_reportNow_69 (by decide) ?_
  refine lv_aload_n hx hb dX16_reportNow_71 rfl (lv_at hl 0 rfl) ?_
  refine g_15_9 (S := (sTmp S 39 0 q2 12 (upd (upd (upd (upd (upd (upd (upd (fun _ => 0) 0 (rSort (mI S 244 j))) 1 (rLen (mI S 244 j) (mI S 243 j) (mI S 248 j))) 2 (rCaught (mI S 243 j) (mI S 248 j))) 3 (rHeard (mI S 245 j) (mI S 248 j))) 4 (rGuess (mI S 245 j) (mI S 248 j))) 5 (mI S 247 j)) 6 (mI S 251 j)))) (x := (mI S 249 j)) X w (h.e_ta j hj).2 wF_X16_122 (rfl) dX16_reportNow_72 ?_
  refine tStI (S := S) (t := 39) (i := 0) (q := q2) (n := 12) (f := (upd (upd (upd (upd (upd (upd (upd (fun _ => 0) 0 (rSort (mI S 244 j))) 1 (rLen (mI S 244 j) (mI S 243 j) (mI S 248 j))) 2 (rCaught (mI S 243 j) (mI S 248 j))) 3 (rHeard (mI S 245 j) (mI S 248 j))) 4 (rGuess (mI S 245 j) (mI S 248 j))) 5 (mI S 247 j)) 6 (mI S 251 j))) (k := 7) X w (by decide) rfl rfl (rfl) (by decide) (by decide) dX16_reportNow_75 (fun H locs w => ?_)
  have h : RI ea (sTmp S 39 0 q2 12 (upd (upd (upd (upd (upd (upd (upd (upd (fun _ => 0) 0 (rSort (mI S 244 j))) 1 (rLen (mI S 244 j) (mI S 243 j) (mI S 248 j))) 2 (rCaught (mI S 243 j) (mI S 248 j))) 3 (rHeard (mI S 245 j) (mI S 248 j))) 4 (rGuess (mI S 245 j) (mI S 248 j))) 5 (mI S 247 j)) 6 (mI S 251 j)) 7 (mI S 249 j))) ns nj nm nt nr nq := RI.tmp h0 (by decide)
  refine lv_dup hx hb dX16_reportNow_76 rfl ?_
  refine lv_bipush (v := 8) hx hb dX16_reportNow_77 (by decide) ?_
  refine lv_aload_n hx hb dX16_reportNow_79 rfl (lv_at hl 0 rfl) ?_
  refine g_15_10 (S := (sTmp S 39 0 q2 12 (upd (upd (upd (upd (upd (upd (upd (upd (fun _ => 0) 0 (rSort (mI S 244 j))) 1 (rLen (mI S 244 j) (mI S 243 j) (mI S 248 j))) 2 (rCaught (mI S 243 j) (mI S 248 j))) 3 (rHeard (mI S 245 j) (mI S 248 j))) 4 (rGuess (mI S 245 j) (mI S 248 j))) 5 (mI S 247 j)) 6 (mI S 251 j)) 7 (mI S 249 j)))) (x := (mI S 250 j)) X w (h.e_ta j hj).2 wF_X16_126 (rfl) dX16_reportNow_80 ?_
  refine tStI (S := S) (t := 39) (i := 0) (q := q2) (n := 12) (f := (upd (upd (upd (upd (upd (upd (upd (upd (fun _ => 0) 0 (rSort (mI S 244 j))) 1 (rLen (mI S 244 j) (mI S 243 j) (mI S 248 j))) 2 (rCaught (mI S 243 j) (mI S 248 j))) 3 (rHeard (mI S 245 j) (mI S 248 j))) 4 (rGuess (mI S 245 j) (mI S 248 j))) 5 (mI S 247 j)) 6 (mI S 251 j)) 7 (mI S 249 j))) (k := 8) X w (by decide) rfl rfl (rfl) (by decide) (by decide) dX16_reportNow_83 (fun H locs w => ?_)
  have h : RI ea (sTmp S 39 0 q2 12 (upd (upd (upd (upd (upd (upd (upd (upd (upd (fun _ => 0) 0 (rSort (mI S 244 j))) 1 (rLen (mI S 244 j) (mI S 243 j) (mI S 248 j))) 2 (rCaught (mI S 243 j) (mI S 248 j))) 3 (rHeard (mI S 245 j) (mI S 248 j))) 4 (rGuess (mI S 245 j) (mI S 248 j))) 5 (mI S 247 j)) 6 (mI S 251 j)) 7 (mI S 249 j)) 8 (mI S 250 j))) ns nj nm nt nr nq := RI.tmp h0 (by decide)
  refine lv_dup hx hb dX16_reportNow_84 rfl ?_
  refine lv_bipush (v := 9) hx hb dX16_reportNow_85 (by decide) ?_
  refine lv_aload_n hx hb dX16_reportNow_87 rfl (lv_at hl 0 rfl) ?_
  refine g_15_8 (S := (sTmp S 39 0 q2 12 (upd (upd (upd (upd (upd (upd (upd (upd (upd (fun _ => 0) 0 (rSort (mI S 244 j))) 1 (rLen (mI S 244 j) (mI S 243 j) (mI S 248 j))) 2 (rCaught (mI S 243 j) (mI S 248 j))) 3 (rHeard (mI S 245 j) (mI S 248 j))) 4 (rGuess (mI S 245 j) (mI S 248 j))) 5 (mI S 247 j)) 6 (mI S 251 j)) 7 (mI S 249 j)) 8 (mI S 250 j)))) (x := (mI S 248 j)) X w (h.e_ta j hj).2 wF_X16_129 (rfl) dX16_reportNow_88 ?_
  refine tStI (S := S) (t := 39) (i := 0) (q := q2) (n := 12) (f := (upd (upd (upd (upd (upd (upd (upd (upd (upd (fun _ => 0) 0 (rSort (mI S 244 j))) 1 (rLen (mI S 244 j) (mI S 243 j) (mI S 248 j))) 2 (rCaught (mI S 243 j) (mI S 248 j))) 3 (rHeard (mI S 245 j) (mI S 248 j))) 4 (rGuess (mI S 245 j) (mI S 248 j))) 5 (mI S 247 j)) 6 (mI S 251 j)) 7 (mI S 249 j)) 8 (mI S 250 j))) (k := 9) X w (by decide) rfl rfl (rfl) (by decide) (by decide) dX16_reportNow_91 (fun H locs w => ?_)
  have h : RI ea (sTmp S 39 0 q2 12 (upd (upd (upd (upd (upd (upd (upd (upd (upd (upd (fun _ => 0) 0 (rSort (mI S 244 j))) 1 (rLen (mI S 244 j) (mI S 243 j) (mI S 248 j))) 2 (rCaught (mI S 243 j) (mI S 248 j))) 3 (rHeard (mI S 245 j) (mI S 248 j))) 4 (rGuess (mI S 245 j) (mI S 248 j))) 5 (mI S 247 j)) 6 (mI S 251 j)) 7 (mI S 249 j)) 8 (mI S 250 j)) 9 (mI S 248 j))) ns nj nm nt nr nq := RI.tmp h0 (by decide)
  refine lv_dup hx hb dX16_reportNow_92 rfl ?_
  refine lv_bipush (v := 10) hx hb dX16_reportNow_93 (by decide) ?_
  refine lv_aload_n hx hb dX16_reportNow_95 rfl (lv_at hl 0 rfl) ?_
  refine cV (S := (sTmp S 39 0 q2 12 (upd (upd (upd (upd (upd (upd (upd (upd (upd (upd (fun _ => 0) 0 (rSort (mI S 244 j))) 1 (rLen (mI S 244 j) (mI S 243 j) (mI S 248 j))) 2 (rCaught (mI S 243 j) (mI S 248 j))) 3 (rHeard (mI S 245 j) (mI S 248 j))) 4 (rGuess (mI S 245 j) (mI S 248 j))) 5 (mI S 247 j)) 6 (mI S 251 j)) 7 (mI S 249 j)) 8 (mI S 250 j)) 9 (mI S 248 j)))) (nA := 0) (As := []) (rest := [.int 10, .ref (gG (sTmp S 39 0 q2 12 (fun _ => 0)) 39 0), .ref (gG (sTmp S 39 0 q2 12 (fun _ => 0)) 39 0)]) X w hl (h.e_ta j hj).2 (m_X15_isWrong G (sTmp S 39 0 q2 12 (upd (upd (upd (upd (upd (upd (upd (upd (upd (upd (fun _ => 0) 0 (rSort (mI S 244 j))) 1 (rLen (mI S 244 j) (mI S 243 j) (mI S 248 j))) 2 (rCaught (mI S 243 j) (mI S 248 j))) 3 (rHeard (mI S 245 j) (mI S 248 j))) 4 (rGuess (mI S 245 j) (mI S 248 j))) 5 (mI S 247 j)) 6 (mI S 251 j)) 7 (mI S 249 j)) 8 (mI S 250 j)) 9 (mI S 248 j))) j (h.e_ta j hj).2) wY_X15_isWrong wM_X16_157 wIn_X15_isWrong wSe_X15_X15_isWrong wI_X15 (by decide) rfl (by decide +kernel) rfl rfl dX16_reportNow_96 ⟨by decide, by decide⟩ (Nat.le_of_ble_eq_true rfl) (⟨Nat.le_of_ble_eq_true rfl, Nat.le_of_ble_eq_true rfl⟩) (fun v8 S1 H locs hp w => ?_)
  obtain ⟨rfl, rfl⟩ := hp
  refine lv_if_eq (tgt := 106) hx hb dX16_reportNow_99 (by decide) (fun hw => ?_) (fun hw => ?_)
  · have e10 : (0 : Int32) = rRepNow S j 10 := (b2i_0 (b2i_f hw)).symm
    refine lv_iconst (v := 0) hx hb dX16_reportNow_106 (by decide) ?_
    refine tStI (S := S) (t := 39) (i := 0) (q := q2) (n := 12) (f := (upd (upd (upd (upd (upd (upd (upd (upd (upd (upd (fun _ => 0) 0 (rSort (mI S 244 j))) 1 (rLen (mI S 244 j) (mI S 243 j) (mI S 248 j))) 2 (rCaught (mI S 243 j) (mI S 248 j))) 3 (rHeard (mI S 245 j) (mI S 248 j))) 4 (rGuess (mI S 245 j) (mI S 248 j))) 5 (mI S 247 j)) 6 (mI S 251 j)) 7 (mI S 249 j)) 8 (mI S 250 j)) 9 (mI S 248 j))) (k := 10) X w (by decide) rfl rfl (rfl) (by decide) (by decide) dX16_reportNow_107 (fun H locs w => ?_)
    have h : RI ea (sTmp S 39 0 q2 12 (upd (upd (upd (upd (upd (upd (upd (upd (upd (upd (upd (fun _ => 0) 0 (rSort (mI S 244 j))) 1 (rLen (mI S 244 j) (mI S 243 j) (mI S 248 j))) 2 (rCaught (mI S 243 j) (mI S 248 j))) 3 (rHeard (mI S 245 j) (mI S 248 j))) 4 (rGuess (mI S 245 j) (mI S 248 j))) 5 (mI S 247 j)) 6 (mI S 251 j)) 7 (mI S 249 j)) 8 (mI S 250 j)) 9 (mI S 248 j)) 10 0)) ns nj nm nt nr nq := RI.tmp h0 (by decide)
    refine lv_dup hx hb dX16_reportNow_108 rfl ?_
    refine lv_bipush (v := 11) hx hb dX16_reportNow_109 (by decide) ?_
    refine lv_aload_n hx hb dX16_reportNow_111 rfl (lv_at hl 0 rfl) ?_
    refine g_15_13 (S := (sTmp S 39 0 q2 12 (upd (upd (upd (upd (upd (upd (upd (upd (upd (upd (upd (fun _ => 0) 0 (rSort (mI S 244 j))) 1 (rLen (mI S 244 j) (mI S 243 j) (mI S 248 j))) 2 (rCaught (mI S 243 j) (mI S 248 j))) 3 (rHeard (mI S 245 j) (mI S 248 j))) 4 (rGuess (mI S 245 j) (mI S 248 j))) 5 (mI S 247 j)) 6 (mI S 251 j)) 7 (mI S 249 j)) 8 (mI S 250 j)) 9 (mI S 248 j)) 10 0))) (x := (mI S 253 j)) X w (h.e_ta j hj).2 wF_X16_161 (rfl) dX16_reportNow_112 ?_
    refine tStI (S := S) (t := 39) (i := 0) (q := q2) (n := 12) (f := (upd (upd (upd (upd (upd (upd (upd (upd (upd (upd (upd (fun _ => 0) 0 (rSort (mI S 244 j))) 1 (rLen (mI S 244 j) (mI S 243 j) (mI S 248 j))) 2 (rCaught (mI S 243 j) (mI S 248 j))) 3 (rHeard (mI S 245 j) (mI S 248 j))) 4 (rGuess (mI S 245 j) (mI S 248 j))) 5 (mI S 247 j)) 6 (mI S 251 j)) 7 (mI S 249 j)) 8 (mI S 250 j)) 9 (mI S 248 j)) 10 0)) (k := 11) X w (by decide) rfl rfl (rfl) (by decide) (by decide) dX16_reportNow_115 (fun H locs w => ?_)
    have h : RI ea (sTmp S 39 0 q2 12 (upd (upd (upd (upd (upd (upd (upd (upd (upd (upd (upd (upd (fun _ => 0) 0 (rSort (mI S 244 j))) 1 (rLen (mI S 244 j) (mI S 243 j) (mI S 248 j))) 2 (rCaught (mI S 243 j) (mI S 248 j))) 3 (rHeard (mI S 245 j) (mI S 248 j))) 4 (rGuess (mI S 245 j) (mI S 248 j))) 5 (mI S 247 j)) 6 (mI S 251 j)) 7 (mI S 249 j)) 8 (mI S 250 j)) 9 (mI S 248 j)) 10 0) 11 (mI S 253 j))) ns nj nm nt nr nq := RI.tmp h0 (by decide)
    refine lv_astore (lv' := [(4, .ref (gG (sTmp S 39 0 q2 12 (fun _ => 0)) 39 0)), (3, .ref (gG S 15 j)), (0, .ref (gG S 16 0)), (1, .int (nI j)), (2, .int (nI q))]) hx hb dX16_reportNow_116 hl (by decide) rfl (fun ls hl => ?_)
    refine lv_aload_n hx hb dX16_reportNow_118 rfl (lv_at hl 1 rfl) ?_
    refine cV (S := (sTmp S 39 0 q2 12 (upd (upd (upd (upd (upd (upd (upd (upd (upd (upd (upd (upd (fun _ => 0) 0 (rSort (mI S 244 j))) 1 (rLen (mI S 244 j) (mI S 243 j) (mI S 248 j))) 2 (rCaught (mI S 243 j) (mI S 248 j))) 3 (rHeard (mI S 245 j) (mI S 248 j))) 4 (rGuess (mI S 245 j) (mI S 248 j))) 5 (mI S 247 j)) 6 (mI S 251 j)) 7 (mI S 249 j)) 8 (mI S 250 j)) 9 (mI S 248 j)) 10 0) 11 (mI S 253 j)))) (nA := 0) (As := []) (rest := []) X w hl (h.e_ta j hj).2 (m_X15_isReported G (sTmp S 39 0 q2 12 (upd (upd (upd (upd (upd (upd (upd (upd (upd (upd (upd (upd (fun _ => 0) 0 (rSort (mI S 244 j))) 1 (rLen (mI S 244 j) (mI S 243 j) (mI S 248 j))) 2 (rCaught (mI S 243 j) (mI S 248 j))) 3 (rHeard (mI S 245 j) (mI S 248 j))) 4 (rGuess (mI S 245 j) (mI S 248 j))) 5 (mI S 247 j)) 6 (mI S 251 j)) 7 (mI S 249 j)) 8 (mI S 250 j)) 9 (mI S 248 j)) 10 0) 11 (mI S 253 j))) j (h.e_ta j hj).2) wY_X15_isReported wM_X16_252 wIn_X15_isReported wSe_X15_X15_isReported wI_X15 (by decide) rfl (by decide +kernel) rfl rfl dX16_reportNow_119 ⟨by decide, by decide⟩ (Nat.le_of_ble_eq_true rfl) (⟨Nat.le_of_ble_eq_true rfl, Nat.le_of_ble_eq_true rfl⟩) (fun v9 S1 H locs hp w => ?_)
    obtain ⟨rfl, rfl⟩ := hp
    refine lv_if_eq (tgt := 132) hx hb dX16_reportNow_122 (by decide) (fun hrp => ?_) (fun hrp => ?_)
    · refine lv_bipush (v := (-2)) hx hb dX16_reportNow_132 (by decide) ?_
      have w := w.off hT Off.tmp
      exact rI X w rfl dX16_reportNow_134 (by decide) (by decide) (pu_i (by first | exact if_neg (of_decide_eq_true (b2i_t hrp)) | exact if_pos (Classical.not_not.mp (of_decide_eq_false (b2i_f hrp)))))
    · refine lv_aload hx hb dX16_reportNow_125 (lv_at hl 0 rfl) ?_
      refine lv_iload_n hx hb dX16_reportNow_127 rfl (lv_at hl 4 rfl) ?_
      refine tLdI (S := S) (t := 39) (i := 0) (q := q2) (n := 12) (f := (upd (upd (upd (upd (upd (upd (upd (upd (upd (upd (upd (upd (fun _ => 0) 0 (rSort (mI S 244 j))) 1 (rLen (mI S 244 j) (mI S 243 j) (mI S 248 j))) 2 (rCaught (mI S 243 j) (mI S 248 j))) 3 (rHeard (mI S 245 j) (mI S 248 j))) 4 (rGuess (mI S 245 j) (mI S 248 j))) 5 (mI S 247 j)) 6 (mI S 251 j)) 7 (mI S 249 j)) 8 (mI S 250 j)) 9 (mI S 248 j)) 10 0) 11 (mI S 253 j))) (k := q) (v := rRepNow S j q) X w (by decide) rfl rfl (rfl) (hq) (by decide) (by rcases (show q = 0 ∨ q = 1 ∨ q = 2 ∨ q = 3 ∨ q = 4 ∨ q = 5 ∨ q = 6 ∨ q = 7 ∨ q = 8 ∨ q = 9 ∨ q = 10 ∨ q = 11 by omega) with rfl | rfl | rfl | rfl | rfl | rfl | rfl | rfl | rfl | rfl | rfl | rfl <;> first | rfl | exact e10) dX16_reportNow_128 ?_
      refine lv_goto (tgt := 134) hx hb dX16_reportNow_129 (by decide) ?_
      have w := w.off hT Off.tmp
      exact rI X w rfl dX16_reportNow_134 (by decide) (by decide) (pu_i (by first | exact if_neg (of_decide_eq_true (b2i_t hrp)) | exact if_pos (Classical.not_not.mp (of_decide_eq_false (b2i_f hrp)))))
  · have e10 : (1 : Int32) = rRepNow S j 10 := (b2i_1 (b2i_t hw)).symm
    refine lv_iconst (v := 1) hx hb dX16_reportNow_102 (by decide) ?_
    refine lv_goto (tgt := 107) hx hb dX16_reportNow_103 (by decide) ?_
    refine tStI (S := S) (t := 39) (i := 0) (q := q2) (n := 12) (f := (upd (upd (upd (upd (upd (upd (upd (upd (upd (upd (fun _ => 0) 0 (rSort (mI S 244 j))) 1 (rLen (mI S 244 j) (mI S 243 j) (mI S 248 j))) 2 (rCaught (mI S 243 j) (mI S 248 j))) 3 (rHeard (mI S 245 j) (mI S 248 j))) 4 (rGuess (mI S 245 j) (mI S 248 j))) 5 (mI S 247 j)) 6 (mI S 251 j)) 7 (mI S 249 j)) 8 (mI S 250 j)) 9 (mI S 248 j))) (k := 10) X w (by decide) rfl rfl (rfl) (by decide) (by decide) dX16_reportNow_107 (fun H locs w => ?_)
    have h : RI ea (sTmp S 39 0 q2 12 (upd (upd (upd (upd (upd (upd (upd (upd (upd (upd (upd (fun _ => 0) 0 (rSort (mI S 244 j))) 1 (rLen (mI S 244 j) (mI S 243 j) (mI S 248 j))) 2 (rCaught (mI S 243 j) (mI S 248 j))) 3 (rHeard (mI S 245 j) (mI S 248 j))) 4 (rGuess (mI S 245 j) (mI S 248 j))) 5 (mI S 247 j)) 6 (mI S 251 j)) 7 (mI S 249 j)) 8 (mI S 250 j)) 9 (mI S 248 j)) 10 1)) ns nj nm nt nr nq := RI.tmp h0 (by decide)
    refine lv_dup hx hb dX16_reportNow_108 rfl ?_
    refine lv_bipush (v := 11) hx hb dX16_reportNow_109 (by decide) ?_
    refine lv_aload_n hx hb dX16_reportNow_111 rfl (lv_at hl 0 rfl) ?_
    refine g_15_13 (S := (sTmp S 39 0 q2 12 (upd (upd (upd (upd (upd (upd (upd (upd (upd (upd (upd (fun _ => 0) 0 (rSort (mI S 244 j))) 1 (rLen (mI S 244 j) (mI S 243 j) (mI S 248 j))) 2 (rCaught (mI S 243 j) (mI S 248 j))) 3 (rHeard (mI S 245 j) (mI S 248 j))) 4 (rGuess (mI S 245 j) (mI S 248 j))) 5 (mI S 247 j)) 6 (mI S 251 j)) 7 (mI S 249 j)) 8 (mI S 250 j)) 9 (mI S 248 j)) 10 1))) (x := (mI S 253 j)) X w (h.e_ta j hj).2 wF_X16_161 (rfl) dX16_reportNow_112 ?_
    refine tStI (S := S) (t := 39) (i := 0) (q := q2) (n := 12) (f := (upd (upd (upd (upd (upd (upd (upd (upd (upd (upd (upd (fun _ => 0) 0 (rSort (mI S 244 j))) 1 (rLen (mI S 244 j) (mI S 243 j) (mI S 248 j))) 2 (rCaught (mI S 243 j) (mI S 248 j))) 3 (rHeard (mI S 245 j) (mI S 248 j))) 4 (rGuess (mI S 245 j) (mI S 248 j))) 5 (mI S 247 j)) 6 (mI S 251 j)) 7 (mI S 249 j)) 8 (mI S 250 j)) 9 (mI S 248 j)) 10 1)) (k := 11) X w (by decide) rfl rfl (rfl) (by decide) (by decide) dX16_reportNow_115 (fun H locs w => ?_)
    have h : RI ea (sTmp S 39 0 q2 12 (upd (upd (upd (upd (upd (upd (upd (upd (upd (upd (upd (upd (fun _ => 0) 0 (rSort (mI S 244 j))) 1 (rLen (mI S 244 j) (mI S 243 j) (mI S 248 j))) 2 (rCaught (mI S 243 j) (mI S 248 j))) 3 (rHeard (mI S 245 j) (mI S 248 j))) 4 (rGuess (mI S 245 j) (mI S 248 j))) 5 (mI S 247 j)) 6 (mI S 251 j)) 7 (mI S 249 j)) 8 (mI S 250 j)) 9 (mI S 248 j)) 10 1) 11 (mI S 253 j))) ns nj nm nt nr nq := RI.tmp h0 (by decide)
    refine lv_astore (lv' := [(4, .ref (gG (sTmp S 39 0 q2 12 (fun _ => 0)) 39 0)), (3, .ref (gG S 15 j)), (0, .ref (gG S 16 0)), (1, .int (nI j)), (2, .int (nI q))]) hx hb dX16_reportNow_116 hl (by decide) rfl (fun ls hl => ?_)
    refine lv_aload_n hx hb dX16_reportNow_118 rfl (lv_at hl 1 rfl) ?_
    refine cV (S := (sTmp S 39 0 q2 12 (upd (upd (upd (upd (upd (upd (upd (upd (upd (upd (upd (upd (fun _ => 0) 0 (rSort (mI S 244 j))) 1 (rLen (mI S 244 j) (mI S 243 j) (mI S 248 j))) 2 (rCaught (mI S 243 j) (mI S 248 j))) 3 (rHeard (mI S 245 j) (mI S 248 j))) 4 (rGuess (mI S 245 j) (mI S 248 j))) 5 (mI S 247 j)) 6 (mI S 251 j)) 7 (mI S 249 j)) 8 (mI S 250 j)) 9 (mI S 248 j)) 10 1) 11 (mI S 253 j)))) (nA := 0) (As := []) (rest := []) X w hl (h.e_ta j hj).2 (m_X15_isReported G (sTmp S 39 0 q2 12 (upd (upd (upd (upd (upd (upd (upd (upd (upd (upd (upd (upd (fun _ => 0) 0 (rSort (mI S 244 j))) 1 (rLen (mI S 244 j) (mI S 243 j) (mI S 248 j))) 2 (rCaught (mI S 243 j) (mI S 248 j))) 3 (rHeard (mI S 245 j) (mI S 248 j))) 4 (rGuess (mI S 245 j) (mI S 248 j))) 5 (mI S 247 j)) 6 (mI S 251 j)) 7 (mI S 249 j)) 8 (mI S 250 j)) 9 (mI S 248 j)) 10 1) 11 (mI S 253 j))) j (h.e_ta j hj).2) wY_X15_isReported wM_X16_252 wIn_X15_isReported wSe_X15_X15_isReported wI_X15 (by decide) rfl (by decide +kernel) rfl rfl dX16_reportNow_119 ⟨by decide, by decide⟩ (Nat.le_of_ble_eq_true rfl) (⟨Nat.le_of_ble_eq_true rfl, Nat.le_of_ble_eq_true rfl⟩) (fun v10 S1 H locs hp w => ?_)
    obtain ⟨rfl, rfl⟩ := hp
    refine lv_if_eq (tgt := 132) hx hb dX16_reportNow_122 (by decide) (fun hrp => ?_) (fun hrp => ?_)
    · refine lv_bipush (v := (-2)) hx hb dX16_reportNow_132 (by decide) ?_
      have w := w.off hT Off.tmp
      exact rI X w rfl dX16_reportNow_134 (by decide) (by decide) (pu_i (by first | exact if_neg (of_decide_eq_true (b2i_t hrp)) | exact if_pos (Classical.not_not.mp (of_decide_eq_false (b2i_f hrp)))))
    · refine lv_aload hx hb dX16_reportNow_125 (lv_at hl 0 rfl) ?_
      refine lv_iload_n hx hb dX16_reportNow_127 rfl (lv_at hl 4 rfl) ?_
      refine tLdI (S := S) (t := 39) (i := 0) (q := q2) (n := 12) (f := (upd (upd (upd (upd (upd (upd (upd (upd (upd (upd (upd (upd (fun _ => 0) 0 (rSort (mI S 244 j))) 1 (rLen (mI S 244 j) (mI S 243 j) (mI S 248 j))) 2 (rCaught (mI S 243 j) (mI S 248 j))) 3 (rHeard (mI S 245 j) (mI S 248 j))) 4 (rGuess (mI S 245 j) (mI S 248 j))) 5 (mI S 247 j)) 6 (mI S 251 j)) 7 (mI S 249 j)) 8 (mI S 250 j)) 9 (mI S 248 j)) 10 1) 11 (mI S 253 j))) (k := q) (v := rRepNow S j q) X w (by decide) rfl rfl (rfl) (hq) (by decide) (by rcases (show q = 0 ∨ q = 1 ∨ q = 2 ∨ q = 3 ∨ q = 4 ∨ q = 5 ∨ q = 6 ∨ q = 7 ∨ q = 8 ∨ q = 9 ∨ q = 10 ∨ q = 11 by omega) with rfl | rfl | rfl | rfl | rfl | rfl | rfl | rfl | rfl | rfl | rfl | rfl <;> first | rfl | exact e10) dX16_reportNow_128 ?_
      refine lv_goto (tgt := 134) hx hb dX16_reportNow_129 (by decide) ?_
      have w := w.off hT Off.tmp
      exact rI X w rfl dX16_reportNow_134 (by decide) (by decide) (pu_i (by first | exact if_neg (of_decide_eq_true (b2i_t hrp)) | exact if_pos (Classical.not_not.mp (of_decide_eq_false (b2i_f hrp)))))

def rCnt (p : Nat → Bool) : Nat → Int32
  | 0 => 0
  | k + 1 => rCnt p k + (if p k = true then 1 else 0)
def rReaNow (S : HS) (nt r q : Nat) : Int32 := match q with
  | 0 => mI S 208 r
  | 1 => mI S 209 r
  | 2 => rCnt (fun k => decide (0 < mA S 35 r k)) nt
  | 3 => rCnt (fun k => decide (mA S 35 r k = 2)) nt
  | _ => rCnt (fun k => decide (mA S 35 r k = 1) && rWrong (mI S 247 k) (mI S 246 k) (mI S 245 k) (mI S 248 k)) nt
theorem cnt_s {p : Nat → Bool} {k : Nat} {x y : Int32} (h : x = rCnt p k) (e : y = (if p k = true then 1 else 0)) : x + y = rCnt p (k + 1) := by rw [h, e]; rfl
theorem cnt_s0 (p : Nat → Bool) {k : Nat} {x : Int32} (h : x = rCnt p k) (e : p k = false) : x + 0 = rCnt p (k + 1) := cnt_s h (if_neg (by rw [e]; decide)).symm
theorem cnt_s1 (p : Nat → Bool) {k : Nat} {x : Int32} (h : x = rCnt p k) (e : p k = true) : x + 1 = rCnt p (k + 1) := cnt_s h (if_pos e).symm
theorem dX16_readerNow_0 : decode cX16_readerNow 0 = .ok (.aload_n 0, 1) := by decide +kernel
theorem dX16_readerNow_1 : decode cX16_readerNow 1 = .ok (.getfield 29, 3) := by decide +kernel
theorem dX16_readerNow_4 : decode cX16_readerNow 4 = .ok (.iload_n 1, 1) := by decide +kernel
theorem dX16_readerNow_5 : decode cX16_readerNow 5 = .ok (.invokeinterface 46 2, 5) := by decide +kernel
theorem dX16_readerNow_10 : decode cX16_readerNow 10 = .ok (.checkcast 177, 3) := by decide +kernel
theorem dX16_readerNow_13 : decode cX16_readerNow 13 = .ok (.astore_n 3, 1) := by decide +kernel
theorem dX16_readerNow_14 : decode cX16_readerNow 14 = .ok (.iconst 0, 1) := by decide +kernel
theorem dX16_readerNow_15 : decode cX16_readerNow 15 = .ok (.istore 4, 2) := by decide +kernel
theorem dX16_readerNow_17 : decode cX16_readerNow 17 = .ok (.iconst 0, 1) := by decide +kernel
theorem dX16_readerNow_18 : decode cX16_readerNow 18 = .ok (.istore 5, 2) := by decide +kernel
theorem dX16_readerNow_20 : decode cX16_readerNow 20 = .ok (.iconst 0, 1) := by decide +kernel
theorem dX16_readerNow_21 : decode cX16_readerNow 21 = .ok (.istore 6, 2) := by decide +kernel
theorem dX16_readerNow_23 : decode cX16_readerNow 23 = .ok (.iconst 0, 1) := by decide +kernel
theorem dX16_readerNow_24 : decode cX16_readerNow 24 = .ok (.istore 7, 2) := by decide +kernel
theorem dX16_readerNow_26 : decode cX16_readerNow 26 = .ok (.iload 7, 2) := by decide +kernel
theorem dX16_readerNow_28 : decode cX16_readerNow 28 = .ok (.aload_n 0, 1) := by decide +kernel
theorem dX16_readerNow_29 : decode cX16_readerNow 29 = .ok (.getfield 26, 3) := by decide +kernel
theorem dX16_readerNow_32 : decode cX16_readerNow 32 = .ok (.invokeinterface 73 1, 5) := by decide +kernel
theorem dX16_readerNow_37 : decode cX16_readerNow 37 = .ok (.if_icmp .ge 91, 3) := by decide +kernel
theorem dX16_readerNow_40 : decode cX16_readerNow 40 = .ok (.iload 4, 2) := by decide +kernel
theorem dX16_readerNow_42 : decode cX16_readerNow 42 = .ok (.aload_n 3, 1) := by decide +kernel
theorem dX16_readerNow_43 : decode cX16_readerNow 43 = .ok (.getfield 179, 3) := by decide +kernel
theorem dX16_readerNow_46 : decode cX16_readerNow 46 = .ok (.iload 7, 2) := by decide +kernel
theorem dX16_readerNow_48 : decode cX16_readerNow 48 = .ok (.iaload, 1) := by decide +kernel
theorem dX16_readerNow_49 : decode cX16_readerNow 49 = .ok (.ifCond .le 7, 3) := by decide +kernel
theorem dX16_readerNow_52 : decode cX16_readerNow 52 = .ok (.iconst 1, 1) := by decide +kernel
theorem dX16_readerNow_53 : decode cX16_readerNow 53 = .ok (.goto 4, 3) := by decide +kernel
theorem dX16_readerNow_56 : decode cX16_readerNow 56 = .ok (.iconst 0, 1) := by decide +kernel
theorem dX16_readerNow_57 : decode cX16_readerNow 57 = .ok (.iadd, 1) := by decide +kernel
theorem dX16_readerNow_58 : decode cX16_readerNow 58 = .ok (.istore 4, 2) := by decide +kernel
theorem dX16_readerNow_60 : decode cX16_readerNow 60 = .ok (.iload 5, 2) := by decide +kernel
theorem dX16_readerNow_62 : decode cX16_readerNow 62 = .ok (.aload_n 3, 1) := by decide +kernel
theorem dX16_readerNow_63 : decode cX16_readerNow 63 = .ok (.getfield 179, 3) := by decide +kernel
theorem dX16_readerNow_66 : decode cX16_readerNow 66 = .ok (.iload 7, 2) := by decide +kernel
theorem dX16_readerNow_68 : decode cX16_readerNow 68 = .ok (.iaload, 1) := by decide +kernel
theorem dX16_readerNow_69 : decode cX16_readerNow 69 = .ok (.iconst 2, 1) := by decide +kernel
theorem dX16_readerNow_70 : decode cX16_readerNow 70 = .ok (.if_icmp .ne 7, 3) := by decide +kernel
theorem dX16_readerNow_73 : decode cX16_readerNow 73 = .ok (.iconst 1, 1) := by decide +kernel
theorem dX16_readerNow_74 : decode cX16_readerNow 74 = .ok (.goto 4, 3) := by decide +kernel
theorem dX16_readerNow_77 : decode cX16_readerNow 77 = .ok (.iconst 0, 1) := by decide +kernel
theorem dX16_readerNow_78 : decode cX16_readerNow 78 = .ok (.iadd, 1) := by decide +kernel
theorem dX16_readerNow_79 : decode cX16_readerNow 79 = .ok (.istore 5, 2) := by decide +kernel
theorem dX16_readerNow_81 : decode cX16_readerNow 81 = .ok (.iload 6, 2) := by decide +kernel
theorem dX16_readerNow_83 : decode cX16_readerNow 83 = .ok (.aload_n 3, 1) := by decide +kernel
theorem dX16_readerNow_84 : decode cX16_readerNow 84 = .ok (.getfield 179, 3) := by decide +kernel
theorem dX16_readerNow_87 : decode cX16_readerNow 87 = .ok (.iload 7, 2) := by decide +kernel
theorem dX16_readerNow_89 : decode cX16_readerNow 89 = .ok (.iaload, 1) := by decide +kernel
theorem dX16_readerNow_90 : decode cX16_readerNow 90 = .ok (.iconst 1, 1) := by decide +kernel
theorem dX16_readerNow_91 : decode cX16_readerNow 91 = .ok (.if_icmp .ne 27, 3) := by decide +kernel
theorem dX16_readerNow_94 : decode cX16_readerNow 94 = .ok (.aload_n 0, 1) := by decide +kernel
theorem dX16_readerNow_95 : decode cX16_readerNow 95 = .ok (.getfield 26, 3) := by decide +kernel
theorem dX16_readerNow_98 : decode cX16_readerNow 98 = .ok (.iload 7, 2) := by decide +kernel
theorem dX16_readerNow_100 : decode cX16_readerNow 100 = .ok (.invokeinterface 46 2, 5) := by decide +kernel
theorem dX16_readerNow_105 : decode cX16_readerNow 105 = .ok (.checkcast 105, 3) := by decide +kernel
theorem dX16_readerNow_108 : decode cX16_readerNow 108 = .ok (.invokevirtual 157, 3) := by decide +kernel
theorem dX16_readerNow_111 : decode cX16_readerNow 111 = .ok (.ifCond .eq 7, 3) := by decide +kernel
theorem dX16_readerNow_114 : decode cX16_readerNow 114 = .ok (.iconst 1, 1) := by decide +kernel
theorem dX16_readerNow_115 : decode cX16_readerNow 115 = .ok (.goto 4, 3) := by decide +kernel
theorem dX16_readerNow_118 : decode cX16_readerNow 118 = .ok (.iconst 0, 1) := by decide +kernel
theorem dX16_readerNow_119 : decode cX16_readerNow 119 = .ok (.iadd, 1) := by decide +kernel
theorem dX16_readerNow_120 : decode cX16_readerNow 120 = .ok (.istore 6, 2) := by decide +kernel
theorem dX16_readerNow_122 : decode cX16_readerNow 122 = .ok (.iinc 7 1, 3) := by decide +kernel
theorem dX16_readerNow_125 : decode cX16_readerNow 125 = .ok (.goto (-99), 3) := by decide +kernel
theorem dX16_readerNow_128 : decode cX16_readerNow 128 = .ok (.iconst 5, 1) := by decide +kernel
theorem dX16_readerNow_129 : decode cX16_readerNow 129 = .ok (.newarray .int, 2) := by decide +kernel
theorem dX16_readerNow_131 : decode cX16_readerNow 131 = .ok (.dup, 1) := by decide +kernel
theorem dX16_readerNow_132 : decode cX16_readerNow 132 = .ok (.iconst 0, 1) := by decide +kernel
theorem dX16_readerNow_133 : decode cX16_readerNow 133 = .ok (.aload_n 3, 1) := by decide +kernel
theorem dX16_readerNow_134 : decode cX16_readerNow 134 = .ok (.getfield 191, 3) := by decide +kernel
theorem dX16_readerNow_137 : decode cX16_readerNow 137 = .ok (.iastore, 1) := by decide +kernel
theorem dX16_readerNow_138 : decode cX16_readerNow 138 = .ok (.dup, 1) := by decide +kernel
theorem dX16_readerNow_139 : decode cX16_readerNow 139 = .ok (.iconst 1, 1) := by decide +kernel
theorem dX16_readerNow_140 : decode cX16_readerNow 140 = .ok (.aload_n 3, 1) := by decide +kernel
theorem dX16_readerNow_141 : decode cX16_readerNow 141 = .ok (.getfield 194, 3) := by decide +kernel
theorem dX16_readerNow_144 : decode cX16_readerNow 144 = .ok (.iastore, 1) := by decide +kernel
theorem dX16_readerNow_145 : decode cX16_readerNow 145 = .ok (.dup, 1) := by decide +kernel
theorem dX16_readerNow_146 : decode cX16_readerNow 146 = .ok (.iconst 2, 1) := by decide +kernel
theorem dX16_readerNow_147 : decode cX16_readerNow 147 = .ok (.iload 4, 2) := by decide +kernel
theorem dX16_readerNow_149 : decode cX16_readerNow 149 = .ok (.iastore, 1) := by decide +kernel
theorem dX16_readerNow_150 : decode cX16_readerNow 150 = .ok (.dup, 1) := by decide +kernel
theorem dX16_readerNow_151 : decode cX16_readerNow 151 = .ok (.iconst 3, 1) := by decide +kernel
theorem dX16_readerNow_152 : decode cX16_readerNow 152 = .ok (.iload 5, 2) := by decide +kernel
theorem dX16_readerNow_154 : decode cX16_readerNow 154 = .ok (.iastore, 1) := by decide +kernel
theorem dX16_readerNow_155 : decode cX16_readerNow 155 = .ok (.dup, 1) := by decide +kernel
theorem dX16_readerNow_156 : decode cX16_readerNow 156 = .ok (.iconst 4, 1) := by decide +kernel
theorem dX16_readerNow_157 : decode cX16_readerNow 157 = .ok (.iload 6, 2) := by decide +kernel
theorem dX16_readerNow_159 : decode cX16_readerNow 159 = .ok (.iastore, 1) := by decide +kernel
theorem dX16_readerNow_160 : decode cX16_readerNow 160 = .ok (.astore 7, 2) := by decide +kernel
theorem dX16_readerNow_162 : decode cX16_readerNow 162 = .ok (.aload 7, 2) := by decide +kernel
theorem dX16_readerNow_164 : decode cX16_readerNow 164 = .ok (.iload_n 2, 1) := by decide +kernel
theorem dX16_readerNow_165 : decode cX16_readerNow 165 = .ok (.iaload, 1) := by decide +kernel
theorem dX16_readerNow_166 : decode cX16_readerNow 166 = .ok (.ireturn, 1) := by decide +kernel
abbrev rm_m_X16_readerNow : Room := { frames := 4, cells := 1, slots := 5, locals := 81 }
set_option maxHeartbeats 4000000 in
set_option maxRecDepth 100000 in
theorem m_X16_readerNow {s0 : State} {l : Launch} {D : va_G} {cy : Nat → ClassId} (G : Gl s0 l D cy) (S : HS) (ea ns nj nm nt nr nq : Nat) (h : RI ea S ns nj nm nt nr nq) (r q : Nat) (hr : r < nr) (hq : q < 5) (hT : ¬ vV S 39 0) : Ctr s0 l D cy yX16_readerNow cX16_readerNow 8 (some .int) rm_m_X16_readerNow S [.ref (gG S 16 0), .int (nI r), .int (nI q)] (PU S (some (.int (rReaNow S nt r q)))) := by
  refine pro "CavershamShiftModel" G rfl rfl (Nat.le_of_ble_eq_true rfl) (fun p e s m below meth c ls X w hnm hl => ?_)
  have hx := X.1
  have hb := X.2.1
  have hown := X.2.2.2.1
  have hts := X.2.2.2.2.1
  have hl : lv_has ls 8 [(0, .ref (gG S 16 0)), (1, .int (nI r)), (2, .int (nI q))] := hl
  have h0 := h
  refine lv_aload_n hx hb dX16_readerNow_0 rfl (lv_at hl 0 rfl) ?_
  refine g_16_10 (S := S) (x := (some (gG S 17 10))) X w h.v wF_X16_29 (h.f_re) dX16_readerNow_1 ?_
  refine lv_iload_n hx hb dX16_readerNow_4 rfl (lv_at hl 1 rfl) ?_
  refine cF (S := S) (t := 17) (nA := 1) (As := [.int (nI r)]) (rest := []) X w hl h.l_re.1 (m_get G S ea 10 r nr (some (gG S 13 r)) h.l_re hr (h.e_re r hr).1) wY_Jx4a65c_get_915e3 wM_X16_46 wIn_Jx4a65c_get_915e3 wSe_Jx4a65c_Jx4a65c_get_915e3_of_java_util_List_get__I_Ljava_lang_Object_ wI_Jx4a65c fw_get (by decide) rfl (by decide +kernel) rfl rfl dX16_readerNow_5 ⟨by decide, by decide⟩ (Nat.le_of_ble_eq_true rfl) (⟨Nat.le_of_ble_eq_true rfl, Nat.le_of_ble_eq_true rfl⟩) (fun v1 S1 H locs hp w => ?_)
  obtain ⟨rfl, rfl⟩ := hp
  refine ckC (S := S) (t := 13) X w (h.e_re r hr).2.1 (by decide) rfl wC_X16_177 dX16_readerNow_10 ?_
  refine lv_astore_n (lv' := [(3, .ref (gG S 13 r)), (0, .ref (gG S 16 0)), (1, .int (nI r)), (2, .int (nI q))]) hx hb dX16_readerNow_13 rfl hl (by decide) rfl (fun ls hl => ?_)
  refine lv_iconst (v := 0) hx hb dX16_readerNow_14 (by decide) ?_
  refine lv_istore (lv' := [(4, .int 0), (3, .ref (gG S 13 r)), (0, .ref (gG S 16 0)), (1, .int (nI r)), (2, .int (nI q))]) hx hb dX16_readerNow_15 hl (by decide) rfl (fun ls hl => ?_)
  refine lv_iconst (v := 0) hx hb dX16_readerNow_17 (by decide) ?_
  refine lv_istore (lv' := [(5, .int 0), (4, .int 0), (3, .ref (gG S 13 r)), (0, .ref (gG S 16 0)), (1, .int (nI r)), (2, .int (nI q))]) hx hb dX16_readerNow_18 hl (by decide) rfl (fun ls hl => ?_)
  refine lv_iconst (v := 0) hx hb dX16_readerNow_20 (by decide) ?_
  refine lv_istore (lv' := [(6, .int 0), (5, .int 0), (4, .int 0), (3, .ref (gG S 13 r)), (0, .ref (gG S 16 0)), (1, .int (nI r)), (2, .int (nI q))]) hx hb dX16_readerNow_21 hl (by decide) rfl (fun ls hl => ?_)
  refine lv_iconst (v := 0) hx hb dX16_readerNow_23 (by decide) ?_
  refine lv_istore (lv' := [(7, .int 0), (6, .int 0), (5, .int 0), (4, .int 0), (3, .ref (gG S 13 r)), (0, .ref (gG S 16 0)), (1, .int (nI r)), (2, .int (nI q))]) hx hb dX16_readerNow_24 hl (by decide) rfl (fun ls hl => ?_)
  have L26 : ∀ (N : Nat) (k : Nat) (x : Int32) (y : Int32) (z : Int32) (H : Heap) (locs : List Loc) (ls : Array Slot), nt - k < N → (k ≤ nt) → (x = rCnt (fun k => decide (0 < mA S 35 r k)) k) → (y = rCnt (fun k => decide (mA S 35 r k = 2)) k) → (z = rCnt (fun k => decide (mA S 35 r k = 1) && rWrong (mI S 247 k) (mI S 246 k) (mI S 245 k) (mI S 248 k)) k) → Wd s0 D cy S s.heap H locs → lv_has ls 8 [(0, .ref (gG S 16 0)), (1, .int (nI r)), (2, .int (nI q)), (3, .ref (gG S 13 r)), (4, .int x), (5, .int y), (6, .int z), (7, .int (nI k))] → W p l e rm_m_X16_readerNow s m ([.ref (gG S 16 0), .int (nI r), .int (nI q)] : List Value).toArray below meth c H locs 0 0 (MQ below (GQ s0 D cy (PU S (some (.int (rReaNow S nt r q))))) ([.ref (gG S 16 0), .int (nI r), .int (nI q)] : List Value).toArray s rm_m_X16_readerNow.cells rm_m_X16_readerNow.slots (A0 s0)) (F0 m 26 ls []) := by
    intro N
    induction N with
    | zero => intros; omega
    | succ N ih26 =>
      intro k x y z H locs ls hmu hk hx1 hy1 hz1 w hl
      refine lv_iload hx hb dX16_readerNow_26 (lv_at hl 7 rfl) ?_
      refine lv_aload_n hx hb dX16_readerNow_28 rfl (lv_at hl 0 rfl) ?_
      refine g_16_9 (S := S) (x := (some (gG S 17 9))) X w h.v wF_X16_26 (h.f_ta) dX16_readerNow_29 ?_
      refine cF (S := S) (t := 17) (nA := 0) (As := []) (rest := [.int (nI k)]) X w hl h.l_ta.1 (m_size G S ea 9 nt h.l_ta) wY_Jx4a65c_size_8abf5 wM_X16_73 wIn_Jx4a65c_size_8abf5 wSe_Jx4a65c_Jx4a65c_size_8abf5_of_java_util_List_size___I wI_Jx4a65c fw_size (by decide) rfl (by decide +kernel) rfl rfl dX16_readerNow_32 ⟨by decide, by decide⟩ (Nat.le_of_ble_eq_true rfl) (⟨Nat.le_of_ble_eq_true rfl, Nat.le_of_ble_eq_true rfl⟩) (fun v2 S1 H locs hp w => ?_)
      obtain ⟨rfl, rfl⟩ := hp
      refine lv_icmp_ge (tgt := 128) hx hb dX16_readerNow_37 (by decide) (fun hc9 => ?_) (fun hc9 => ?_)
      · have hge : nt ≤ k := by
          have hb1 := h.b_ta
          exact (nI_leI (by omega) (by omega)).mp hc9
        have e2 : x = rCnt (fun k => decide (0 < mA S 35 r k)) nt := by rw [hx1, show k = nt by omega]
        have e3 : y = rCnt (fun k => decide (mA S 35 r k = 2)) nt := by rw [hy1, show k = nt by omega]
        have e4 : z = rCnt (fun k => decide (mA S 35 r k = 1) && rWrong (mI S 247 k) (mI S 246 k) (mI S 245 k) (mI S 248 k)) nt := by rw [hz1, show k = nt by omega]
        refine lv_iconst (v := 5) hx hb dX16_readerNow_128 (by decide) ?_
        refine nwI (S := S) (atype := .int) (ty := .int) (n := 5) X w 39 0 (hT) (by decide) rfl rfl (Or.inl ⟨rfl, rfl⟩) wA_int (rfl) (by decide) dX16_readerNow_129 (by decide) (by decide) (fun q3 S2 H hS2 w => ?_)
        rw [tmp_0] at hS2
        subst hS2
        have h : RI ea (sTmp S 39 0 q3 5 (fun _ => 0)) ns nj nm nt nr nq := RI.tmp h0 (by decide)
        refine lv_dup hx hb dX16_readerNow_131 rfl ?_
        refine lv_iconst (v := 0) hx hb dX16_readerNow_132 (by decide) ?_
        refine lv_aload_n hx hb dX16_readerNow_133 rfl (lv_at hl 3 rfl) ?_
        refine g_13_0 (S := (sTmp S 39 0 q3 5 (fun _ => 0))) (x := (mI S 208 r)) X w (h.e_re r hr).2.1 wF_X16_191 (rfl) dX16_readerNow_134 ?_
        refine tStI (S := S) (t := 39) (i := 0) (q := q3) (n := 5) (f := (fun _ => 0)) (k := 0) X w (by decide) rfl rfl (rfl) (by decide) (by decide) dX16_readerNow_137 (fun H locs w => ?_)
        have h : RI ea (sTmp S 39 0 q3 5 (upd (fun _ => 0) 0 (mI S 208 r))) ns nj nm nt nr nq := RI.tmp h0 (by decide)
        refine lv_dup hx hb dX16_readerNow_138 rfl ?_
        refine lv_iconst (v := 1) hx hb dX16_readerNow_139 (by decide) ?_
        refine lv_aload_n hx hb dX16_readerNow_140 rfl (lv_at hl 3 rfl) ?_
        refine g_13_1 (S := (sTmp S 39 0 q3 5 (upd (fun _ => 0) 0 (mI S 208 r)))) (x := (mI S 209 r)) X w (h.e_re r hr).2.1 wF_X16_194 (rfl) dX16_readerNow_141 ?_
        refine tStI (S := S) (t := 39) (i := 0) (q := q3) (n := 5) (f := (upd (fun _ => 0) 0 (mI S 208 r))) (k := 1) X w (by decide) rfl rfl (rfl) (by decide) (by decide) dX16_readerNow_144 (fun H locs w => ?_)
        have h : RI ea (sTmp S 39 0 q3 5 (upd (upd (fun _ => 0) 0 (mI S 208 r)) 1 (mI S 209 r))) ns nj nm nt nr nq := RI.tmp h0 (by decide)
        refine lv_dup hx hb dX16_readerNow_145 rfl ?_
        refine lv_iconst (v := 2) hx hb dX16_readerNow_146 (by decide) ?_
        refine lv_iload hx hb dX16_readerNow_147 (lv_at hl 4 rfl) ?_
        refine tStI (S := S) (t := 39) (i := 0) (q := q3) (n := 5) (f := (upd (upd (fun _ => 0) 0 (mI S 208 r)) 1 (mI S 209 r))) (k := 2) X w (by decide) rfl rfl (rfl) (by decide) (by decide) dX16_readerNow_149 (fun H locs w => ?_)
        have h : RI ea (sTmp S 39 0 q3 5 (upd (upd (upd (fun _ => 0) 0 (mI S 208 r)) 1 (mI S 209 r)) 2 x)) ns nj nm nt nr nq := RI.tmp h0 (by decide)
        refine lv_dup hx hb dX16_readerNow_150 rfl ?_
        refine lv_iconst (v := 3) hx hb dX16_readerNow_151 (by decide) ?_
        refine lv_iload hx hb dX16_readerNow_152 (lv_at hl 5 rfl) ?_
        refine tStI (S := S) (t := 39) (i := 0) (q := q3) (n := 5) (f := (upd (upd (upd (fun _ => 0) 0 (mI S 208 r)) 1 (mI S 209 r)) 2 x)) (k := 3) X w (by decide) rfl rfl (rfl) (by decide) (by decide) dX16_readerNow_154 (fun H locs w => ?_)
        have h : RI ea (sTmp S 39 0 q3 5 (upd (upd (upd (upd (fun _ => 0) 0 (mI S 208 r)) 1 (mI S 209 r)) 2 x) 3 y)) ns nj nm nt nr nq := RI.tmp h0 (by decide)
        refine lv_dup hx hb dX16_readerNow_155 rfl ?_
        refine lv_iconst (v := 4) hx hb dX16_readerNow_156 (by decide) ?_
        refine lv_iload hx hb dX16_readerNow_157 (lv_at hl 6 rfl) ?_
        refine tStI (S := S) (t := 39) (i := 0) (q := q3) (n := 5) (f := (upd (upd (upd (upd (fun _ => 0) 0 (mI S 208 r)) 1 (mI S 209 r)) 2 x) 3 y)) (k := 4) X w (by decide) rfl rfl (rfl) (by decide) (by decide) dX16_readerNow_159 (fun H locs w => ?_)
        have h : RI ea (sTmp S 39 0 q3 5 (upd (upd (upd (upd (upd (fun _ => 0) 0 (mI S 208 r)) 1 (mI S 209 r)) 2 x) 3 y) 4 z)) ns nj nm nt nr nq := RI.tmp h0 (by decide)
        refine lv_astore (lv' := [(7, .ref (gG (sTmp S 39 0 q3 5 (fun _ => 0)) 39 0)), (0, .ref (gG S 16 0)), (1, .int (nI r)), (2, .int (nI q)), (3, .ref (gG S 13 r)), (4, .int x), (5, .int y), (6, .int z)]) hx hb dX16_readerNow_160 hl (by decide) rfl (fun ls hl => ?_)
        refine lv_aload hx hb dX16_readerNow_162 (lv_at hl 0 rfl) ?_
        refine lv_iload_n hx hb dX16_readerNow_164 rfl (lv_at hl 3 rfl) ?_
        refine tLdI (S := S) (t := 39) (i := 0) (q := q3) (n := 5) (f := (upd (upd (upd (upd (upd (fun _ => 0) 0 (mI S 208 r)) 1 (mI S 209 r)) 2 x) 3 y) 4 z)) (k := q) (v := rReaNow S nt r q) X w (by decide) rfl rfl (rfl) (hq) (by decide) (by rcases (show q = 0 ∨ q = 1 ∨ q = 2 ∨ q = 3 ∨ q = 4 by omega) with rfl | rfl | rfl | rfl | rfl <;> first | rfl | exact e2 | exact e3 | exact e4) dX16_readerNow_165 ?_
        have w := w.off hT Off.tmp
        exact rI X w rfl dX16_readerNow_166 (by decide) (by decide) (pu_i rfl)
      · have hlt : k < nt := by
          have hb1 := h.b_ta
          exact Nat.lt_of_not_le (fun z => hc9 ((nI_leI (by omega) (by omega)).mpr z))
        have J60 : ∀ (x2 : Int32) (H : Heap) (locs : List Loc) (ls : Array Slot), (x2 = rCnt (fun k => decide (0 < mA S 35 r k)) (k + 1)) → Wd s0 D cy S s.heap H locs → lv_has ls 8 [(0, .ref (gG S 16 0)), (1, .int (nI r)), (2, .int (nI q)), (3, .ref (gG S 13 r)), (4, .int x2), (5, .int y), (6, .int z), (7, .int (nI k))] → W p l e rm_m_X16_readerNow s m ([.ref (gG S 16 0), .int (nI r), .int (nI q)] : List Value).toArray below meth c H locs 0 0 (MQ below (GQ s0 D cy (PU S (some (.int (rReaNow S nt r q))))) ([.ref (gG S 16 0), .int (nI r), .int (nI q)] : List Value).toArray s rm_m_X16_readerNow.cells rm_m_X16_readerNow.slots (A0 s0)) (F0 m 60 ls []) := by
          intro x2 H locs ls hx2 w hl
          have J81 : ∀ (y2 : Int32) (H : Heap) (locs : List Loc) (ls : Array Slot), (y2 = rCnt (fun k => decide (mA S 35 r k = 2)) (k + 1)) → Wd s0 D cy S s.heap H locs → lv_has ls 8 [(0, .ref (gG S 16 0)), (1, .int (nI r)), (2, .int (nI q)), (3, .ref (gG S 13 r)), (4, .int x2), (5, .int y2), (6, .int z), (7, .int (nI k))] → W p l e rm_m_X16_readerNow s m ([.ref (gG S 16 0), .int (nI r), .int (nI q)] : List Value).toArray below meth c H locs 0 0 (MQ below (GQ s0 D cy (PU S (some (.int (rReaNow S nt r q))))) ([.ref (gG S 16 0), .int (nI r), .int (nI q)] : List Value).toArray s rm_m_X16_readerNow.cells rm_m_X16_readerNow.slots (A0 s0)) (F0 m 81 ls []) := by
            intro y2 H locs ls hy2 w hl
            refine lv_iload hx hb dX16_readerNow_81 (lv_at hl 6 rfl) ?_
            refine lv_aload_n hx hb dX16_readerNow_83 rfl (lv_at hl 3 rfl) ?_
            refine g_13_2 (S := S) (x := (some (gG S 35 r))) X w (h.e_re r hr).2.1 wF_X16_179 ((h.e_re r hr).2.2.1) dX16_readerNow_84 ?_
            refine lv_iload hx hb dX16_readerNow_87 (lv_at hl 7 rfl) ?_
            refine aLdI (S := S) (t := 35) (v := mA S 35 r k) X w (h.e_re r hr).2.2.2.1 (by decide) rfl rfl (by rw [(h.e_re r hr).2.2.2.2]; exact nI_vp (by have := h.b_ta; omega) (by decide)) (by rw [cl_nI (n := 40) (by have := h.b_ta; omega) (by decide)]) dX16_readerNow_89 ?_
            refine lv_iconst (v := 1) hx hb dX16_readerNow_90 (by decide) ?_
            refine lv_icmp_ne (tgt := 118) hx hb dX16_readerNow_91 (by decide) (fun hg => ?_) (fun hg => ?_)
            · have hz2 : z + 0 = rCnt (fun k => decide (mA S 35 r k = 1) && rWrong (mI S 247 k) (mI S 246 k) (mI S 245 k) (mI S 248 k)) (k + 1) := cnt_s0 (fun k => decide (mA S 35 r k = 1) && rWrong (mI S 247 k) (mI S 246 k) (mI S 245 k) (mI S 248 k)) hz1 (by show (_ && _) = false; rw [decide_eq_false hg]; rfl)
              refine lv_iconst (v := 0) hx hb dX16_readerNow_118 (by decide) ?_
              refine lv_iadd hx hb dX16_readerNow_119 ?_
              refine lv_istore (lv' := [(6, .int (z + 0)), (0, .ref (gG S 16 0)), (1, .int (nI r)), (2, .int (nI q)), (3, .ref (gG S 13 r)), (4, .int x2), (5, .int y2), (7, .int (nI k))]) hx hb dX16_readerNow_120 hl (by decide) rfl (fun ls hl => ?_)
              refine lv_iinc (v := nI (k + 1)) (lv' := [(7, .int (nI (k + 1))), (6, .int (z + 0)), (0, .ref (gG S 16 0)), (1, .int (nI r)), (2, .int (nI q)), (3, .ref (gG S 13 r)), (4, .int x2), (5, .int y2)]) hx hb dX16_readerNow_122 hl (k := 7) rfl (nI_1 _) (by decide) rfl (fun ls hl => ?_)
              refine lv_goto (tgt := 26) hx hb dX16_readerNow_125 (by decide) ?_
              exact ih26 (k + 1) x2 y2 (z + 0) _ _ _ (by omega) (by omega) (hx2) (hy2) (hz2) w (lv_sub hl [2, 3, 4, 5, 6, 7, 1, 0] rfl)
            · refine lv_aload_n hx hb dX16_readerNow_94 rfl (lv_at hl 0 rfl) ?_
              refine g_16_9 (S := S) (x := (some (gG S 17 9))) X w h.v wF_X16_26 (h.f_ta) dX16_readerNow_95 ?_
              refine lv_iload hx hb dX16_readerNow_98 (lv_at hl 7 rfl) ?_
              refine cF (S := S) (t := 17) (nA := 1) (As := [.int (nI k)]) (rest := [.int z]) X w hl h.l_ta.1 (m_get G S ea 9 k nt (some (gG S 15 k)) h.l_ta hlt (h.e_ta k hlt).1) wY_Jx4a65c_get_915e3 wM_X16_46 wIn_Jx4a65c_get_915e3 wSe_Jx4a65c_Jx4a65c_get_915e3_of_java_util_List_get__I_Ljava_lang_Object_ wI_Jx4a65c fw_get (by decide) rfl (by decide +kernel) rfl rfl dX16_readerNow_100 ⟨by decide, by decide⟩ (Nat.le_of_ble_eq_true rfl) (⟨Nat.le_of_ble_eq_true rfl, Nat.le_of_ble_eq_true rfl⟩) (fun v4 S1 H locs hp w => ?_)
              obtain ⟨rfl, rfl⟩ := hp
              refine ckC (S := S) (t := 15) X w (h.e_ta k hlt).2 (by decide) rfl wC_X16_105 dX16_readerNow_105 ?_
              refine cV (S := S) (nA := 0) (As := []) (rest := [.int z]) X w hl (h.e_ta k hlt).2 (m_X15_isWrong G S k (h.e_ta k hlt).2) wY_X15_isWrong wM_X16_157 wIn_X15_isWrong wSe_X15_X15_isWrong wI_X15 (by decide) rfl (by decide +kernel) rfl rfl dX16_readerNow_108 ⟨by decide, by decide⟩ (Nat.le_of_ble_eq_true rfl) (⟨Nat.le_of_ble_eq_true rfl, Nat.le_of_ble_eq_true rfl⟩) (fun v5 S1 H locs hp w => ?_)
              obtain ⟨rfl, rfl⟩ := hp
              refine lv_if_eq (tgt := 118) hx hb dX16_readerNow_111 (by decide) (fun hw => ?_) (fun hw => ?_)
              · have hz2 : z + 0 = rCnt (fun k => decide (mA S 35 r k = 1) && rWrong (mI S 247 k) (mI S 246 k) (mI S 245 k) (mI S 248 k)) (k + 1) := cnt_s0 (fun k => decide (mA S 35 r k = 1) && rWrong (mI S 247 k) (mI S 246 k) (mI S 245 k) (mI S 248 k)) hz1 (by show (_ && _) = false; rw [b2i_f hw, Bool.and_false])
                refine lv_iconst (v := 0) hx hb dX16_readerNow_118 (by decide) ?_
                refine lv_iadd hx hb dX16_readerNow_119 ?_
                refine lv_istore (lv' := [(6, .int (z + 0)), (0, .ref (gG S 16 0)), (1, .int (nI r)), (2, .int (nI q)), (3, .ref (gG S 13 r)), (4, .int x2), (5, .int y2), (7, .int (nI k))]) hx hb dX16_readerNow_120 hl (by decide) rfl (fun ls hl => ?_)
                refine lv_iinc (v := nI (k + 1)) (lv' := [(7, .int (nI (k + 1))), (6, .int (z + 0)), (0, .ref (gG S 16 0)), (1, .int (nI r)), (2, .int (nI q)), (3, .ref (gG S 13 r)), (4, .int x2), (5, .int y2)]) hx hb dX16_readerNow_122 hl (k := 7) rfl (nI_1 _) (by decide) rfl (fun ls hl => ?_)
                refine lv_goto (tgt := 26) hx hb dX16_readerNow_125 (by decide) ?_
                exact ih26 (k + 1) x2 y2 (z + 0) _ _ _ (by omega) (by omega) (hx2) (hy2) (hz2) w (lv_sub hl [2, 3, 4, 5, 6, 7, 1, 0] rfl)
              · have hz2 : z + 1 = rCnt (fun k => decide (mA S 35 r k = 1) && rWrong (mI S 247 k) (mI S 246 k) (mI S 245 k) (mI S 248 k)) (k + 1) := cnt_s1 (fun k => decide (mA S 35 r k = 1) && rWrong (mI S 247 k) (mI S 246 k) (mI S 245 k) (mI S 248 k)) hz1 (by show (_ && _) = true; rw [decide_eq_true hg, b2i_t hw]; rfl)
                refine lv_iconst (v := 1) hx hb dX16_readerNow_114 (by decide) ?_
                refine lv_goto (tgt := 119) hx hb dX16_readerNow_115 (by decide) ?_
                refine lv_iadd hx hb dX16_readerNow_119 ?_
                refine lv_istore (lv' := [(6, .int (z + 1)), (0, .ref (gG S 16 0)), (1, .int (nI r)), (2, .int (nI q)), (3, .ref (gG S 13 r)), (4, .int x2), (5, .int y2), (7, .int (nI k))]) hx hb dX16_readerNow_120 hl (by decide) rfl (fun ls hl => ?_)
                refine lv_iinc (v := nI (k + 1)) (lv' := [(7, .int (nI (k + 1))), (6, .int (z + 1)), (0, .ref (gG S 16 0)), (1, .int (nI r)), (2, .int (nI q)), (3, .ref (gG S 13 r)), (4, .int x2), (5, .int y2)]) hx hb dX16_readerNow_122 hl (k := 7) rfl (nI_1 _) (by decide) rfl (fun ls hl => ?_)
                refine lv_goto (tgt := 26) hx hb dX16_readerNow_125 (by decide) ?_
                exact ih26 (k + 1) x2 y2 (z + 1) _ _ _ (by omega) (by omega) (hx2) (hy2) (hz2) w (lv_sub hl [2, 3, 4, 5, 6, 7, 1, 0] rfl)
          refine lv_iload hx hb dX16_readerNow_60 (lv_at hl 5 rfl) ?_
          refine lv_aload_n hx hb dX16_readerNow_62 rfl (lv_at hl 3 rfl) ?_
          refine g_13_2 (S := S) (x := (some (gG S 35 r))) X w (h.e_re r hr).2.1 wF_X16_179 ((h.e_re r hr).2.2.1) dX16_readerNow_63 ?_
          refine lv_iload hx hb dX16_readerNow_66 (lv_at hl 7 rfl) ?_
          refine aLdI (S := S) (t := 35) (v := mA S 35 r k) X w (h.e_re r hr).2.2.2.1 (by decide) rfl rfl (by rw [(h.e_re r hr).2.2.2.2]; exact nI_vp (by have := h.b_ta; omega) (by decide)) (by rw [cl_nI (n := 40) (by have := h.b_ta; omega) (by decide)]) dX16_readerNow_68 ?_
          refine lv_iconst (v := 2) hx hb dX16_readerNow_69 (by decide) ?_
          refine lv_icmp_ne (tgt := 77) hx hb dX16_readerNow_70 (by decide) (fun hg => ?_) (fun hg => ?_)
          · have hy2 : y + 0 = rCnt (fun k => decide (mA S 35 r k = 2)) (k + 1) := cnt_s0 (fun k => decide (mA S 35 r k = 2)) hy1 (decide_eq_false hg)
            refine lv_iconst (v := 0) hx hb dX16_readerNow_77 (by decide) ?_
            refine lv_iadd hx hb dX16_readerNow_78 ?_
            refine lv_istore (lv' := [(5, .int (y + 0)), (0, .ref (gG S 16 0)), (1, .int (nI r)), (2, .int (nI q)), (3, .ref (gG S 13 r)), (4, .int x2), (6, .int z), (7, .int (nI k))]) hx hb dX16_readerNow_79 hl (by decide) rfl (fun ls hl => ?_)
            exact J81 (y + 0) _ _ _ (hy2) w (lv_sub hl [1, 2, 3, 4, 5, 0, 6, 7] rfl)
          · have hy2 : y + 1 = rCnt (fun k => decide (mA S 35 r k = 2)) (k + 1) := cnt_s1 (fun k => decide (mA S 35 r k = 2)) hy1 (decide_eq_true hg)
            refine lv_iconst (v := 1) hx hb dX16_readerNow_73 (by decide) ?_
            refine lv_goto (tgt := 78) hx hb dX16_readerNow_74 (by decide) ?_
            refine lv_iadd hx hb dX16_readerNow_78 ?_
            refine lv_istore (lv' := [(5, .int (y + 1)), (0, .ref (gG S 16 0)), (1, .int (nI r)), (2, .int (nI q)), (3, .ref (gG S 13 r)), (4, .int x2), (6, .int z), (7, .int (nI k))]) hx hb dX16_readerNow_79 hl (by decide) rfl (fun ls hl => ?_)
            exact J81 (y + 1) _ _ _ (hy2) w (lv_sub hl [1, 2, 3, 4, 5, 0, 6, 7] rfl)
        refine lv_iload hx hb dX16_readerNow_40 (lv_at hl 4 rfl) ?_
        refine lv_aload_n hx hb dX16_readerNow_42 rfl (lv_at hl 3 rfl) ?_
        refine g_13_2 (S := S) (x := (some (gG S 35 r))) X w (h.e_re r hr).2.1 wF_X16_179 ((h.e_re r hr).2.2.1) dX16_readerNow_43 ?_
        refine lv_iload hx hb dX16_readerNow_46 (lv_at hl 7 rfl) ?_
        refine aLdI (S := S) (t := 35) (v := mA S 35 r k) X w (h.e_re r hr).2.2.2.1 (by decide) rfl rfl (by rw [(h.e_re r hr).2.2.2.2]; exact nI_vp (by have := h.b_ta; omega) (by decide)) (by rw [cl_nI (n := 40) (by have := h.b_ta; omega) (by decide)]) dX16_readerNow_48 ?_
        refine lv_if_le (tgt := 56) hx hb dX16_readerNow_49 (by decide) (fun hg => ?_) (fun hg => ?_)
        · have hx2 : x + 0 = rCnt (fun k => decide (0 < mA S 35 r k)) (k + 1) := cnt_s0 (fun k => decide (0 < mA S 35 r k)) hx1 (decide_eq_false (Int32.not_lt.mpr hg))
          refine lv_iconst (v := 0) hx hb dX16_readerNow_56 (by decide) ?_
          refine lv_iadd hx hb dX16_readerNow_57 ?_
          refine lv_istore (lv' := [(4, .int (x + 0)), (0, .ref (gG S 16 0)), (1, .int (nI r)), (2, .int (nI q)), (3, .ref (gG S 13 r)), (5, .int y), (6, .int z), (7, .int (nI k))]) hx hb dX16_readerNow_58 hl (by decide) rfl (fun ls hl => ?_)
          exact J60 (x + 0) _ _ _ (hx2) w (lv_sub hl [1, 2, 3, 4, 0, 5, 6, 7] rfl)
        · have hx2 : x + 1 = rCnt (fun k => decide (0 < mA S 35 r k)) (k + 1) := cnt_s1 (fun k => decide (0 < mA S 35 r k)) hx1 (decide_eq_true (Int32.not_le.mp hg))
          refine lv_iconst (v := 1) hx hb dX16_readerNow_52 (by decide) ?_
          refine lv_goto (tgt := 57) hx hb dX16_readerNow_53 (by decide) ?_
          refine lv_iadd hx hb dX16_readerNow_57 ?_
          refine lv_istore (lv' := [(4, .int (x + 1)), (0, .ref (gG S 16 0)), (1, .int (nI r)), (2, .int (nI q)), (3, .ref (gG S 13 r)), (5, .int y), (6, .int z), (7, .int (nI k))]) hx hb dX16_readerNow_58 hl (by decide) rfl (fun ls hl => ?_)
          exact J60 (x + 1) _ _ _ (hx2) w (lv_sub hl [1, 2, 3, 4, 0, 5, 6, 7] rfl)
  exact L26 _ 0 0 0 0 _ _ _ (Nat.lt_succ_self _) (by omega) (rfl) (rfl) (rfl) w (lv_sub hl [5, 6, 7, 4, 3, 2, 1, 0] rfl)

def rMonNow (S : HS) (mo q : Nat) : Int32 := if q < 5 then mA S 34 mo q else if q = 5 then mI S 193 mo else if q = 6 then mI S 194 mo else if q = 7 then mI S 195 mo else rSetOf S (hN S % 24) (nI mo)
theorem dX16_monitorNow_0 : decode cX16_monitorNow 0 = .ok (.aload_n 0, 1) := by decide +kernel
theorem dX16_monitorNow_1 : decode cX16_monitorNow 1 = .ok (.getfield 23, 3) := by decide +kernel
theorem dX16_monitorNow_4 : decode cX16_monitorNow 4 = .ok (.iload_n 1, 1) := by decide +kernel
theorem dX16_monitorNow_5 : decode cX16_monitorNow 5 = .ok (.invokeinterface 46 2, 5) := by decide +kernel
theorem dX16_monitorNow_10 : decode cX16_monitorNow 10 = .ok (.checkcast 93, 3) := by decide +kernel
theorem dX16_monitorNow_13 : decode cX16_monitorNow 13 = .ok (.astore_n 3, 1) := by decide +kernel
theorem dX16_monitorNow_14 : decode cX16_monitorNow 14 = .ok (.iload_n 2, 1) := by decide +kernel
theorem dX16_monitorNow_15 : decode cX16_monitorNow 15 = .ok (.iconst 5, 1) := by decide +kernel
theorem dX16_monitorNow_16 : decode cX16_monitorNow 16 = .ok (.if_icmp .ge 12, 3) := by decide +kernel
theorem dX16_monitorNow_19 : decode cX16_monitorNow 19 = .ok (.aload_n 3, 1) := by decide +kernel
theorem dX16_monitorNow_20 : decode cX16_monitorNow 20 = .ok (.getfield 95, 3) := by decide +kernel
theorem dX16_monitorNow_23 : decode cX16_monitorNow 23 = .ok (.iload_n 2, 1) := by decide +kernel
theorem dX16_monitorNow_24 : decode cX16_monitorNow 24 = .ok (.iaload, 1) := by decide +kernel
theorem dX16_monitorNow_25 : decode cX16_monitorNow 25 = .ok (.goto 53, 3) := by decide +kernel
theorem dX16_monitorNow_28 : decode cX16_monitorNow 28 = .ok (.iload_n 2, 1) := by decide +kernel
theorem dX16_monitorNow_29 : decode cX16_monitorNow 29 = .ok (.iconst 5, 1) := by decide +kernel
theorem dX16_monitorNow_30 : decode cX16_monitorNow 30 = .ok (.if_icmp .ne 10, 3) := by decide +kernel
theorem dX16_monitorNow_33 : decode cX16_monitorNow 33 = .ok (.aload_n 3, 1) := by decide +kernel
theorem dX16_monitorNow_34 : decode cX16_monitorNow 34 = .ok (.getfield 101, 3) := by decide +kernel
theorem dX16_monitorNow_37 : decode cX16_monitorNow 37 = .ok (.goto 41, 3) := by decide +kernel
theorem dX16_monitorNow_40 : decode cX16_monitorNow 40 = .ok (.iload_n 2, 1) := by decide +kernel
theorem dX16_monitorNow_41 : decode cX16_monitorNow 41 = .ok (.bipush 6, 2) := by decide +kernel
theorem dX16_monitorNow_43 : decode cX16_monitorNow 43 = .ok (.if_icmp .ne 10, 3) := by decide +kernel
theorem dX16_monitorNow_46 : decode cX16_monitorNow 46 = .ok (.aload_n 3, 1) := by decide +kernel
theorem dX16_monitorNow_47 : decode cX16_monitorNow 47 = .ok (.getfield 211, 3) := by decide +kernel
theorem dX16_monitorNow_50 : decode cX16_monitorNow 50 = .ok (.goto 28, 3) := by decide +kernel
theorem dX16_monitorNow_53 : decode cX16_monitorNow 53 = .ok (.iload_n 2, 1) := by decide +kernel
theorem dX16_monitorNow_54 : decode cX16_monitorNow 54 = .ok (.bipush 7, 2) := by decide +kernel
theorem dX16_monitorNow_56 : decode cX16_monitorNow 56 = .ok (.if_icmp .ne 10, 3) := by decide +kernel
theorem dX16_monitorNow_59 : decode cX16_monitorNow 59 = .ok (.aload_n 3, 1) := by decide +kernel
theorem dX16_monitorNow_60 : decode cX16_monitorNow 60 = .ok (.getfield 132, 3) := by decide +kernel
theorem dX16_monitorNow_63 : decode cX16_monitorNow 63 = .ok (.goto 15, 3) := by decide +kernel
theorem dX16_monitorNow_66 : decode cX16_monitorNow 66 = .ok (.aload_n 0, 1) := by decide +kernel
theorem dX16_monitorNow_67 : decode cX16_monitorNow 67 = .ok (.iload_n 1, 1) := by decide +kernel
theorem dX16_monitorNow_68 : decode cX16_monitorNow 68 = .ok (.aload_n 0, 1) := by decide +kernel
theorem dX16_monitorNow_69 : decode cX16_monitorNow 69 = .ok (.getfield 125, 3) := by decide +kernel
theorem dX16_monitorNow_72 : decode cX16_monitorNow 72 = .ok (.bipush 24, 2) := by decide +kernel
theorem dX16_monitorNow_74 : decode cX16_monitorNow 74 = .ok (.irem, 1) := by decide +kernel
theorem dX16_monitorNow_75 : decode cX16_monitorNow 75 = .ok (.invokevirtual 208, 3) := by decide +kernel
theorem dX16_monitorNow_78 : decode cX16_monitorNow 78 = .ok (.ireturn, 1) := by decide +kernel
abbrev rm_m_X16_monitorNow : Room := { frames := 3, cells := 0, slots := 0, locals := 64 }
set_option maxHeartbeats 4000000 in
set_option maxRecDepth 100000 in
theorem m_X16_monitorNow {s0 : State} {l : Launch} {D : va_G} {cy : Nat → ClassId} (G : Gl s0 l D cy) (S : HS) (ea ns nj nm nt nr nq : Nat) (h : RI ea S ns nj nm nt nr nq) (mo q : Nat) (hmo : mo < nm) (hq : q < 9) : Ctr s0 l D cy yX16_monitorNow cX16_monitorNow 4 (some .int) rm_m_X16_monitorNow S [.ref (gG S 16 0), .int (nI mo), .int (nI q)] (PU S (some (.int (rMonNow S mo q)))) := by
  refine pro "CavershamShiftModel" G rfl rfl (Nat.le_of_ble_eq_true rfl) (fun p e s m below meth c ls X w hnm hl => ?_)
  have hx := X.1
  have hb := X.2.1
  have hown := X.2.2.2.1
  have hts := X.2.2.2.2.1
  have hl : lv_has ls 4 [(0, .ref (gG S 16 0)), (1, .int (nI mo)), (2, .int (nI q))] := hl
  refine lv_aload_n hx hb dX16_monitorNow_0 rfl (lv_at hl 0 rfl) ?_
  refine g_16_8 (S := S) (x := (some (gG S 17 8))) X w h.v wF_X16_23 (h.f_mo) dX16_monitorNow_1 ?_
  refine lv_iload_n hx hb dX16_monitorNow_4 rfl (lv_at hl 1 rfl) ?_
  refine cF (S := S) (t := 17) (nA := 1) (As := [.int (nI mo)]) (rest := []) X w hl h.l_mo.1 (m_get G S ea 8 mo nm (some (gG S 12 mo)) h.l_mo hmo (h.e_mo mo hmo).1) wY_Jx4a65c_get_915e3 wM_X16_46 wIn_Jx4a65c_get_915e3 wSe_Jx4a65c_Jx4a65c_get_915e3_of_java_util_List_get__I_Ljava_lang_Object_ wI_Jx4a65c fw_get (by decide) rfl (by decide +kernel) rfl rfl dX16_monitorNow_5 ⟨by decide, by decide⟩ (Nat.le_of_ble_eq_true rfl) (⟨Nat.le_of_ble_eq_true rfl, Nat.le_of_ble_eq_true rfl⟩) (fun v1 S1 H locs hp w => ?_)
  obtain ⟨rfl, rfl⟩ := hp
  refine ckC (S := S) (t := 12) X w (h.e_mo mo hmo).2.1 (by decide) rfl wC_X16_93 dX16_monitorNow_10 ?_
  refine lv_astore_n (lv' := [(3, .ref (gG S 12 mo)), (0, .ref (gG S 16 0)), (1, .int (nI mo)), (2, .int (nI q))]) hx hb dX16_monitorNow_13 rfl hl (by decide) rfl (fun ls hl => ?_)
  refine lv_iload_n hx hb dX16_monitorNow_14 rfl (lv_at hl 3 rfl) ?_
  refine lv_iconst (v := 5) hx hb dX16_monitorNow_15 (by decide) ?_
  refine lv_icmp_ge (tgt := 28) hx hb dX16_monitorNow_16 (by decide) (fun c5 => ?_) (fun c5 => ?_)
  · have h5 : ¬ q < 5 := fun z => absurd ((nI_leI (a := 5) (by decide) (by omega)).mp c5) (by omega)
    refine lv_iload_n hx hb dX16_monitorNow_28 rfl (lv_at hl 3 rfl) ?_
    refine lv_iconst (v := 5) hx hb dX16_monitorNow_29 (by decide) ?_
    refine lv_icmp_ne (tgt := 40) hx hb dX16_monitorNow_30 (by decide) (fun c6 => ?_) (fun c6 => ?_)
    · have h6 : ¬ q = 5 := fun z => c6 (by rw [z]; rfl)
      refine lv_iload_n hx hb dX16_monitorNow_40 rfl (lv_at hl 3 rfl) ?_
      refine lv_bipush (v := 6) hx hb dX16_monitorNow_41 (by decide) ?_
      refine lv_icmp_ne (tgt := 53) hx hb dX16_monitorNow_43 (by decide) (fun c7 => ?_) (fun c7 => ?_)
      · have h7 : ¬ q = 6 := fun z => c7 (by rw [z]; rfl)
        refine lv_iload_n hx hb dX16_monitorNow_53 rfl (lv_at hl 3 rfl) ?_
        refine lv_bipush (v := 7) hx hb dX16_monitorNow_54 (by decide) ?_
        refine lv_icmp_ne (tgt := 66) hx hb dX16_monitorNow_56 (by decide) (fun c8 => ?_) (fun c8 => ?_)
        · have h8 : ¬ q = 7 := fun z => c8 (by rw [z]; rfl)
          refine lv_aload_n hx hb dX16_monitorNow_66 rfl (lv_at hl 1 rfl) ?_
          refine lv_iload_n hx hb dX16_monitorNow_67 rfl (lv_at hl 2 rfl) ?_
          refine lv_aload_n hx hb dX16_monitorNow_68 rfl (lv_at hl 1 rfl) ?_
          refine g_16_1 (S := S) (x := (nI (hN S))) X w h.v wF_X16_125 (h.hNx.2) dX16_monitorNow_69 ?_
          refine lv_bipush (v := 24) hx hb dX16_monitorNow_72 (by decide) ?_
          refine lv_irem hx hb dX16_monitorNow_74 (by decide) ?_
          refine lv_topi (fun z2 ez2 => ?_)
          obtain rfl : z2 = nI (hN S % 24) := ez2.trans (pk_rem (d := 24) (by have := h.hNx.1; omega) (by decide) (by decide))
          refine cV (S := S) (nA := 2) (As := [.int (nI mo), .int (nI (hN S % 24))]) (rest := []) X w hl h.v (m_X16_setOf G S ea ns nj nm nt nr nq h (nI mo) (hN S % 24) (Nat.mod_lt _ (by decide))) wY_X16_setOf wM_X16_208 wIn_X16_setOf wSe_X16_X16_setOf wI_X16 (by decide) rfl (by decide +kernel) rfl rfl dX16_monitorNow_75 ⟨by decide, by decide⟩ (Nat.le_of_ble_eq_true rfl) (⟨Nat.le_of_ble_eq_true rfl, Nat.le_of_ble_eq_true rfl⟩) (fun v3 S1 H locs hp w => ?_)
          obtain ⟨rfl, rfl⟩ := hp
          exact rI X w rfl dX16_monitorNow_78 (by decide) (by decide) (pu_i (by unfold rMonNow; first | rw [if_pos h5] | rw [if_neg h5, if_pos h6] | rw [if_neg h5, if_neg h6, if_pos h7] | rw [if_neg h5, if_neg h6, if_neg h7, if_pos h8] | rw [if_neg h5, if_neg h6, if_neg h7, if_neg h8]))
        · have h8 : q = 7 := (nI_eq (b := 7) (by omega) (by decide)).mp c8
          refine lv_aload_n hx hb dX16_monitorNow_59 rfl (lv_at hl 0 rfl) ?_
          refine g_12_3 (S := S) (x := (mI S 195 mo)) X w (h.e_mo mo hmo).2.1 wF_X16_132 (rfl) dX16_monitorNow_60 ?_
          refine lv_goto (tgt := 78) hx hb dX16_monitorNow_63 (by decide) ?_
          exact rI X w rfl dX16_monitorNow_78 (by decide) (by decide) (pu_i (by unfold rMonNow; first | rw [if_pos h5] | rw [if_neg h5, if_pos h6] | rw [if_neg h5, if_neg h6, if_pos h7] | rw [if_neg h5, if_neg h6, if_neg h7, if_pos h8] | rw [if_neg h5, if_neg h6, if_neg h7, if_neg h8]))
      · have h7 : q = 6 := (nI_eq (b := 6) (by omega) (by decide)).mp c7
        refine lv_aload_n hx hb dX16_monitorNow_46 rfl (lv_at hl 0 rfl) ?_
        refine g_12_2 (S := S) (x := (mI S 194 mo)) X w (h.e_mo mo hmo).2.1 wF_X16_211 (rfl) dX16_monitorNow_47 ?_
        refine lv_goto (tgt := 78) hx hb dX16_monitorNow_50 (by decide) ?_
        exact rI X w rfl dX16_monitorNow_78 (by decide) (by decide) (pu_i (by unfold rMonNow; first | rw [if_pos h5] | rw [if_neg h5, if_pos h6] | rw [if_neg h5, if_neg h6, if_pos h7] | rw [if_neg h5, if_neg h6, if_neg h7, if_pos h8] | rw [if_neg h5, if_neg h6, if_neg h7, if_neg h8]))
    · have h6 : q = 5 := (nI_eq (b := 5) (by omega) (by decide)).mp c6
      refine lv_aload_n hx hb dX16_monitorNow_33 rfl (lv_at hl 0 rfl) ?_
      refine g_12_1 (S := S) (x := (mI S 193 mo)) X w (h.e_mo mo hmo).2.1 wF_X16_101 (rfl) dX16_monitorNow_34 ?_
      refine lv_goto (tgt := 78) hx hb dX16_monitorNow_37 (by decide) ?_
      exact rI X w rfl dX16_monitorNow_78 (by decide) (by decide) (pu_i (by unfold rMonNow; first | rw [if_pos h5] | rw [if_neg h5, if_pos h6] | rw [if_neg h5, if_neg h6, if_pos h7] | rw [if_neg h5, if_neg h6, if_neg h7, if_pos h8] | rw [if_neg h5, if_neg h6, if_neg h7, if_neg h8]))
  · have h5 : q < 5 := Nat.lt_of_not_le (fun z => c5 ((nI_leI (a := 5) (by decide) (by omega)).mpr z))
    refine lv_aload_n hx hb dX16_monitorNow_19 rfl (lv_at hl 0 rfl) ?_
    refine g_12_0 (S := S) (x := (some (gG S 34 mo))) X w (h.e_mo mo hmo).2.1 wF_X16_95 ((h.e_mo mo hmo).2.2.1) dX16_monitorNow_20 ?_
    refine lv_iload_n hx hb dX16_monitorNow_23 rfl (lv_at hl 3 rfl) ?_
    refine aLdI (S := S) (t := 34) (v := mA S 34 mo q) X w (h.e_mo mo hmo).2.2.2.1 (by decide) rfl rfl (by rw [(h.e_mo mo hmo).2.2.2.2]; exact nI_vp h5 (by decide)) (by rw [cl_nI (n := 5) h5 (by decide)]) dX16_monitorNow_24 ?_
    refine lv_goto (tgt := 78) hx hb dX16_monitorNow_25 (by decide) ?_
    exact rI X w rfl dX16_monitorNow_78 (by decide) (by decide) (pu_i (by unfold rMonNow; first | rw [if_pos h5] | rw [if_neg h5, if_pos h6] | rw [if_neg h5, if_neg h6, if_pos h7] | rw [if_neg h5, if_neg h6, if_neg h7, if_pos h8] | rw [if_neg h5, if_neg h6, if_neg h7, if_neg h8]))

