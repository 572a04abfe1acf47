def rQual (S : HS) (ns nj mo i : Nat) (at_ : Int32) : Int32 := if rHold (rComes S ns nj i at_ / 10) 0 9 = 0 ∨ mA S 34 mo (mI S 227 i).toNatClampNeg = 0 then 0 else rHold (rHold (rComes S ns nj i at_ / 10) 0 9 + mA S 34 mo (mI S 227 i).toNatClampNeg - mI S 193 mo / 4) 0 18
def rSetOf (S : HS) (a : Nat) (mo : Int32) : Int32 := if mA S 37 a 0 = mo then 0 else if mA S 37 a 1 = mo then 1 else if mA S 37 a 2 = mo then 2 else -1
def rStale (S : HS) (j : Nat) : Bool := decide (mI S 247 j = 0) && decide (24 ≤ mI S 257 0 - mI S 241 j)
def sitN (S : HS) (a k : Nat) : Nat := (mA S 37 a k).toNatClampNeg
/-- the quality of the set k for the talk j at the hour of the day a, if it hears its station -/
def rSlotQ (S : HS) (ns nj j a k : Nat) : Int32 := if mA S 36 a k = nI (tS S j) then rQual S ns nj (sitN S a k) (tS S j) (nI a) else 0
def rRec (S : HS) (ns nj j a : Nat) : Nat → Int32
  | 0 => -1
  | k + 1 => if rSlotQ S ns nj j a k = 0 then rRec S ns nj j a k else if rRec S ns nj j a k = -1 ∨ rSlotQ S ns nj j a (rRec S ns nj j a k).toNatClampNeg < rSlotQ S ns nj j a k then nI k else rRec S ns nj j a k
theorem rRec_0 {S : HS} {ns nj j a k : Nat} (hz : rSlotQ S ns nj j a k = 0) : rRec S ns nj j a (k + 1) = rRec S ns nj j a k := if_pos hz
theorem rRec_t {S : HS} {ns nj j a k : Nat} (hz : ¬ rSlotQ S ns nj j a k = 0) (h : rRec S ns nj j a k = -1 ∨ rSlotQ S ns nj j a (rRec S ns nj j a k).toNatClampNeg < rSlotQ S ns nj j a k) : rRec S ns nj j a (k + 1) = nI k := (if_neg hz).trans (if_pos h)
theorem rRec_f {S : HS} {ns nj j a k : Nat} (hz : ¬ rSlotQ S ns nj j a k = 0) (h : ¬ (rRec S ns nj j a k = -1 ∨ rSlotQ S ns nj j a (rRec S ns nj j a k).toNatClampNeg < rSlotQ S ns nj j a k)) : rRec S ns nj j a (k + 1) = rRec S ns nj j a k := (if_neg hz).trans (if_neg h)
theorem rRec_in {S : HS} {ns nj j a : Nat} : ∀ k : Nat, rRec S ns nj j a k = -1 ∨ ∃ b, b < k ∧ rRec S ns nj j a k = nI b ∧ ¬ rSlotQ S ns nj j a b = 0
  | 0 => Or.inl rfl
  | k + 1 => by
    by_cases hz : rSlotQ S ns nj j a k = 0
    · rw [rRec_0 hz]
      exact (rRec_in k).imp id (fun ⟨b, h1, h2⟩ => ⟨b, Nat.lt_succ_of_lt h1, h2⟩)
    · by_cases h : rRec S ns nj j a k = -1 ∨ rSlotQ S ns nj j a (rRec S ns nj j a k).toNatClampNeg < rSlotQ S ns nj j a k
      · rw [rRec_t hz h]
        exact Or.inr ⟨k, Nat.lt_succ_self k, rfl, hz⟩
      · rw [rRec_f hz h]
        exact (rRec_in k).imp id (fun ⟨b, h1, h2⟩ => ⟨b, Nat.lt_succ_of_lt h1, h2⟩)
theorem rSlot_h {S : HS} {ns nj j a k : Nat} (h : ¬ rSlotQ S ns nj j a k = 0) : mA S 36 a k = nI (tS S j) := by
  by_cases z : mA S 36 a k = nI (tS S j)
  · exact z
  · exact absurd (if_neg z) h
theorem RI.sit {ea : Nat} {S : HS} {ns nj nm nt nr nq : Nat} (h : RI ea S ns nj nm nt nr nq) {a k g : Nat} (ha : a < 24) (hk : k < 3) (he : mA S 36 a k = nI g) (hg : g < 2 ^ 30) : sitN S a k < nm ∧ mA S 37 a k = nI (sitN S a k) := by
  rcases h.x_si a k ha hk with h1 | ⟨z, h1, h2⟩
  · have h3 := (h.x_hs a k ha hk).mpr h1
    rw [he] at h3
    have h4 : (nI g).toInt = (-1 : Int32).toInt := by rw [h3]
    rw [nI_toInt (by omega)] at h4
    have h5 : (-1 : Int32).toInt = -1 := by decide
    omega
  · have hb := h.b_mo
    have e : sitN S a k = z := by unfold sitN; rw [h2]; exact nI_clamp (by omega)
    rw [e]; exact ⟨h1, h2⟩
theorem rSetOf_hit {S : HS} {a k : Nat} {mo : Int32} (hk : k < 3) (hno : ∀ q, q < k → ¬ mA S 37 a q = mo) (hit : mA S 37 a k = mo) : rSetOf S a mo = nI k := by
  have h3 : k = 0 ∨ k = 1 ∨ k = 2 := by omega
  rcases h3 with rfl | rfl | rfl
  · unfold rSetOf; rw [if_pos hit]; rfl
  · unfold rSetOf; rw [if_neg (hno 0 (by decide)), if_pos hit]; rfl
  · unfold rSetOf; rw [if_neg (hno 0 (by decide)), if_neg (hno 1 (by decide)), if_pos hit]; rfl
theorem nI_neg1 {g : Nat} (h : g < 2 ^ 31) : ¬ nI g = -1 := by
  intro z
  have h4 : (nI g).toInt = (-1 : Int32).toInt := by rw [z]
  rw [nI_toInt h] at h4
  have h5 : (-1 : Int32).toInt = -1 := by decide
  omega

theorem dX16_qualityNow_0 : decode cX16_qualityNow 0 = .ok (.aload_n 0, 1) := by decide +kernel
theorem dX16_qualityNow_1 : decode cX16_qualityNow 1 = .ok (.iload_n 2, 1) := by decide +kernel
theorem dX16_qualityNow_2 : decode cX16_qualityNow 2 = .ok (.iload_n 3, 1) := by decide +kernel
theorem dX16_qualityNow_3 : decode cX16_qualityNow 3 = .ok (.invokevirtual 85, 3) := by decide +kernel
theorem dX16_qualityNow_6 : decode cX16_qualityNow 6 = .ok (.bipush 10, 2) := by decide +kernel
theorem dX16_qualityNow_8 : decode cX16_qualityNow 8 = .ok (.idiv, 1) := by decide +kernel
theorem dX16_qualityNow_9 : decode cX16_qualityNow 9 = .ok (.iconst 0, 1) := by decide +kernel
theorem dX16_qualityNow_10 : decode cX16_qualityNow 10 = .ok (.bipush 9, 2) := by decide +kernel
theorem dX16_qualityNow_12 : decode cX16_qualityNow 12 = .ok (.invokestatic 89, 3) := by decide +kernel
theorem dX16_qualityNow_15 : decode cX16_qualityNow 15 = .ok (.istore 4, 2) := by decide +kernel
theorem dX16_qualityNow_17 : decode cX16_qualityNow 17 = .ok (.aload_n 0, 1) := by decide +kernel
theorem dX16_qualityNow_18 : decode cX16_qualityNow 18 = .ok (.getfield 23, 3) := by decide +kernel
theorem dX16_qualityNow_21 : decode cX16_qualityNow 21 = .ok (.iload_n 1, 1) := by decide +kernel
theorem dX16_qualityNow_22 : decode cX16_qualityNow 22 = .ok (.invokeinterface 46 2, 5) := by decide +kernel
theorem dX16_qualityNow_27 : decode cX16_qualityNow 27 = .ok (.checkcast 93, 3) := by decide +kernel
theorem dX16_qualityNow_30 : decode cX16_qualityNow 30 = .ok (.getfield 95, 3) := by decide +kernel
theorem dX16_qualityNow_33 : decode cX16_qualityNow 33 = .ok (.aload_n 0, 1) := by decide +kernel
theorem dX16_qualityNow_34 : decode cX16_qualityNow 34 = .ok (.getfield 16, 3) := by decide +kernel
theorem dX16_qualityNow_37 : decode cX16_qualityNow 37 = .ok (.iload_n 2, 1) := by decide +kernel
theorem dX16_qualityNow_38 : decode cX16_qualityNow 38 = .ok (.invokeinterface 46 2, 5) := by decide +kernel
theorem dX16_qualityNow_43 : decode cX16_qualityNow 43 = .ok (.checkcast 52, 3) := by decide +kernel
theorem dX16_qualityNow_46 : decode cX16_qualityNow 46 = .ok (.getfield 98, 3) := by decide +kernel
theorem dX16_qualityNow_49 : decode cX16_qualityNow 49 = .ok (.iaload, 1) := by decide +kernel
theorem dX16_qualityNow_50 : decode cX16_qualityNow 50 = .ok (.istore 5, 2) := by decide +kernel
theorem dX16_qualityNow_52 : decode cX16_qualityNow 52 = .ok (.iload 4, 2) := by decide +kernel
theorem dX16_qualityNow_54 : decode cX16_qualityNow 54 = .ok (.ifCond .eq 8, 3) := by decide +kernel
theorem dX16_qualityNow_57 : decode cX16_qualityNow 57 = .ok (.iload 5, 2) := by decide +kernel
theorem dX16_qualityNow_59 : decode cX16_qualityNow 59 = .ok (.ifCond .ne 7, 3) := by decide +kernel
theorem dX16_qualityNow_62 : decode cX16_qualityNow 62 = .ok (.iconst 0, 1) := by decide +kernel
theorem dX16_qualityNow_63 : decode cX16_qualityNow 63 = .ok (.goto 33, 3) := by decide +kernel
theorem dX16_qualityNow_66 : decode cX16_qualityNow 66 = .ok (.iload 4, 2) := by decide +kernel
theorem dX16_qualityNow_68 : decode cX16_qualityNow 68 = .ok (.iload 5, 2) := by decide +kernel
theorem dX16_qualityNow_70 : decode cX16_qualityNow 70 = .ok (.iadd, 1) := by decide +kernel
theorem dX16_qualityNow_71 : decode cX16_qualityNow 71 = .ok (.aload_n 0, 1) := by decide +kernel
theorem dX16_qualityNow_72 : decode cX16_qualityNow 72 = .ok (.getfield 23, 3) := by decide +kernel
theorem dX16_qualityNow_75 : decode cX16_qualityNow 75 = .ok (.iload_n 1, 1) := by decide +kernel
theorem dX16_qualityNow_76 : decode cX16_qualityNow 76 = .ok (.invokeinterface 46 2, 5) := by decide +kernel
theorem dX16_qualityNow_81 : decode cX16_qualityNow 81 = .ok (.checkcast 93, 3) := by decide +kernel
theorem dX16_qualityNow_84 : decode cX16_qualityNow 84 = .ok (.getfield 101, 3) := by decide +kernel
theorem dX16_qualityNow_87 : decode cX16_qualityNow 87 = .ok (.iconst 4, 1) := by decide +kernel
theorem dX16_qualityNow_88 : decode cX16_qualityNow 88 = .ok (.idiv, 1) := by decide +kernel
theorem dX16_qualityNow_89 : decode cX16_qualityNow 89 = .ok (.isub, 1) := by decide +kernel
theorem dX16_qualityNow_90 : decode cX16_qualityNow 90 = .ok (.iconst 0, 1) := by decide +kernel
theorem dX16_qualityNow_91 : decode cX16_qualityNow 91 = .ok (.bipush 18, 2) := by decide +kernel
theorem dX16_qualityNow_93 : decode cX16_qualityNow 93 = .ok (.invokestatic 89, 3) := by decide +kernel
theorem dX16_qualityNow_96 : decode cX16_qualityNow 96 = .ok (.ireturn, 1) := by decide +kernel
abbrev rm_m_X16_qualityNow : Room := { frames := 5, cells := 0, slots := 0, locals := 112 }
set_option maxHeartbeats 4000000 in
set_option maxRecDepth 100000 in
theorem m_X16_qualityNow {s0 : State} {l : Launch} {D : va_G} {cy : Nat → ClassId} (G : Gl s0 l D cy) (S : HS) (ea ns nj nm nt nr nq : Nat) (h : RI ea S ns nj nm nt nr nq) (mo i : Nat) (hmo : mo < nm) (hi : i < ns) (at_ : Int32) : Ctr s0 l D cy yX16_qualityNow cX16_qualityNow 6 (some .int) rm_m_X16_qualityNow S [.ref (gG S 16 0), .int (nI mo), .int (nI i), .int at_] (PU S (some (.int (rQual S ns nj mo i at_)))) := by
  refine pro "CavershamShiftModel" G rfl rfl (Nat.le_of_ble_eq_true rfl) (fun p e s m below meth c ls X w hnm hl => ?_)
  have hx := X.1
  have hb := X.2.1
  have hown := X.2.2.2.1
  have hts := X.2.2.2.2.1
  have hl : lv_has ls 6 [(0, .ref (gG S 16 0)), (1, .int (nI mo)), (2, .int (nI i)), (3, .int at_)] := hl
  refine lv_aload_n hx hb dX16_qualityNow_0 rfl (lv_at hl 0 rfl) ?_
  refine lv_iload_n hx hb dX16_qualityNow_1 rfl (lv_at hl 2 rfl) ?_
  refine lv_iload_n hx hb dX16_qualityNow_2 rfl (lv_at hl 3 rfl) ?_
  refine cV (S := S) (nA := 2) (As := [.int (nI i), .int at_]) (rest := []) X w hl h.v (m_X16_comesNow G S ea ns nj nm nt nr nq h i hi at_) wY_X16_comesNow wM_X16_85 wIn_X16_comesNow wSe_X16_X16_comesNow wI_X16 (by decide) rfl (by decide +kernel) rfl rfl dX16_qualityNow_3 ⟨by decide, by decide⟩ (Nat.le_of_ble_eq_true rfl) (⟨Nat.le_of_ble_eq_true rfl, Nat.le_of_ble_eq_true rfl⟩) (fun v1 S1 H locs hp w => ?_)
  obtain ⟨rfl, rfl⟩ := hp
  refine lv_bipush (v := 10) hx hb dX16_qualityNow_6 (by decide) ?_
  refine lv_idiv hx hb dX16_qualityNow_8 (by decide) ?_
  refine lv_iconst (v := 0) hx hb dX16_qualityNow_9 (by decide) ?_
  refine lv_bipush (v := 9) hx hb dX16_qualityNow_10 (by decide) ?_
  refine cS (S := S) (nA := 3) (As := [.int ((rComes S ns nj i at_) / 10), .int 0, .int 9]) (rest := []) X w hl (m_X16_hold G S ((rComes S ns nj i at_) / 10) 0 9) wY_X16_hold wM_X16_89 wSt_X16_hold wI_X16 (by decide +kernel) rfl rfl dX16_qualityNow_12 ⟨by decide, by decide⟩ (Nat.le_of_ble_eq_true rfl) (⟨Nat.le_of_ble_eq_true rfl, Nat.le_of_ble_eq_true rfl⟩) (fun v2 S1 H locs hp w => ?_)
  obtain ⟨rfl, rfl⟩ := hp
  refine lv_topi (fun cl ecl => ?_)
  have ecl : cl = rHold (rComes S ns nj i at_ / 10) 0 9 := ecl
  refine lv_istore (lv' := [(4, .int cl), (0, .ref (gG S 16 0)), (1, .int (nI mo)), (2, .int (nI i)), (3, .int at_)]) hx hb dX16_qualityNow_15 hl (by decide) rfl (fun ls hl => ?_)
  refine lv_aload_n hx hb dX16_qualityNow_17 rfl (lv_at hl 1 rfl) ?_
  refine g_16_8 (S := S) (x := (some (gG S 17 8))) X w h.v wF_X16_23 (h.f_mo) dX16_qualityNow_18 ?_
  refine lv_iload_n hx hb dX16_qualityNow_21 rfl (lv_at hl 2 rfl) ?_
  refine cF (S := S) (t := 17) (nA := 1) (As := [.int (nI mo)]) (rest := []) X w hl h.l_mo.1 (m_get G S ea 8 mo nm (some (gG S 12 mo)) h.l_mo hmo (h.e_mo mo hmo).1) wY_Jx4a65c_get_915e3 wM_X16_46 wIn_Jx4a65c_get_915e3 wSe_Jx4a65c_Jx4a65c_get_915e3_of_java_util_List_get__I_Ljava_lang_Object_ wI_Jx4a65c fw_get (by decide) rfl (by decide +kernel) rfl rfl dX16_qualityNow_22 ⟨by decide, by decide⟩ (Nat.le_of_ble_eq_true rfl) (⟨Nat.le_of_ble_eq_true rfl, Nat.le_of_ble_eq_true rfl⟩) (fun v3 S1 H locs hp w => ?_)
  obtain ⟨rfl, rfl⟩ := hp
  refine ckC (S := S) (t := 12) X w (h.e_mo mo hmo).2.1 (by decide) rfl wC_X16_93 dX16_qualityNow_27 ?_
  refine g_12_0 (S := S) (x := (some (gG S 34 mo))) X w (h.e_mo mo hmo).2.1 wF_X16_95 ((h.e_mo mo hmo).2.2.1) dX16_qualityNow_30 ?_
  refine lv_aload_n hx hb dX16_qualityNow_33 rfl (lv_at hl 1 rfl) ?_
  refine g_16_6 (S := S) (x := (some (gG S 17 6))) X w h.v wF_X16_16 (h.f_st) dX16_qualityNow_34 ?_
  refine lv_iload_n hx hb dX16_qualityNow_37 rfl (lv_at hl 3 rfl) ?_
  refine cF (S := S) (t := 17) (nA := 1) (As := [.int (nI i)]) (rest := [.ref (gG S 34 mo)]) X w hl h.l_st.1 (m_get G S ea 6 i ns (some (gG S 14 i)) h.l_st hi (h.e_st i hi).1) wY_Jx4a65c_get_915e3 wM_X16_46 wIn_Jx4a65c_get_915e3 wSe_Jx4a65c_Jx4a65c_get_915e3_of_java_util_List_get__I_Ljava_lang_Object_ wI_Jx4a65c fw_get (by decide) rfl (by decide +kernel) rfl rfl dX16_qualityNow_38 ⟨by decide, by decide⟩ (Nat.le_of_ble_eq_true rfl) (⟨Nat.le_of_ble_eq_true rfl, Nat.le_of_ble_eq_true rfl⟩) (fun v4 S1 H locs hp w => ?_)
  obtain ⟨rfl, rfl⟩ := hp
  refine ckC (S := S) (t := 14) X w (h.e_st i hi).2 (by decide) rfl wC_X16_52 dX16_qualityNow_43 ?_
  refine g_14_3 (S := S) (x := (mI S 227 i)) X w (h.e_st i hi).2 wF_X16_98 (rfl) dX16_qualityNow_46 ?_
  refine aLdI (S := S) (t := 34) (v := mA S 34 mo (mI S 227 i).toNatClampNeg) X w (h.e_mo mo hmo).2.2.2.1 (by decide) rfl rfl (by obtain ⟨g, hg1, hg2⟩ := h.x_st i hi; rw [(h.e_mo mo hmo).2.2.2.2, hg2]; exact nI_vp hg1 (by decide)) (rfl) dX16_qualityNow_49 ?_
  refine lv_istore (lv' := [(5, .int (mA S 34 mo (mI S 227 i).toNatClampNeg)), (4, .int cl), (0, .ref (gG S 16 0)), (1, .int (nI mo)), (2, .int (nI i)), (3, .int at_)]) hx hb dX16_qualityNow_50 hl (by decide) rfl (fun ls hl => ?_)
  refine lv_iload hx hb dX16_qualityNow_52 (lv_at hl 1 rfl) ?_
  refine lv_if_eq (tgt := 62) hx hb dX16_qualityNow_54 (by decide) (fun hc0 => ?_) (fun hc0 => ?_)
  · refine lv_iconst (v := 0) hx hb dX16_qualityNow_62 (by decide) ?_
    refine lv_goto (tgt := 96) hx hb dX16_qualityNow_63 (by decide) ?_
    exact rI X w rfl dX16_qualityNow_96 (by decide) (by decide) (pu_i (by unfold rQual; subst ecl; first | rw [if_pos (Or.inl hc0)] | rw [if_pos (Or.inr hs0)] | (rw [if_neg (fun z => z.elim hc0 hs0)]; rfl)))
  · refine lv_iload hx hb dX16_qualityNow_57 (lv_at hl 0 rfl) ?_
    refine lv_if_ne (tgt := 66) hx hb dX16_qualityNow_59 (by decide) (fun hs0 => ?_) (fun hs0 => ?_)
    · refine lv_iload hx hb dX16_qualityNow_66 (lv_at hl 1 rfl) ?_
      refine lv_iload hx hb dX16_qualityNow_68 (lv_at hl 0 rfl) ?_
      refine lv_iadd hx hb dX16_qualityNow_70 ?_
      refine lv_aload_n hx hb dX16_qualityNow_71 rfl (lv_at hl 2 rfl) ?_
      refine g_16_8 (S := S) (x := (some (gG S 17 8))) X w h.v wF_X16_23 (h.f_mo) dX16_qualityNow_72 ?_
      refine lv_iload_n hx hb dX16_qualityNow_75 rfl (lv_at hl 3 rfl) ?_
      refine cF (S := S) (t := 17) (nA := 1) (As := [.int (nI mo)]) (rest := [.int (cl + (mA S 34 mo (mI S 227 i).toNatClampNeg))]) X w hl h.l_mo.1 (m_get G S ea 8 mo nm (some (gG S 12 mo)) h.l_mo hmo (h.e_mo mo hmo).1) wY_Jx4a65c_get_915e3 wM_X16_46 wIn_Jx4a65c_get_915e3 wSe_Jx4a65c_Jx4a65c_get_915e3_of_java_util_List_get__I_Ljava_lang_Object_ wI_Jx4a65c fw_get (by decide) rfl (by decide +kernel) rfl rfl dX16_qualityNow_76 ⟨by decide, by decide⟩ (Nat.le_of_ble_eq_true rfl) (⟨Nat.le_of_ble_eq_true rfl, Nat.le_of_ble_eq_true rfl⟩) (fun v5 S1 H locs hp w => ?_)
      obtain ⟨rfl, rfl⟩ := hp
      refine ckC (S := S) (t := 12) X w (h.e_mo mo hmo).2.1 (by decide) rfl wC_X16_93 dX16_qualityNow_81 ?_
      refine g_12_1 (S := S) (x := (mI S 193 mo)) X w (h.e_mo mo hmo).2.1 wF_X16_101 (rfl) dX16_qualityNow_84 ?_
      refine lv_iconst (v := 4) hx hb dX16_qualityNow_87 (by decide) ?_
      refine lv_idiv hx hb dX16_qualityNow_88 (by decide) ?_
      refine lv_isub hx hb dX16_qualityNow_89 ?_
      refine lv_iconst (v := 0) hx hb dX16_qualityNow_90 (by decide) ?_
      refine lv_bipush (v := 18) hx hb dX16_qualityNow_91 (by decide) ?_
      refine cS (S := S) (nA := 3) (As := [.int ((cl + (mA S 34 mo (mI S 227 i).toNatClampNeg)) - ((mI S 193 mo) / 4)), .int 0, .int 18]) (rest := []) X w hl (m_X16_hold G S ((cl + (mA S 34 mo (mI S 227 i).toNatClampNeg)) - ((mI S 193 mo) / 4)) 0 18) wY_X16_hold wM_X16_89 wSt_X16_hold wI_X16 (by decide +kernel) rfl rfl dX16_qualityNow_93 ⟨by decide, by decide⟩ (Nat.le_of_ble_eq_true rfl) (⟨Nat.le_of_ble_eq_true rfl, Nat.le_of_ble_eq_true rfl⟩) (fun v6 S1 H locs hp w => ?_)
      obtain ⟨rfl, rfl⟩ := hp
      exact rI X w rfl dX16_qualityNow_96 (by decide) (by decide) (pu_i (by unfold rQual; subst ecl; first | rw [if_pos (Or.inl hc0)] | rw [if_pos (Or.inr hs0)] | (rw [if_neg (fun z => z.elim hc0 hs0)]; rfl)))
    · refine lv_iconst (v := 0) hx hb dX16_qualityNow_62 (by decide) ?_
      refine lv_goto (tgt := 96) hx hb dX16_qualityNow_63 (by decide) ?_
      exact rI X w rfl dX16_qualityNow_96 (by decide) (by decide) (pu_i (by unfold rQual; subst ecl; first | rw [if_pos (Or.inl hc0)] | rw [if_pos (Or.inr hs0)] | (rw [if_neg (fun z => z.elim hc0 hs0)]; rfl)))

theorem dX16_landOf_0 : decode cX16_landOf 0 = .ok (.aload_n 0, 1) := by decide +kernel
theorem dX16_landOf_1 : decode cX16_landOf 1 = .ok (.getfield 16, 3) := by decide +kernel
theorem dX16_landOf_4 : decode cX16_landOf 4 = .ok (.aload_n 1, 1) := by decide +kernel
theorem dX16_landOf_5 : decode cX16_landOf 5 = .ok (.getfield 104, 3) := by decide +kernel
theorem dX16_landOf_8 : decode cX16_landOf 8 = .ok (.invokeinterface 46 2, 5) := by decide +kernel
theorem dX16_landOf_13 : decode cX16_landOf 13 = .ok (.checkcast 52, 3) := by decide +kernel
theorem dX16_landOf_16 : decode cX16_landOf 16 = .ok (.getfield 109, 3) := by decide +kernel
theorem dX16_landOf_19 : decode cX16_landOf 19 = .ok (.ireturn, 1) := by decide +kernel
abbrev rm_m_X16_landOf : Room := { frames := 3, cells := 0, slots := 0, locals := 64 }
set_option maxHeartbeats 4000000 in
set_option maxRecDepth 100000 in
theorem m_X16_landOf {s0 : State} {l : Launch} {D : va_G} {cy : Nat → ClassId} (G : Gl s0 l D cy) (S : HS) (ea ns nj nm nt nr nq : Nat) (h : RI ea S ns nj nm nt nr nq) (j : Nat) (hj : j < nt) : Ctr s0 l D cy yX16_landOf cX16_landOf 2 (some .int) rm_m_X16_landOf S [.ref (gG S 16 0), .ref (gG S 15 j)] (PU S (some (.int (mI S 226 (tS S j))))) := by
  refine pro "CavershamShiftModel" G rfl rfl (Nat.le_of_ble_eq_true rfl) (fun p e s m below meth c ls X w hnm hl => ?_)
  have hx := X.1
  have hb := X.2.1
  have hown := X.2.2.2.1
  have hts := X.2.2.2.2.1
  have hl : lv_has ls 2 [(0, .ref (gG S 16 0)), (1, .ref (gG S 15 j))] := hl
  refine lv_aload_n hx hb dX16_landOf_0 rfl (lv_at hl 0 rfl) ?_
  refine g_16_6 (S := S) (x := (some (gG S 17 6))) X w h.v wF_X16_16 (h.f_st) dX16_landOf_1 ?_
  refine lv_aload_n hx hb dX16_landOf_4 rfl (lv_at hl 1 rfl) ?_
  refine g_15_0 (S := S) (x := (nI (tS S j))) X w (h.e_ta j hj).2 wF_X16_104 ((h.tSx j hj).2) dX16_landOf_5 ?_
  refine cF (S := S) (t := 17) (nA := 1) (As := [.int (nI (tS S j))]) (rest := []) X w hl h.l_st.1 (m_get G S ea 6 (tS S j) ns (some (gG S 14 (tS S j))) h.l_st (h.tSx j hj).1 (h.e_st (tS S j) (h.tSx j hj).1).1) wY_Jx4a65c_get_915e3 wM_X16_46 wIn_Jx4a65c_get_915e3 wSe_Jx4a65c_Jx4a65c_get_915e3_of_java_util_List_get__I_Ljava_lang_Object_ wI_Jx4a65c fw_get (by decide) rfl (by decide +kernel) rfl rfl dX16_landOf_8 ⟨by decide, by decide⟩ (Nat.le_of_ble_eq_true rfl) (⟨Nat.le_of_ble_eq_true rfl, Nat.le_of_ble_eq_true rfl⟩) (fun v1 S1 H locs hp w => ?_)
  obtain ⟨rfl, rfl⟩ := hp
  refine ckC (S := S) (t := 14) X w (h.e_st (tS S j) (h.tSx j hj).1).2 (by decide) rfl wC_X16_52 dX16_landOf_13 ?_
  refine g_14_2 (S := S) (x := (mI S 226 (tS S j))) X w (h.e_st (tS S j) (h.tSx j hj).1).2 wF_X16_109 (rfl) dX16_landOf_16 ?_
  exact rI X w rfl dX16_landOf_19 (by decide) (by decide) (pu_i rfl)

theorem dX16_isStale_0 : decode cX16_isStale 0 = .ok (.aload_n 1, 1) := by decide +kernel
theorem dX16_isStale_1 : decode cX16_isStale 1 = .ok (.getfield 144, 3) := by decide +kernel
theorem dX16_isStale_4 : decode cX16_isStale 4 = .ok (.ifCond .ne 21, 3) := by decide +kernel
theorem dX16_isStale_7 : decode cX16_isStale 7 = .ok (.aload_n 0, 1) := by decide +kernel
theorem dX16_isStale_8 : decode cX16_isStale 8 = .ok (.getfield 125, 3) := by decide +kernel
theorem dX16_isStale_11 : decode cX16_isStale 11 = .ok (.aload_n 1, 1) := by decide +kernel
theorem dX16_isStale_12 : decode cX16_isStale 12 = .ok (.getfield 112, 3) := by decide +kernel
theorem dX16_isStale_15 : decode cX16_isStale 15 = .ok (.isub, 1) := by decide +kernel
theorem dX16_isStale_16 : decode cX16_isStale 16 = .ok (.bipush 24, 2) := by decide +kernel
theorem dX16_isStale_18 : decode cX16_isStale 18 = .ok (.if_icmp .lt 7, 3) := by decide +kernel
theorem dX16_isStale_21 : decode cX16_isStale 21 = .ok (.iconst 1, 1) := by decide +kernel
theorem dX16_isStale_22 : decode cX16_isStale 22 = .ok (.goto 4, 3) := by decide +kernel
theorem dX16_isStale_25 : decode cX16_isStale 25 = .ok (.iconst 0, 1) := by decide +kernel
theorem dX16_isStale_26 : decode cX16_isStale 26 = .ok (.ireturn, 1) := by decide +kernel
abbrev rm_m_X16_isStale : Room := { frames := 0, cells := 0, slots := 0, locals := 0 }
set_option maxHeartbeats 4000000 in
set_option maxRecDepth 100000 in
theorem m_X16_isStale {s0 : State} {l : Launch} {D : va_G} {cy : Nat → ClassId} (G : Gl s0 l D cy) (S : HS) (ea ns nj nm nt nr nq : Nat) (h : RI ea S ns nj nm nt nr nq) (j : Nat) (hj : j < nt) : Ctr s0 l D cy yX16_isStale cX16_isStale 2 (some .boolean) rm_m_X16_isStale S [.ref (gG S 16 0), .ref (gG S 15 j)] (PU S (some (.int (b2i (rStale S j))))) := by
  refine pro "CavershamShiftModel" G rfl rfl (Nat.le_of_ble_eq_true rfl) (fun p e s m below meth c ls X w hnm hl => ?_)
  have hx := X.1
  have hb := X.2.1
  have hown := X.2.2.2.1
  have hts := X.2.2.2.2.1
  have hl : lv_has ls 2 [(0, .ref (gG S 16 0)), (1, .ref (gG S 15 j))] := hl
  refine lv_aload_n hx hb dX16_isStale_0 rfl (lv_at hl 1 rfl) ?_
  refine g_15_7 (S := S) (x := (mI S 247 j)) X w (h.e_ta j hj).2 wF_X16_144 (rfl) dX16_isStale_1 ?_
  refine lv_if_ne (tgt := 25) hx hb dX16_isStale_4 (by decide) (fun hc1 => ?_) (fun hc1 => ?_)
  · refine lv_iconst (v := 0) hx hb dX16_isStale_25 (by decide) ?_
    exact rZ X w rfl dX16_isStale_26 (by decide) (by decide) (by decide) (pu_i (by simp_all [rStale, b2i, ← Int32.not_le]))
  · refine lv_aload_n hx hb dX16_isStale_7 rfl (lv_at hl 0 rfl) ?_
    refine g_16_1 (S := S) (x := (mI S 257 0)) X w h.v wF_X16_125 (rfl) dX16_isStale_8 ?_
    refine lv_aload_n hx hb dX16_isStale_11 rfl (lv_at hl 1 rfl) ?_
    refine g_15_1 (S := S) (x := (mI S 241 j)) X w (h.e_ta j hj).2 wF_X16_112 (rfl) dX16_isStale_12 ?_
    refine lv_isub hx hb dX16_isStale_15 ?_
    refine lv_bipush (v := 24) hx hb dX16_isStale_16 (by decide) ?_
    refine lv_icmp_lt (tgt := 25) hx hb dX16_isStale_18 (by decide) (fun hc2 => ?_) (fun hc2 => ?_)
    · refine lv_iconst (v := 0) hx hb dX16_isStale_25 (by decide) ?_
      exact rZ X w rfl dX16_isStale_26 (by decide) (by decide) (by decide) (pu_i (by simp_all [rStale, b2i, ← Int32.not_le]))
    · refine lv_iconst (v := 1) hx hb dX16_isStale_21 (by decide) ?_
      refine lv_goto (tgt := 26) hx hb dX16_isStale_22 (by decide) ?_
      exact rZ X w rfl dX16_isStale_26 (by decide) (by decide) (by decide) (pu_i (by simp_all [rStale, b2i, ← Int32.not_le]))

theorem dX16_setOf_0 : decode cX16_setOf 0 = .ok (.iconst 0, 1) := by decide +kernel
theorem dX16_setOf_1 : decode cX16_setOf 1 = .ok (.istore_n 3, 1) := by decide +kernel
theorem dX16_setOf_2 : decode cX16_setOf 2 = .ok (.iload_n 3, 1) := by decide +kernel
theorem dX16_setOf_3 : decode cX16_setOf 3 = .ok (.iconst 3, 1) := by decide +kernel
theorem dX16_setOf_4 : decode cX16_setOf 4 = .ok (.if_icmp .ge 23, 3) := by decide +kernel
theorem dX16_setOf_7 : decode cX16_setOf 7 = .ok (.aload_n 0, 1) := by decide +kernel
theorem dX16_setOf_8 : decode cX16_setOf 8 = .ok (.getfield 40, 3) := by decide +kernel
theorem dX16_setOf_11 : decode cX16_setOf 11 = .ok (.iload_n 2, 1) := by decide +kernel
theorem dX16_setOf_12 : decode cX16_setOf 12 = .ok (.aaload, 1) := by decide +kernel
theorem dX16_setOf_13 : decode cX16_setOf 13 = .ok (.iload_n 3, 1) := by decide +kernel
theorem dX16_setOf_14 : decode cX16_setOf 14 = .ok (.iaload, 1) := by decide +kernel
theorem dX16_setOf_15 : decode cX16_setOf 15 = .ok (.iload_n 1, 1) := by decide +kernel
theorem dX16_setOf_16 : decode cX16_setOf 16 = .ok (.if_icmp .ne 5, 3) := by decide +kernel
theorem dX16_setOf_19 : decode cX16_setOf 19 = .ok (.iload_n 3, 1) := by decide +kernel
theorem dX16_setOf_20 : decode cX16_setOf 20 = .ok (.ireturn, 1) := by decide +kernel
theorem dX16_setOf_21 : decode cX16_setOf 21 = .ok (.iinc 3 1, 3) := by decide +kernel
theorem dX16_setOf_24 : decode cX16_setOf 24 = .ok (.goto (-22), 3) := by decide +kernel
theorem dX16_setOf_27 : decode cX16_setOf 27 = .ok (.iconst (-1), 1) := by decide +kernel
theorem dX16_setOf_28 : decode cX16_setOf 28 = .ok (.ireturn, 1) := by decide +kernel
abbrev rm_m_X16_setOf : Room := { frames := 0, cells := 0, slots := 0, locals := 0 }
set_option maxHeartbeats 4000000 in
set_option maxRecDepth 100000 in
theorem m_X16_setOf {s0 : State} {l : Launch} {D : va_G} {cy : Nat → ClassId} (G : Gl s0 l D cy) (S : HS) (ea ns nj nm nt nr nq : Nat) (h : RI ea S ns nj nm nt nr nq) (mo : Int32) (a : Nat) (ha : a < 24) : Ctr s0 l D cy yX16_setOf cX16_setOf 4 (some .int) rm_m_X16_setOf S [.ref (gG S 16 0), .int mo, .int (nI a)] (PU S (some (.int (rSetOf S a mo)))) := by
  refine pro "CavershamShiftModel" G rfl rfl (Nat.le_of_ble_eq_true rfl) (fun p e s m below meth c ls X w hnm hl => ?_)
  have hx := X.1
  have hb := X.2.1
  have hown := X.2.2.2.1
  have hts := X.2.2.2.2.1
  have hl : lv_has ls 4 [(0, .ref (gG S 16 0)), (1, .int mo), (2, .int (nI a))] := hl
  refine lv_iconst (v := 0) hx hb dX16_setOf_0 (by decide) ?_
  refine lv_istore_n (lv' := [(3, .int 0), (0, .ref (gG S 16 0)), (1, .int mo), (2, .int (nI a))]) hx hb dX16_setOf_1 rfl hl (by decide) rfl (fun ls hl => ?_)
  have L2 : ∀ (N : Nat) (k : Nat) (H : Heap) (locs : List Loc) (ls : Array Slot), 3 - k < N → (k ≤ 3) → (∀ q, q < k → ¬ mA S 37 a q = mo) → Wd s0 D cy S s.heap H locs → lv_has ls 4 [(0, .ref (gG S 16 0)), (1, .int mo), (2, .int (nI a)), (3, .int (nI k))] → W p l e rm_m_X16_setOf s m ([.ref (gG S 16 0), .int mo, .int (nI a)] : List Value).toArray below meth c H locs 0 0 (MQ below (GQ s0 D cy (PU S (some (.int (rSetOf S a mo))))) ([.ref (gG S 16 0), .int mo, .int (nI a)] : List Value).toArray s rm_m_X16_setOf.cells rm_m_X16_setOf.slots (A0 s0)) (F0 m 2 ls []) := by
    intro N
    induction N with
    | zero => intros; omega
    | succ N ih2 =>
      intro k H locs ls hmu hk hno w hl
      refine lv_iload_n hx hb dX16_setOf_2 rfl (lv_at hl 3 rfl) ?_
      refine lv_iconst (v := 3) hx hb dX16_setOf_3 (by decide) ?_
      refine lv_icmp_ge (tgt := 27) hx hb dX16_setOf_4 (by decide) (fun hc4 => ?_) (fun hc4 => ?_)
      · have hge : 3 ≤ k := (nI_leI (a := 3) (by decide) (by omega)).mp hc4
        refine lv_iconst (v := (-1)) hx hb dX16_setOf_27 (by decide) ?_
        exact rI X w rfl dX16_setOf_28 (by decide) (by decide) (pu_i (by unfold rSetOf; rw [if_neg (hno 0 (by omega)), if_neg (hno 1 (by omega)), if_neg (hno 2 (by omega))]))
      · have hlt : k < 3 := Nat.lt_of_not_le (fun z => hc4 ((nI_leI (a := 3) (by decide) (by omega)).mpr z))
        refine lv_aload_n hx hb dX16_setOf_7 rfl (lv_at hl 0 rfl) ?_
        refine g_16_13 (S := S) (x := (some (gG S 38 1))) X w h.v wF_X16_40 (h.s1.2.2) dX16_setOf_8 ?_
        refine lv_iload_n hx hb dX16_setOf_11 rfl (lv_at hl 2 rfl) ?_
        refine aLdR (S := S) (t := 38) (v := (some (gG S 37 a))) X w h.s1.1 (by decide) rfl rfl (Or.inr ⟨_, rfl⟩) (by rw [h.s1.2.1]; exact nI_vp ha (by decide)) (by rw [cl_nI (n := 24) ha (by decide)]; exact (h.s2 a ha).1) dX16_setOf_12 ?_
        refine lv_iload_n hx hb dX16_setOf_13 rfl (lv_at hl 3 rfl) ?_
        refine aLdI (S := S) (t := 37) (v := mA S 37 a k) X w (h.s2 a ha).2.1 (by decide) rfl rfl (by rw [(h.s2 a ha).2.2]; exact nI_vp hlt (by decide)) (by rw [cl_nI (n := 3) hlt (by decide)]) dX16_setOf_14 ?_
        refine lv_iload_n hx hb dX16_setOf_15 rfl (lv_at hl 1 rfl) ?_
        refine lv_icmp_ne (tgt := 21) hx hb dX16_setOf_16 (by decide) (fun hne => ?_) (fun hne => ?_)
        · refine lv_iinc (v := nI (k + 1)) (lv' := [(3, .int (nI (k + 1))), (0, .ref (gG S 16 0)), (1, .int mo), (2, .int (nI a))]) hx hb dX16_setOf_21 hl (k := 3) rfl (nI_1 _) (by decide) rfl (fun ls hl => ?_)
          refine lv_goto (tgt := 2) hx hb dX16_setOf_24 (by decide) ?_
          exact ih2 (k + 1) _ _ _ (by omega) (by omega) (fun q hq => (Nat.lt_succ_iff_lt_or_eq.mp hq).elim (hno q) (fun z => by rw [z]; exact hne)) w (lv_sub hl [1, 2, 3, 0] rfl)
        · refine lv_iload_n hx hb dX16_setOf_19 rfl (lv_at hl 3 rfl) ?_
          exact rI X w rfl dX16_setOf_20 (by decide) (by decide) (pu_i (rSetOf_hit hlt hno hne))
  exact L2 _ 0 _ _ _ (Nat.lt_succ_self _) (by omega) (fun q hq => absurd hq (Nat.not_lt_zero q)) w (lv_sub hl [1, 2, 3, 0] rfl)

theorem dX16_recorder_0 : decode cX16_recorder 0 = .ok (.aload_n 1, 1) := by decide +kernel
theorem dX16_recorder_1 : decode cX16_recorder 1 = .ok (.getfield 112, 3) := by decide +kernel
theorem dX16_recorder_4 : decode cX16_recorder 4 = .ok (.bipush 24, 2) := by decide +kernel
theorem dX16_recorder_6 : decode cX16_recorder 6 = .ok (.irem, 1) := by decide +kernel
theorem dX16_recorder_7 : decode cX16_recorder 7 = .ok (.istore_n 2, 1) := by decide +kernel
theorem dX16_recorder_8 : decode cX16_recorder 8 = .ok (.iconst (-1), 1) := by decide +kernel
theorem dX16_recorder_9 : decode cX16_recorder 9 = .ok (.istore_n 3, 1) := by decide +kernel
theorem dX16_recorder_10 : decode cX16_recorder 10 = .ok (.iconst 0, 1) := by decide +kernel
theorem dX16_recorder_11 : decode cX16_recorder 11 = .ok (.istore 4, 2) := by decide +kernel
theorem dX16_recorder_13 : decode cX16_recorder 13 = .ok (.iload 4, 2) := by decide +kernel
theorem dX16_recorder_15 : decode cX16_recorder 15 = .ok (.iconst 3, 1) := by decide +kernel
theorem dX16_recorder_16 : decode cX16_recorder 16 = .ok (.if_icmp .ge 95, 3) := by decide +kernel
theorem dX16_recorder_19 : decode cX16_recorder 19 = .ok (.aload_n 0, 1) := by decide +kernel
theorem dX16_recorder_20 : decode cX16_recorder 20 = .ok (.getfield 37, 3) := by decide +kernel
theorem dX16_recorder_23 : decode cX16_recorder 23 = .ok (.iload_n 2, 1) := by decide +kernel
theorem dX16_recorder_24 : decode cX16_recorder 24 = .ok (.aaload, 1) := by decide +kernel
theorem dX16_recorder_25 : decode cX16_recorder 25 = .ok (.iload 4, 2) := by decide +kernel
theorem dX16_recorder_27 : decode cX16_recorder 27 = .ok (.iaload, 1) := by decide +kernel
theorem dX16_recorder_28 : decode cX16_recorder 28 = .ok (.aload_n 1, 1) := by decide +kernel
theorem dX16_recorder_29 : decode cX16_recorder 29 = .ok (.getfield 104, 3) := by decide +kernel
theorem dX16_recorder_32 : decode cX16_recorder 32 = .ok (.if_icmp .ne 73, 3) := by decide +kernel
theorem dX16_recorder_35 : decode cX16_recorder 35 = .ok (.aload_n 0, 1) := by decide +kernel
theorem dX16_recorder_36 : decode cX16_recorder 36 = .ok (.aload_n 0, 1) := by decide +kernel
theorem dX16_recorder_37 : decode cX16_recorder 37 = .ok (.getfield 40, 3) := by decide +kernel
theorem dX16_recorder_40 : decode cX16_recorder 40 = .ok (.iload_n 2, 1) := by decide +kernel
theorem dX16_recorder_41 : decode cX16_recorder 41 = .ok (.aaload, 1) := by decide +kernel
theorem dX16_recorder_42 : decode cX16_recorder 42 = .ok (.iload 4, 2) := by decide +kernel
theorem dX16_recorder_44 : decode cX16_recorder 44 = .ok (.iaload, 1) := by decide +kernel
theorem dX16_recorder_45 : decode cX16_recorder 45 = .ok (.aload_n 1, 1) := by decide +kernel
theorem dX16_recorder_46 : decode cX16_recorder 46 = .ok (.getfield 104, 3) := by decide +kernel
theorem dX16_recorder_49 : decode cX16_recorder 49 = .ok (.iload_n 2, 1) := by decide +kernel
theorem dX16_recorder_50 : decode cX16_recorder 50 = .ok (.invokevirtual 115, 3) := by decide +kernel
theorem dX16_recorder_53 : decode cX16_recorder 53 = .ok (.ifCond .ne 6, 3) := by decide +kernel
theorem dX16_recorder_56 : decode cX16_recorder 56 = .ok (.goto 49, 3) := by decide +kernel
theorem dX16_recorder_59 : decode cX16_recorder 59 = .ok (.iload_n 3, 1) := by decide +kernel
theorem dX16_recorder_60 : decode cX16_recorder 60 = .ok (.iconst (-1), 1) := by decide +kernel
theorem dX16_recorder_61 : decode cX16_recorder 61 = .ok (.if_icmp .eq 41, 3) := by decide +kernel
theorem dX16_recorder_64 : decode cX16_recorder 64 = .ok (.aload_n 0, 1) := by decide +kernel
theorem dX16_recorder_65 : decode cX16_recorder 65 = .ok (.aload_n 0, 1) := by decide +kernel
theorem dX16_recorder_66 : decode cX16_recorder 66 = .ok (.getfield 40, 3) := by decide +kernel
theorem dX16_recorder_69 : decode cX16_recorder 69 = .ok (.iload_n 2, 1) := by decide +kernel
theorem dX16_recorder_70 : decode cX16_recorder 70 = .ok (.aaload, 1) := by decide +kernel
theorem dX16_recorder_71 : decode cX16_recorder 71 = .ok (.iload 4, 2) := by decide +kernel
theorem dX16_recorder_73 : decode cX16_recorder 73 = .ok (.iaload, 1) := by decide +kernel
theorem dX16_recorder_74 : decode cX16_recorder 74 = .ok (.aload_n 1, 1) := by decide +kernel
theorem dX16_recorder_75 : decode cX16_recorder 75 = .ok (.getfield 104, 3) := by decide +kernel
theorem dX16_recorder_78 : decode cX16_recorder 78 = .ok (.iload_n 2, 1) := by decide +kernel
theorem dX16_recorder_79 : decode cX16_recorder 79 = .ok (.invokevirtual 115, 3) := by decide +kernel
theorem dX16_recorder_82 : decode cX16_recorder 82 = .ok (.aload_n 0, 1) := by decide +kernel
theorem dX16_recorder_83 : decode cX16_recorder 83 = .ok (.aload_n 0, 1) := by decide +kernel
theorem dX16_recorder_84 : decode cX16_recorder 84 = .ok (.getfield 40, 3) := by decide +kernel
theorem dX16_recorder_87 : decode cX16_recorder 87 = .ok (.iload_n 2, 1) := by decide +kernel
theorem dX16_recorder_88 : decode cX16_recorder 88 = .ok (.aaload, 1) := by decide +kernel
theorem dX16_recorder_89 : decode cX16_recorder 89 = .ok (.iload_n 3, 1) := by decide +kernel
theorem dX16_recorder_90 : decode cX16_recorder 90 = .ok (.iaload, 1) := by decide +kernel
theorem dX16_recorder_91 : decode cX16_recorder 91 = .ok (.aload_n 1, 1) := by decide +kernel
theorem dX16_recorder_92 : decode cX16_recorder 92 = .ok (.getfield 104, 3) := by decide +kernel
theorem dX16_recorder_95 : decode cX16_recorder 95 = .ok (.iload_n 2, 1) := by decide +kernel
theorem dX16_recorder_96 : decode cX16_recorder 96 = .ok (.invokevirtual 115, 3) := by decide +kernel
theorem dX16_recorder_99 : decode cX16_recorder 99 = .ok (.if_icmp .le 6, 3) := by decide +kernel
theorem dX16_recorder_102 : decode cX16_recorder 102 = .ok (.iload 4, 2) := by decide +kernel
theorem dX16_recorder_104 : decode cX16_recorder 104 = .ok (.istore_n 3, 1) := by decide +kernel
theorem dX16_recorder_105 : decode cX16_recorder 105 = .ok (.iinc 4 1, 3) := by decide +kernel
theorem dX16_recorder_108 : decode cX16_recorder 108 = .ok (.goto (-95), 3) := by decide +kernel
theorem dX16_recorder_111 : decode cX16_recorder 111 = .ok (.iload_n 3, 1) := by decide +kernel
theorem dX16_recorder_112 : decode cX16_recorder 112 = .ok (.ireturn, 1) := by decide +kernel
abbrev rm_m_X16_recorder : Room := { frames := 6, cells := 0, slots := 0, locals := 137 }
set_option maxHeartbeats 4000000 in
set_option maxRecDepth 100000 in
theorem m_X16_recorder {s0 : State} {l : Launch} {D : va_G} {cy : Nat → ClassId} (G : Gl s0 l D cy) (S : HS) (ea ns nj nm nt nr nq : Nat) (h : RI ea S ns nj nm nt nr nq) (j : Nat) (hj : j < nt) : Ctr s0 l D cy yX16_recorder cX16_recorder 5 (some .int) rm_m_X16_recorder S [.ref (gG S 16 0), .ref (gG S 15 j)] (PU S (some (.int (rRec S ns nj j (tH S j % 24) 3)))) := by
  refine pro "CavershamShiftModel" G rfl rfl (Nat.le_of_ble_eq_true rfl) (fun p e s m below meth c ls X w hnm hl => ?_)
  have hx := X.1
  have hb := X.2.1
  have hown := X.2.2.2.1
  have hts := X.2.2.2.2.1
  have hl : lv_has ls 5 [(0, .ref (gG S 16 0)), (1, .ref (gG S 15 j))] := hl
  refine lv_aload_n hx hb dX16_recorder_0 rfl (lv_at hl 1 rfl) ?_
  refine g_15_1 (S := S) (x := (nI (tH S j))) X w (h.e_ta j hj).2 wF_X16_112 ((h.tHx j hj).2) dX16_recorder_1 ?_
  refine lv_bipush (v := 24) hx hb dX16_recorder_4 (by decide) ?_
  refine lv_irem hx hb dX16_recorder_6 (by decide) ?_
  refine lv_topi (fun z1 ez1 => ?_)
  obtain rfl : z1 = nI (tH S j % 24) := ez1.trans (pk_rem (d := 24) (by have := (h.tHx j hj).1; omega) (by decide) (by decide))
  refine lv_istore_n (lv' := [(2, .int (nI (tH S j % 24))), (0, .ref (gG S 16 0)), (1, .ref (gG S 15 j))]) hx hb dX16_recorder_7 rfl hl (by decide) rfl (fun ls hl => ?_)
  refine lv_iconst (v := (-1)) hx hb dX16_recorder_8 (by decide) ?_
  refine lv_istore_n (lv' := [(3, .int (-1)), (2, .int (nI (tH S j % 24))), (0, .ref (gG S 16 0)), (1, .ref (gG S 15 j))]) hx hb dX16_recorder_9 rfl hl (by decide) rfl (fun ls hl => ?_)
  refine lv_iconst (v := 0) hx hb dX16_recorder_10 (by decide) ?_
  refine lv_istore (lv' := [(4, .int 0), (3, .int (-1)), (2, .int (nI (tH S j % 24))), (0, .ref (gG S 16 0)), (1, .ref (gG S 15 j))]) hx hb dX16_recorder_11 hl (by decide) rfl (fun ls hl => ?_)
  have L13 : ∀ (N : Nat) (k : Nat) (best : Int32) (H : Heap) (locs : List Loc) (ls : Array Slot), 3 - k < N → (k ≤ 3) → (best = rRec S ns nj j (tH S j % 24) k) → Wd s0 D cy S s.heap H locs → lv_has ls 5 [(0, .ref (gG S 16 0)), (1, .ref (gG S 15 j)), (2, .int (nI (tH S j % 24))), (3, .int best), (4, .int (nI k))] → W p l e rm_m_X16_recorder s m ([.ref (gG S 16 0), .ref (gG S 15 j)] : List Value).toArray below meth c H locs 0 0 (MQ below (GQ s0 D cy (PU S (some (.int (rRec S ns nj j (tH S j % 24) 3))))) ([.ref (gG S 16 0), .ref (gG S 15 j)] : List Value).toArray s rm_m_X16_recorder.cells rm_m_X16_recorder.slots (A0 s0)) (F0 m 13 ls []) := by
    intro N
    induction N with
    | zero => intros; omega
    | succ N ih13 =>
      intro k best H locs ls hmu hk hB w hl
      refine lv_iload hx hb dX16_recorder_13 (lv_at hl 4 rfl) ?_
      refine lv_iconst (v := 3) hx hb dX16_recorder_15 (by decide) ?_
      refine lv_icmp_ge (tgt := 111) hx hb dX16_recorder_16 (by decide) (fun hc4 => ?_) (fun hc4 => ?_)
      · have hge : 3 ≤ k := (nI_leI (a := 3) (by decide) (by omega)).mp hc4
        refine lv_iload_n hx hb dX16_recorder_111 rfl (lv_at hl 3 rfl) ?_
        exact rI X w rfl dX16_recorder_112 (by decide) (by decide) (pu_i (by rw [hB, show k = 3 by omega]))
      · have hlt : k < 3 := Nat.lt_of_not_le (fun z => hc4 ((nI_leI (a := 3) (by decide) (by omega)).mpr z))
        refine lv_aload_n hx hb dX16_recorder_19 rfl (lv_at hl 0 rfl) ?_
        refine g_16_12 (S := S) (x := (some (gG S 38 0))) X w h.v wF_X16_37 (h.h1.2.2) dX16_recorder_20 ?_
        refine lv_iload_n hx hb dX16_recorder_23 rfl (lv_at hl 2 rfl) ?_
        refine aLdR (S := S) (t := 38) (v := (some (gG S 36 (tH S j % 24)))) X w h.h1.1 (by decide) rfl rfl (Or.inr ⟨_, rfl⟩) (by rw [h.h1.2.1]; exact nI_vp (Nat.mod_lt _ (by decide)) (by decide)) (by rw [cl_nI (n := 24) (Nat.mod_lt _ (by decide)) (by decide)]; exact (h.h2 (tH S j % 24) (Nat.mod_lt _ (by decide))).1) dX16_recorder_24 ?_
        refine lv_iload hx hb dX16_recorder_25 (lv_at hl 4 rfl) ?_
        refine aLdI (S := S) (t := 36) (v := mA S 36 (tH S j % 24) k) X w (h.h2 (tH S j % 24) (Nat.mod_lt _ (by decide))).2.1 (by decide) rfl rfl (by rw [(h.h2 (tH S j % 24) (Nat.mod_lt _ (by decide))).2.2]; exact nI_vp hlt (by decide)) (by rw [cl_nI (n := 3) hlt (by decide)]) dX16_recorder_27 ?_
        refine lv_aload_n hx hb dX16_recorder_28 rfl (lv_at hl 1 rfl) ?_
        refine g_15_0 (S := S) (x := (nI (tS S j))) X w (h.e_ta j hj).2 wF_X16_104 ((h.tSx j hj).2) dX16_recorder_29 ?_
        refine lv_icmp_ne (tgt := 105) hx hb dX16_recorder_32 (by decide) (fun heq => ?_) (fun heq => ?_)
        · have hz : rSlotQ S ns nj j (tH S j % 24) k = 0 := if_neg heq
          have hst : best = rRec S ns nj j (tH S j % 24) (k + 1) := hB.trans (rRec_0 hz).symm
          refine lv_iinc (v := nI (k + 1)) (lv' := [(4, .int (nI (k + 1))), (0, .ref (gG S 16 0)), (1, .ref (gG S 15 j)), (2, .int (nI (tH S j % 24))), (3, .int best)]) hx hb dX16_recorder_105 hl (k := 4) rfl (nI_1 _) (by decide) rfl (fun ls hl => ?_)
          refine lv_goto (tgt := 13) hx hb dX16_recorder_108 (by decide) ?_
          exact ih13 (k + 1) best _ _ _ (by omega) (by omega) (hst) w (lv_sub hl [1, 2, 3, 4, 0] rfl)
        · have hsk := h.sit (a := (tH S j % 24)) (k := k) (g := tS S j) (Nat.mod_lt _ (by decide)) hlt heq (by have := (h.tSx j hj).1; have := h.b_st; omega)
          refine lv_aload_n hx hb dX16_recorder_35 rfl (lv_at hl 0 rfl) ?_
          refine lv_aload_n hx hb dX16_recorder_36 rfl (lv_at hl 0 rfl) ?_
          refine g_16_13 (S := S) (x := (some (gG S 38 1))) X w h.v wF_X16_40 (h.s1.2.2) dX16_recorder_37 ?_
          refine lv_iload_n hx hb dX16_recorder_40 rfl (lv_at hl 2 rfl) ?_
          refine aLdR (S := S) (t := 38) (v := (some (gG S 37 (tH S j % 24)))) X w h.s1.1 (by decide) rfl rfl (Or.inr ⟨_, rfl⟩) (by rw [h.s1.2.1]; exact nI_vp (Nat.mod_lt _ (by decide)) (by decide)) (by rw [cl_nI (n := 24) (Nat.mod_lt _ (by decide)) (by decide)]; exact (h.s2 (tH S j % 24) (Nat.mod_lt _ (by decide))).1) dX16_recorder_41 ?_
          refine lv_iload hx hb dX16_recorder_42 (lv_at hl 4 rfl) ?_
          refine aLdI (S := S) (t := 37) (v := nI (sitN S (tH S j % 24) k)) X w (h.s2 (tH S j % 24) (Nat.mod_lt _ (by decide))).2.1 (by decide) rfl rfl (by rw [(h.s2 (tH S j % 24) (Nat.mod_lt _ (by decide))).2.2]; exact nI_vp hlt (by decide)) (by rw [cl_nI (n := 3) hlt (by decide)]; exact hsk.2) dX16_recorder_44 ?_
          refine lv_aload_n hx hb dX16_recorder_45 rfl (lv_at hl 1 rfl) ?_
          refine g_15_0 (S := S) (x := (nI (tS S j))) X w (h.e_ta j hj).2 wF_X16_104 ((h.tSx j hj).2) dX16_recorder_46 ?_
          refine lv_iload_n hx hb dX16_recorder_49 rfl (lv_at hl 2 rfl) ?_
          refine cV (S := S) (nA := 3) (As := [.int (nI (sitN S (tH S j % 24) k)), .int (nI (tS S j)), .int (nI (tH S j % 24))]) (rest := []) X w hl h.v (m_X16_qualityNow G S ea ns nj nm nt nr nq h (sitN S (tH S j % 24) k) (tS S j) hsk.1 (h.tSx j hj).1 (nI (tH S j % 24))) wY_X16_qualityNow wM_X16_115 wIn_X16_qualityNow wSe_X16_X16_qualityNow wI_X16 (by decide) rfl (by decide +kernel) rfl rfl dX16_recorder_50 ⟨by decide, by decide⟩ (Nat.le_of_ble_eq_true rfl) (⟨Nat.le_of_ble_eq_true rfl, Nat.le_of_ble_eq_true rfl⟩) (fun v2 S1 H locs hp w => ?_)
          obtain ⟨rfl, rfl⟩ := hp
          refine lv_if_ne (tgt := 59) hx hb dX16_recorder_53 (by decide) (fun hq0 => ?_) (fun hq0 => ?_)
          · have hnz : ¬ rSlotQ S ns nj j (tH S j % 24) k = 0 := by unfold rSlotQ; rw [if_pos heq]; exact hq0
            refine lv_iload_n hx hb dX16_recorder_59 rfl (lv_at hl 3 rfl) ?_
            refine lv_iconst (v := (-1)) hx hb dX16_recorder_60 (by decide) ?_
            refine lv_icmp_eq (tgt := 102) hx hb dX16_recorder_61 (by decide) (fun hbm => ?_) (fun hbm => ?_)
            · have hst : nI k = rRec S ns nj j (tH S j % 24) (k + 1) := (rRec_t hnz (Or.inl (hB.symm.trans hbm))).symm
              refine lv_iload hx hb dX16_recorder_102 (lv_at hl 4 rfl) ?_
              refine lv_istore_n (lv' := [(3, .int (nI k)), (0, .ref (gG S 16 0)), (1, .ref (gG S 15 j)), (2, .int (nI (tH S j % 24))), (4, .int (nI k))]) hx hb dX16_recorder_104 rfl hl (by decide) rfl (fun ls hl => ?_)
              refine lv_iinc (v := nI (k + 1)) (lv' := [(4, .int (nI (k + 1))), (3, .int (nI k)), (0, .ref (gG S 16 0)), (1, .ref (gG S 15 j)), (2, .int (nI (tH S j % 24)))]) hx hb dX16_recorder_105 hl (k := 4) rfl (nI_1 _) (by decide) rfl (fun ls hl => ?_)
              refine lv_goto (tgt := 13) hx hb dX16_recorder_108 (by decide) ?_
              exact ih13 (k + 1) (nI k) _ _ _ (by omega) (by omega) (hst) w (lv_sub hl [2, 3, 4, 1, 0] rfl)
            · obtain ⟨b, hbk, hbe, hbn⟩ := (rRec_in (S := S) (ns := ns) (nj := nj) (j := j) (a := (tH S j % 24)) k).resolve_left (fun z => hbm (hB.trans z))
              have hb3 : b < 3 := Nat.lt_trans hbk hlt
              obtain rfl : best = nI b := hB.trans hbe
              have hsb := h.sit (a := (tH S j % 24)) (k := b) (g := tS S j) (Nat.mod_lt _ (by decide)) hb3 (rSlot_h hbn) (by have := (h.tSx j hj).1; have := h.b_st; omega)
              have e1 : rSlotQ S ns nj j (tH S j % 24) (rRec S ns nj j (tH S j % 24) k).toNatClampNeg = rQual S ns nj (sitN S (tH S j % 24) b) (tS S j) (nI (tH S j % 24)) := by rw [← hB, nI_clamp (by omega)]; exact if_pos (rSlot_h hbn)
              have e2 : rSlotQ S ns nj j (tH S j % 24) k = rQual S ns nj (sitN S (tH S j % 24) k) (tS S j) (nI (tH S j % 24)) := if_pos heq
              refine lv_aload_n hx hb dX16_recorder_64 rfl (lv_at hl 0 rfl) ?_
              refine lv_aload_n hx hb dX16_recorder_65 rfl (lv_at hl 0 rfl) ?_
              refine g_16_13 (S := S) (x := (some (gG S 38 1))) X w h.v wF_X16_40 (h.s1.2.2) dX16_recorder_66 ?_
              refine lv_iload_n hx hb dX16_recorder_69 rfl (lv_at hl 2 rfl) ?_
              refine aLdR (S := S) (t := 38) (v := (some (gG S 37 (tH S j % 24)))) X w h.s1.1 (by decide) rfl rfl (Or.inr ⟨_, rfl⟩) (by rw [h.s1.2.1]; exact nI_vp (Nat.mod_lt _ (by decide)) (by decide)) (by rw [cl_nI (n := 24) (Nat.mod_lt _ (by decide)) (by decide)]; exact (h.s2 (tH S j % 24) (Nat.mod_lt _ (by decide))).1) dX16_recorder_70 ?_
              refine lv_iload hx hb dX16_recorder_71 (lv_at hl 4 rfl) ?_
              refine aLdI (S := S) (t := 37) (v := nI (sitN S (tH S j % 24) k)) X w (h.s2 (tH S j % 24) (Nat.mod_lt _ (by decide))).2.1 (by decide) rfl rfl (by rw [(h.s2 (tH S j % 24) (Nat.mod_lt _ (by decide))).2.2]; exact nI_vp hlt (by decide)) (by rw [cl_nI (n := 3) hlt (by decide)]; exact hsk.2) dX16_recorder_73 ?_
              refine lv_aload_n hx hb dX16_recorder_74 rfl (lv_at hl 1 rfl) ?_
              refine g_15_0 (S := S) (x := (nI (tS S j))) X w (h.e_ta j hj).2 wF_X16_104 ((h.tSx j hj).2) dX16_recorder_75 ?_
              refine lv_iload_n hx hb dX16_recorder_78 rfl (lv_at hl 2 rfl) ?_
              refine cV (S := S) (nA := 3) (As := [.int (nI (sitN S (tH S j % 24) k)), .int (nI (tS S j)), .int (nI (tH S j % 24))]) (rest := []) X w hl h.v (m_X16_qualityNow G S ea ns nj nm nt nr nq h (sitN S (tH S j % 24) k) (tS S j) hsk.1 (h.tSx j hj).1 (nI (tH S j % 24))) wY_X16_qualityNow wM_X16_115 wIn_X16_qualityNow wSe_X16_X16_qualityNow wI_X16 (by decide) rfl (by decide +kernel) rfl rfl dX16_recorder_79 ⟨by decide, by decide⟩ (Nat.le_of_ble_eq_true rfl) (⟨Nat.le_of_ble_eq_true rfl, Nat.le_of_ble_eq_true rfl⟩) (fun v3 S1 H locs hp w => ?_)
              obtain ⟨rfl, rfl⟩ := hp
              refine lv_aload_n hx hb dX16_recorder_82 rfl (lv_at hl 0 rfl) ?_
              refine lv_aload_n hx hb dX16_recorder_83 rfl (lv_at hl 0 rfl) ?_
              refine g_16_13 (S := S) (x := (some (gG S 38 1))) X w h.v wF_X16_40 (h.s1.2.2) dX16_recorder_84 ?_
              refine lv_iload_n hx hb dX16_recorder_87 rfl (lv_at hl 2 rfl) ?_
              refine aLdR (S := S) (t := 38) (v := (some (gG S 37 (tH S j % 24)))) X w h.s1.1 (by decide) rfl rfl (Or.inr ⟨_, rfl⟩) (by rw [h.s1.2.1]; exact nI_vp (Nat.mod_lt _ (by decide)) (by decide)) (by rw [cl_nI (n := 24) (Nat.mod_lt _ (by decide)) (by decide)]; exact (h.s2 (tH S j % 24) (Nat.mod_lt _ (by decide))).1) dX16_recorder_88 ?_
              refine lv_iload_n hx hb dX16_recorder_89 rfl (lv_at hl 3 rfl) ?_
              refine aLdI (S := S) (t := 37) (v := nI (sitN S (tH S j % 24) b)) X w (h.s2 (tH S j % 24) (Nat.mod_lt _ (by decide))).2.1 (by decide) rfl rfl (by rw [(h.s2 (tH S j % 24) (Nat.mod_lt _ (by decide))).2.2]; exact nI_vp hb3 (by decide)) (by rw [cl_nI (n := 3) hb3 (by decide)]; exact hsb.2) dX16_recorder_90 ?_
              refine lv_aload_n hx hb dX16_recorder_91 rfl (lv_at hl 1 rfl) ?_
              refine g_15_0 (S := S) (x := (nI (tS S j))) X w (h.e_ta j hj).2 wF_X16_104 ((h.tSx j hj).2) dX16_recorder_92 ?_
              refine lv_iload_n hx hb dX16_recorder_95 rfl (lv_at hl 2 rfl) ?_
              refine cV (S := S) (nA := 3) (As := [.int (nI (sitN S (tH S j % 24) b)), .int (nI (tS S j)), .int (nI (tH S j % 24))]) (rest := [.int (rQual S ns nj (sitN S (tH S j % 24) k) (tS S j) (nI (tH S j % 24)))]) X w hl h.v (m_X16_qualityNow G S ea ns nj nm nt nr nq h (sitN S (tH S j % 24) b) (tS S j) hsb.1 (h.tSx j hj).1 (nI (tH S j % 24))) wY_X16_qualityNow wM_X16_115 wIn_X16_qualityNow wSe_X16_X16_qualityNow wI_X16 (by decide) rfl (by decide +kernel) rfl rfl dX16_recorder_96 ⟨by decide, by decide⟩ (Nat.le_of_ble_eq_true rfl) (⟨Nat.le_of_ble_eq_true rfl, Nat.le_of_ble_eq_true rfl⟩) (fun v4 S1 H locs hp w => ?_)
              obtain ⟨rfl, rfl⟩ := hp
              refine lv_icmp_le (tgt := 105) hx hb dX16_recorder_99 (by decide) (fun hle => ?_) (fun hle => ?_)
              · have hst : nI b = rRec S ns nj j (tH S j % 24) (k + 1) := hB.trans (rRec_f hnz (fun z => z.elim (fun y => hbm (hB.trans y)) (fun y => by rw [e1, e2] at y; exact absurd y (Int32.not_lt.mpr hle)))).symm
                refine lv_iinc (v := nI (k + 1)) (lv' := [(4, .int (nI (k + 1))), (0, .ref (gG S 16 0)), (1, .ref (gG S 15 j)), (2, .int (nI (tH S j % 24))), (3, .int (nI b))]) hx hb dX16_recorder_105 hl (k := 4) rfl (nI_1 _) (by decide) rfl (fun ls hl => ?_)
                refine lv_goto (tgt := 13) hx hb dX16_recorder_108 (by decide) ?_
                exact ih13 (k + 1) (nI b) _ _ _ (by omega) (by omega) (hst) w (lv_sub hl [1, 2, 3, 4, 0] rfl)
              · have hst : nI k = rRec S ns nj j (tH S j % 24) (k + 1) := (rRec_t hnz (Or.inr (by rw [e1, e2]; exact Int32.not_le.mp hle))).symm
                refine lv_iload hx hb dX16_recorder_102 (lv_at hl 4 rfl) ?_
                refine lv_istore_n (lv' := [(3, .int (nI k)), (0, .ref (gG S 16 0)), (1, .ref (gG S 15 j)), (2, .int (nI (tH S j % 24))), (4, .int (nI k))]) hx hb dX16_recorder_104 rfl hl (by decide) rfl (fun ls hl => ?_)
                refine lv_iinc (v := nI (k + 1)) (lv' := [(4, .int (nI (k + 1))), (3, .int (nI k)), (0, .ref (gG S 16 0)), (1, .ref (gG S 15 j)), (2, .int (nI (tH S j % 24)))]) hx hb dX16_recorder_105 hl (k := 4) rfl (nI_1 _) (by decide) rfl (fun ls hl => ?_)
                refine lv_goto (tgt := 13) hx hb dX16_recorder_108 (by decide) ?_
                exact ih13 (k + 1) (nI k) _ _ _ (by omega) (by omega) (hst) w (lv_sub hl [2, 3, 4, 1, 0] rfl)
          · have hz : rSlotQ S ns nj j (tH S j % 24) k = 0 := (if_pos heq).trans hq0
            have hst : best = rRec S ns nj j (tH S j % 24) (k + 1) := hB.trans (rRec_0 hz).symm
            refine lv_goto (tgt := 105) hx hb dX16_recorder_56 (by decide) ?_
            refine lv_iinc (v := nI (k + 1)) (lv' := [(4, .int (nI (k + 1))), (0, .ref (gG S 16 0)), (1, .ref (gG S 15 j)), (2, .int (nI (tH S j % 24))), (3, .int best)]) hx hb dX16_recorder_105 hl (k := 4) rfl (nI_1 _) (by decide) rfl (fun ls hl => ?_)
            refine lv_goto (tgt := 13) hx hb dX16_recorder_108 (by decide) ?_
            exact ih13 (k + 1) best _ _ _ (by omega) (by omega) (hst) w (lv_sub hl [1, 2, 3, 4, 0] rfl)
  exact L13 _ 0 (-1) _ _ _ (Nat.lt_succ_self _) (by omega) (rfl) w (lv_sub hl [3, 4, 2, 1, 0] rfl)

