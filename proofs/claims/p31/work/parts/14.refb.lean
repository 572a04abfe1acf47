def cBase (power far band at_ : Int32) : Int32 := if 4 ≤ far ∧ sNight at_ = decide (band < 50) then 10 * power - 6 * far + 25 else 10 * power - 6 * far
/-- less the jammers near it, one by one -/
def cJam (band : Int32) (jb jp : Nat → Int32) (b : Int32) : Nat → Int32
  | 0 => b
  | n + 1 => cJam band jb jp b n - (if sNear (jb n) band = true then 8 * jp n else 0)
/-- less the stations near it that are on the air, but itself -/
def cSta (i : Nat) (band : Int32) (on : Nat → Bool) (sb : Nat → Int32) (b : Int32) : Nat → Int32
  | 0 => b
  | n + 1 => cSta i band on sb b n - (if n ≠ i ∧ on n = true ∧ sNear (sb n) band = true then 10 else 0)
def rComes (S : HS) (ns nj i : Nat) (at_ : Int32) : Int32 := if sIn (mI S 228 i) at_ = false then 0 else cSta i (mI S 229 i) (fun k => sIn (mI S 228 k) at_) (fun k => mI S 229 k) (cJam (mI S 229 i) (fun k => mA S 33 k 0) (fun k => mA S 33 k 1) (cBase (mI S 224 i) (mI S 225 i) (mI S 229 i) at_) nj) ns
theorem near_f {a b : Int32} (h : 1 < (if 0 ≤ a - b then a - b else 0 - (a - b))) : sNear a b = false := by unfold sNear; exact decide_eq_false (fun z => absurd h (Int32.not_lt.mpr z))
theorem near_t {a b : Int32} (h : ¬ 1 < (if 0 ≤ a - b then a - b else 0 - (a - b))) : sNear a b = true := by unfold sNear; exact decide_eq_true (Int32.not_lt.mp h)

theorem dX16_comesNow_0 : decode cX16_comesNow 0 = .ok (.aload_n 0, 1) := by decide +kernel
theorem dX16_comesNow_1 : decode cX16_comesNow 1 = .ok (.iload_n 1, 1) := by decide +kernel
theorem dX16_comesNow_2 : decode cX16_comesNow 2 = .ok (.iload_n 2, 1) := by decide +kernel
theorem dX16_comesNow_3 : decode cX16_comesNow 3 = .ok (.invokevirtual 61, 3) := by decide +kernel
theorem dX16_comesNow_6 : decode cX16_comesNow 6 = .ok (.ifCond .ne 5, 3) := by decide +kernel
theorem dX16_comesNow_9 : decode cX16_comesNow 9 = .ok (.iconst 0, 1) := by decide +kernel
theorem dX16_comesNow_10 : decode cX16_comesNow 10 = .ok (.ireturn, 1) := by decide +kernel
theorem dX16_comesNow_11 : decode cX16_comesNow 11 = .ok (.aload_n 0, 1) := by decide +kernel
theorem dX16_comesNow_12 : decode cX16_comesNow 12 = .ok (.getfield 16, 3) := by decide +kernel
theorem dX16_comesNow_15 : decode cX16_comesNow 15 = .ok (.iload_n 1, 1) := by decide +kernel
theorem dX16_comesNow_16 : decode cX16_comesNow 16 = .ok (.invokeinterface 46 2, 5) := by decide +kernel
theorem dX16_comesNow_21 : decode cX16_comesNow 21 = .ok (.checkcast 52, 3) := by decide +kernel
theorem dX16_comesNow_24 : decode cX16_comesNow 24 = .ok (.astore_n 3, 1) := by decide +kernel
theorem dX16_comesNow_25 : decode cX16_comesNow 25 = .ok (.iload_n 2, 1) := by decide +kernel
theorem dX16_comesNow_26 : decode cX16_comesNow 26 = .ok (.bipush 18, 2) := by decide +kernel
theorem dX16_comesNow_28 : decode cX16_comesNow 28 = .ok (.if_icmp .ge 8, 3) := by decide +kernel
theorem dX16_comesNow_31 : decode cX16_comesNow 31 = .ok (.iload_n 2, 1) := by decide +kernel
theorem dX16_comesNow_32 : decode cX16_comesNow 32 = .ok (.iconst 5, 1) := by decide +kernel
theorem dX16_comesNow_33 : decode cX16_comesNow 33 = .ok (.if_icmp .gt 7, 3) := by decide +kernel
theorem dX16_comesNow_36 : decode cX16_comesNow 36 = .ok (.iconst 1, 1) := by decide +kernel
theorem dX16_comesNow_37 : decode cX16_comesNow 37 = .ok (.goto 4, 3) := by decide +kernel
theorem dX16_comesNow_40 : decode cX16_comesNow 40 = .ok (.iconst 0, 1) := by decide +kernel
theorem dX16_comesNow_41 : decode cX16_comesNow 41 = .ok (.istore 4, 2) := by decide +kernel
theorem dX16_comesNow_43 : decode cX16_comesNow 43 = .ok (.bipush 10, 2) := by decide +kernel
theorem dX16_comesNow_45 : decode cX16_comesNow 45 = .ok (.aload_n 3, 1) := by decide +kernel
theorem dX16_comesNow_46 : decode cX16_comesNow 46 = .ok (.getfield 64, 3) := by decide +kernel
theorem dX16_comesNow_49 : decode cX16_comesNow 49 = .ok (.imul, 1) := by decide +kernel
theorem dX16_comesNow_50 : decode cX16_comesNow 50 = .ok (.bipush 6, 2) := by decide +kernel
theorem dX16_comesNow_52 : decode cX16_comesNow 52 = .ok (.aload_n 3, 1) := by decide +kernel
theorem dX16_comesNow_53 : decode cX16_comesNow 53 = .ok (.getfield 67, 3) := by decide +kernel
theorem dX16_comesNow_56 : decode cX16_comesNow 56 = .ok (.imul, 1) := by decide +kernel
theorem dX16_comesNow_57 : decode cX16_comesNow 57 = .ok (.isub, 1) := by decide +kernel
theorem dX16_comesNow_58 : decode cX16_comesNow 58 = .ok (.istore 5, 2) := by decide +kernel
theorem dX16_comesNow_60 : decode cX16_comesNow 60 = .ok (.aload_n 3, 1) := by decide +kernel
theorem dX16_comesNow_61 : decode cX16_comesNow 61 = .ok (.getfield 67, 3) := by decide +kernel
theorem dX16_comesNow_64 : decode cX16_comesNow 64 = .ok (.iconst 4, 1) := by decide +kernel
theorem dX16_comesNow_65 : decode cX16_comesNow 65 = .ok (.if_icmp .lt 25, 3) := by decide +kernel
theorem dX16_comesNow_68 : decode cX16_comesNow 68 = .ok (.iload 4, 2) := by decide +kernel
theorem dX16_comesNow_70 : decode cX16_comesNow 70 = .ok (.aload_n 3, 1) := by decide +kernel
theorem dX16_comesNow_71 : decode cX16_comesNow 71 = .ok (.getfield 70, 3) := by decide +kernel
theorem dX16_comesNow_74 : decode cX16_comesNow 74 = .ok (.bipush 50, 2) := by decide +kernel
theorem dX16_comesNow_76 : decode cX16_comesNow 76 = .ok (.if_icmp .ge 7, 3) := by decide +kernel
theorem dX16_comesNow_79 : decode cX16_comesNow 79 = .ok (.iconst 1, 1) := by decide +kernel
theorem dX16_comesNow_80 : decode cX16_comesNow 80 = .ok (.goto 4, 3) := by decide +kernel
theorem dX16_comesNow_83 : decode cX16_comesNow 83 = .ok (.iconst 0, 1) := by decide +kernel
theorem dX16_comesNow_84 : decode cX16_comesNow 84 = .ok (.if_icmp .ne 6, 3) := by decide +kernel
theorem dX16_comesNow_87 : decode cX16_comesNow 87 = .ok (.iinc 5 25, 3) := by decide +kernel
theorem dX16_comesNow_90 : decode cX16_comesNow 90 = .ok (.iconst 0, 1) := by decide +kernel
theorem dX16_comesNow_91 : decode cX16_comesNow 91 = .ok (.istore 6, 2) := by decide +kernel
theorem dX16_comesNow_93 : decode cX16_comesNow 93 = .ok (.iload 6, 2) := by decide +kernel
theorem dX16_comesNow_95 : decode cX16_comesNow 95 = .ok (.aload_n 0, 1) := by decide +kernel
theorem dX16_comesNow_96 : decode cX16_comesNow 96 = .ok (.getfield 20, 3) := by decide +kernel
theorem dX16_comesNow_99 : decode cX16_comesNow 99 = .ok (.invokeinterface 73 1, 5) := by decide +kernel
theorem dX16_comesNow_104 : decode cX16_comesNow 104 = .ok (.if_icmp .ge 65, 3) := by decide +kernel
theorem dX16_comesNow_107 : decode cX16_comesNow 107 = .ok (.iload 5, 2) := by decide +kernel
theorem dX16_comesNow_109 : decode cX16_comesNow 109 = .ok (.aload_n 0, 1) := by decide +kernel
theorem dX16_comesNow_110 : decode cX16_comesNow 110 = .ok (.getfield 20, 3) := by decide +kernel
theorem dX16_comesNow_113 : decode cX16_comesNow 113 = .ok (.iload 6, 2) := by decide +kernel
theorem dX16_comesNow_115 : decode cX16_comesNow 115 = .ok (.invokeinterface 46 2, 5) := by decide +kernel
theorem dX16_comesNow_120 : decode cX16_comesNow 120 = .ok (.checkcast 77, 3) := by decide +kernel
theorem dX16_comesNow_123 : decode cX16_comesNow 123 = .ok (.iconst 0, 1) := by decide +kernel
theorem dX16_comesNow_124 : decode cX16_comesNow 124 = .ok (.iaload, 1) := by decide +kernel
theorem dX16_comesNow_125 : decode cX16_comesNow 125 = .ok (.aload_n 3, 1) := by decide +kernel
theorem dX16_comesNow_126 : decode cX16_comesNow 126 = .ok (.getfield 70, 3) := by decide +kernel
theorem dX16_comesNow_129 : decode cX16_comesNow 129 = .ok (.isub, 1) := by decide +kernel
theorem dX16_comesNow_130 : decode cX16_comesNow 130 = .ok (.invokestatic 79, 3) := by decide +kernel
theorem dX16_comesNow_133 : decode cX16_comesNow 133 = .ok (.iconst 1, 1) := by decide +kernel
theorem dX16_comesNow_134 : decode cX16_comesNow 134 = .ok (.if_icmp .gt 25, 3) := by decide +kernel
theorem dX16_comesNow_137 : decode cX16_comesNow 137 = .ok (.bipush 8, 2) := by decide +kernel
theorem dX16_comesNow_139 : decode cX16_comesNow 139 = .ok (.aload_n 0, 1) := by decide +kernel
theorem dX16_comesNow_140 : decode cX16_comesNow 140 = .ok (.getfield 20, 3) := by decide +kernel
theorem dX16_comesNow_143 : decode cX16_comesNow 143 = .ok (.iload 6, 2) := by decide +kernel
theorem dX16_comesNow_145 : decode cX16_comesNow 145 = .ok (.invokeinterface 46 2, 5) := by decide +kernel
theorem dX16_comesNow_150 : decode cX16_comesNow 150 = .ok (.checkcast 77, 3) := by decide +kernel
theorem dX16_comesNow_153 : decode cX16_comesNow 153 = .ok (.iconst 1, 1) := by decide +kernel
theorem dX16_comesNow_154 : decode cX16_comesNow 154 = .ok (.iaload, 1) := by decide +kernel
theorem dX16_comesNow_155 : decode cX16_comesNow 155 = .ok (.imul, 1) := by decide +kernel
theorem dX16_comesNow_156 : decode cX16_comesNow 156 = .ok (.goto 4, 3) := by decide +kernel
theorem dX16_comesNow_159 : decode cX16_comesNow 159 = .ok (.iconst 0, 1) := by decide +kernel
theorem dX16_comesNow_160 : decode cX16_comesNow 160 = .ok (.isub, 1) := by decide +kernel
theorem dX16_comesNow_161 : decode cX16_comesNow 161 = .ok (.istore 5, 2) := by decide +kernel
theorem dX16_comesNow_163 : decode cX16_comesNow 163 = .ok (.iinc 6 1, 3) := by decide +kernel
theorem dX16_comesNow_166 : decode cX16_comesNow 166 = .ok (.goto (-73), 3) := by decide +kernel
theorem dX16_comesNow_169 : decode cX16_comesNow 169 = .ok (.iconst 0, 1) := by decide +kernel
theorem dX16_comesNow_170 : decode cX16_comesNow 170 = .ok (.istore 6, 2) := by decide +kernel
theorem dX16_comesNow_172 : decode cX16_comesNow 172 = .ok (.iload 6, 2) := by decide +kernel
theorem dX16_comesNow_174 : decode cX16_comesNow 174 = .ok (.aload_n 0, 1) := by decide +kernel
theorem dX16_comesNow_175 : decode cX16_comesNow 175 = .ok (.getfield 16, 3) := by decide +kernel
theorem dX16_comesNow_178 : decode cX16_comesNow 178 = .ok (.invokeinterface 73 1, 5) := by decide +kernel
theorem dX16_comesNow_183 : decode cX16_comesNow 183 = .ok (.if_icmp .ge 65, 3) := by decide +kernel
theorem dX16_comesNow_186 : decode cX16_comesNow 186 = .ok (.iload 5, 2) := by decide +kernel
theorem dX16_comesNow_188 : decode cX16_comesNow 188 = .ok (.iload 6, 2) := by decide +kernel
theorem dX16_comesNow_190 : decode cX16_comesNow 190 = .ok (.iload_n 1, 1) := by decide +kernel
theorem dX16_comesNow_191 : decode cX16_comesNow 191 = .ok (.if_icmp .eq 47, 3) := by decide +kernel
theorem dX16_comesNow_194 : decode cX16_comesNow 194 = .ok (.aload_n 0, 1) := by decide +kernel
theorem dX16_comesNow_195 : decode cX16_comesNow 195 = .ok (.iload 6, 2) := by decide +kernel
theorem dX16_comesNow_197 : decode cX16_comesNow 197 = .ok (.iload_n 2, 1) := by decide +kernel
theorem dX16_comesNow_198 : decode cX16_comesNow 198 = .ok (.invokevirtual 61, 3) := by decide +kernel
theorem dX16_comesNow_201 : decode cX16_comesNow 201 = .ok (.ifCond .eq 37, 3) := by decide +kernel
theorem dX16_comesNow_204 : decode cX16_comesNow 204 = .ok (.aload_n 0, 1) := by decide +kernel
theorem dX16_comesNow_205 : decode cX16_comesNow 205 = .ok (.getfield 16, 3) := by decide +kernel
theorem dX16_comesNow_208 : decode cX16_comesNow 208 = .ok (.iload 6, 2) := by decide +kernel
theorem dX16_comesNow_210 : decode cX16_comesNow 210 = .ok (.invokeinterface 46 2, 5) := by decide +kernel
theorem dX16_comesNow_215 : decode cX16_comesNow 215 = .ok (.checkcast 52, 3) := by decide +kernel
theorem dX16_comesNow_218 : decode cX16_comesNow 218 = .ok (.getfield 70, 3) := by decide +kernel
theorem dX16_comesNow_221 : decode cX16_comesNow 221 = .ok (.aload_n 3, 1) := by decide +kernel
theorem dX16_comesNow_222 : decode cX16_comesNow 222 = .ok (.getfield 70, 3) := by decide +kernel
theorem dX16_comesNow_225 : decode cX16_comesNow 225 = .ok (.isub, 1) := by decide +kernel
theorem dX16_comesNow_226 : decode cX16_comesNow 226 = .ok (.invokestatic 79, 3) := by decide +kernel
theorem dX16_comesNow_229 : decode cX16_comesNow 229 = .ok (.iconst 1, 1) := by decide +kernel
theorem dX16_comesNow_230 : decode cX16_comesNow 230 = .ok (.if_icmp .gt 8, 3) := by decide +kernel
theorem dX16_comesNow_233 : decode cX16_comesNow 233 = .ok (.bipush 10, 2) := by decide +kernel
theorem dX16_comesNow_235 : decode cX16_comesNow 235 = .ok (.goto 4, 3) := by decide +kernel
theorem dX16_comesNow_238 : decode cX16_comesNow 238 = .ok (.iconst 0, 1) := by decide +kernel
theorem dX16_comesNow_239 : decode cX16_comesNow 239 = .ok (.isub, 1) := by decide +kernel
theorem dX16_comesNow_240 : decode cX16_comesNow 240 = .ok (.istore 5, 2) := by decide +kernel
theorem dX16_comesNow_242 : decode cX16_comesNow 242 = .ok (.iinc 6 1, 3) := by decide +kernel
theorem dX16_comesNow_245 : decode cX16_comesNow 245 = .ok (.goto (-73), 3) := by decide +kernel
theorem dX16_comesNow_248 : decode cX16_comesNow 248 = .ok (.iload 5, 2) := by decide +kernel
theorem dX16_comesNow_250 : decode cX16_comesNow 250 = .ok (.ireturn, 1) := by decide +kernel
abbrev rm_m_X16_comesNow : Room := { frames := 4, cells := 0, slots := 0, locals := 86 }
set_option maxHeartbeats 4000000 in
set_option maxRecDepth 100000 in
theorem m_X16_comesNow {s0 : State} {l : Launch} {D : va_G} {cy : Nat → ClassId} (G : Gl s0 l D cy) (S : HS) (ea ns nj nm nt nr nq : Nat) (h : RI ea S ns nj nm nt nr nq) (i : Nat) (hi : i < ns) (at_ : Int32) : Ctr s0 l D cy yX16_comesNow cX16_comesNow 7 (some .int) rm_m_X16_comesNow S [.ref (gG S 16 0), .int (nI i), .int at_] (PU S (some (.int (rComes S ns nj i at_)))) := by
  refine pro "CavershamShiftModel" G rfl rfl (Nat.le_of_ble_eq_true rfl) (fun p e s m below meth c ls X w hnm hl => ?_)
  have hx := X.1
  have hb := X.2.1
  have hown := X.2.2.2.1
  have hts := X.2.2.2.2.1
  have hl : lv_has ls 7 [(0, .ref (gG S 16 0)), (1, .int (nI i)), (2, .int at_)] := hl
  refine lv_aload_n hx hb dX16_comesNow_0 rfl (lv_at hl 0 rfl) ?_
  refine lv_iload_n hx hb dX16_comesNow_1 rfl (lv_at hl 1 rfl) ?_
  refine lv_iload_n hx hb dX16_comesNow_2 rfl (lv_at hl 2 rfl) ?_
  refine cV (S := S) (nA := 2) (As := [.int (nI i), .int at_]) (rest := []) X w hl h.v (m_X16_isOn G S ea ns nj nm nt nr nq h i hi at_) wY_X16_isOn wM_X16_61 wIn_X16_isOn wSe_X16_X16_isOn wI_X16 (by decide) rfl (by decide +kernel) rfl rfl dX16_comesNow_3 ⟨by decide, by decide⟩ (Nat.le_of_ble_eq_true rfl) (⟨Nat.le_of_ble_eq_true rfl, Nat.le_of_ble_eq_true rfl⟩) (fun v1 S1 H locs hp w => ?_)
  obtain ⟨rfl, rfl⟩ := hp
  refine lv_if_ne (tgt := 11) hx hb dX16_comesNow_6 (by decide) (fun h0 => ?_) (fun h0 => ?_)
  · refine lv_aload_n hx hb dX16_comesNow_11 rfl (lv_at hl 0 rfl) ?_
    refine g_16_6 (S := S) (x := (some (gG S 17 6))) X w h.v wF_X16_16 (h.f_st) dX16_comesNow_12 ?_
    refine lv_iload_n hx hb dX16_comesNow_15 rfl (lv_at hl 1 rfl) ?_
    refine cF (S := S) (t := 17) (nA := 1) (As := [.int (nI i)]) (rest := []) X w hl h.l_st.1 (m_get G S ea 6 i ns (some (gG S 14 i)) h.l_st hi (h.e_st i hi).1) wY_Jx4a65c_get_915e3 wM_X16_46 wIn_Jx4a65c_get_915e3 wSe_Jx4a65c_Jx4a65c_get_915e3_of_java_util_List_get__I_Ljava_lang_Object_ wI_Jx4a65c fw_get (by decide) rfl (by decide +kernel) rfl rfl dX16_comesNow_16 ⟨by decide, by decide⟩ (Nat.le_of_ble_eq_true rfl) (⟨Nat.le_of_ble_eq_true rfl, Nat.le_of_ble_eq_true rfl⟩) (fun v2 S1 H locs hp w => ?_)
    obtain ⟨rfl, rfl⟩ := hp
    refine ckC (S := S) (t := 14) X w (h.e_st i hi).2 (by decide) rfl wC_X16_52 dX16_comesNow_21 ?_
    refine lv_astore_n (lv' := [(3, .ref (gG S 14 i)), (0, .ref (gG S 16 0)), (1, .int (nI i)), (2, .int at_)]) hx hb dX16_comesNow_24 rfl hl (by decide) rfl (fun ls hl => ?_)
    refine lv_iload_n hx hb dX16_comesNow_25 rfl (lv_at hl 3 rfl) ?_
    refine lv_bipush (v := 18) hx hb dX16_comesNow_26 (by decide) ?_
    have J41 : ∀ (x : Int32) (H : Heap) (locs : List Loc) (ls : Array Slot), (x = b2i (sNight at_)) → Wd s0 D cy S s.heap H locs → lv_has ls 7 [(0, .ref (gG S 16 0)), (1, .int (nI i)), (2, .int at_), (3, .ref (gG S 14 i))] → W p l e rm_m_X16_comesNow s m ([.ref (gG S 16 0), .int (nI i), .int at_] : List Value).toArray below meth c H locs 0 0 (MQ below (GQ s0 D cy (PU S (some (.int (rComes S ns nj i at_))))) ([.ref (gG S 16 0), .int (nI i), .int at_] : List Value).toArray s rm_m_X16_comesNow.cells rm_m_X16_comesNow.slots (A0 s0)) (F0 m 41 ls [.int x]) := by
      intro x H locs ls hxx w hl
      refine lv_istore (lv' := [(4, .int x), (0, .ref (gG S 16 0)), (1, .int (nI i)), (2, .int at_), (3, .ref (gG S 14 i))]) hx hb dX16_comesNow_41 hl (by decide) rfl (fun ls hl => ?_)
      refine lv_bipush (v := 10) hx hb dX16_comesNow_43 (by decide) ?_
      refine lv_aload_n hx hb dX16_comesNow_45 rfl (lv_at hl 4 rfl) ?_
      refine g_14_0 (S := S) (x := (mI S 224 i)) X w (h.e_st i hi).2 wF_X16_64 (rfl) dX16_comesNow_46 ?_
      refine lv_imul hx hb dX16_comesNow_49 ?_
      refine lv_bipush (v := 6) hx hb dX16_comesNow_50 (by decide) ?_
      refine lv_aload_n hx hb dX16_comesNow_52 rfl (lv_at hl 4 rfl) ?_
      refine g_14_1 (S := S) (x := (mI S 225 i)) X w (h.e_st i hi).2 wF_X16_67 (rfl) dX16_comesNow_53 ?_
      refine lv_imul hx hb dX16_comesNow_56 ?_
      refine lv_isub hx hb dX16_comesNow_57 ?_
      refine lv_istore (lv' := [(5, .int ((10 * (mI S 224 i)) - (6 * (mI S 225 i)))), (4, .int x), (0, .ref (gG S 16 0)), (1, .int (nI i)), (2, .int at_), (3, .ref (gG S 14 i))]) hx hb dX16_comesNow_58 hl (by decide) rfl (fun ls hl => ?_)
      refine lv_aload_n hx hb dX16_comesNow_60 rfl (lv_at hl 5 rfl) ?_
      refine g_14_1 (S := S) (x := (mI S 225 i)) X w (h.e_st i hi).2 wF_X16_67 (rfl) dX16_comesNow_61 ?_
      refine lv_iconst (v := 4) hx hb dX16_comesNow_64 (by decide) ?_
      have J90 : ∀ (x : Int32) (H : Heap) (locs : List Loc) (ls : Array Slot), (x = cBase (mI S 224 i) (mI S 225 i) (mI S 229 i) at_) → Wd s0 D cy S s.heap H locs → lv_has ls 7 [(0, .ref (gG S 16 0)), (1, .int (nI i)), (2, .int at_), (3, .ref (gG S 14 i)), (5, .int x)] → W p l e rm_m_X16_comesNow s m ([.ref (gG S 16 0), .int (nI i), .int at_] : List Value).toArray below meth c H locs 0 0 (MQ below (GQ s0 D cy (PU S (some (.int (rComes S ns nj i at_))))) ([.ref (gG S 16 0), .int (nI i), .int at_] : List Value).toArray s rm_m_X16_comesNow.cells rm_m_X16_comesNow.slots (A0 s0)) (F0 m 90 ls []) := by
        intro x H locs ls hbb w hl
        refine lv_iconst (v := 0) hx hb dX16_comesNow_90 (by decide) ?_
        refine lv_istore (lv' := [(6, .int 0), (0, .ref (gG S 16 0)), (1, .int (nI i)), (2, .int at_), (3, .ref (gG S 14 i)), (5, .int x)]) hx hb dX16_comesNow_91 hl (by decide) rfl (fun ls hl => ?_)
        have L93 : ∀ (N : Nat) (k : Nat) (y : Int32) (H : Heap) (locs : List Loc) (ls : Array Slot), nj - k < N → (k ≤ nj) → (y = cJam (mI S 229 i) (fun k => mA S 33 k 0) (fun k => mA S 33 k 1) (cBase (mI S 224 i) (mI S 225 i) (mI S 229 i) at_) k) → Wd s0 D cy S s.heap H locs → lv_has ls 7 [(0, .ref (gG S 16 0)), (1, .int (nI i)), (2, .int at_), (3, .ref (gG S 14 i)), (5, .int y), (6, .int (nI k))] → W p l e rm_m_X16_comesNow s m ([.ref (gG S 16 0), .int (nI i), .int at_] : List Value).toArray below meth c H locs 0 0 (MQ below (GQ s0 D cy (PU S (some (.int (rComes S ns nj i at_))))) ([.ref (gG S 16 0), .int (nI i), .int at_] : List Value).toArray s rm_m_X16_comesNow.cells rm_m_X16_comesNow.slots (A0 s0)) (F0 m 93 ls []) := by
          intro N
          induction N with
          | zero => intros; omega
          | succ N ih93 =>
            intro k y H locs ls hmu hk hy w hl
            refine lv_iload hx hb dX16_comesNow_93 (lv_at hl 5 rfl) ?_
            refine lv_aload_n hx hb dX16_comesNow_95 rfl (lv_at hl 0 rfl) ?_
            refine g_16_7 (S := S) (x := (some (gG S 17 7))) X w h.v wF_X16_20 (h.f_jm) dX16_comesNow_96 ?_
            refine cF (S := S) (t := 17) (nA := 0) (As := []) (rest := [.int (nI k)]) X w hl h.l_jm.1 (m_size G S ea 7 nj h.l_jm) wY_Jx4a65c_size_8abf5 wM_X16_73 wIn_Jx4a65c_size_8abf5 wSe_Jx4a65c_Jx4a65c_size_8abf5_of_java_util_List_size___I wI_Jx4a65c fw_size (by decide) rfl (by decide +kernel) rfl rfl dX16_comesNow_99 ⟨by decide, by decide⟩ (Nat.le_of_ble_eq_true rfl) (⟨Nat.le_of_ble_eq_true rfl, Nat.le_of_ble_eq_true rfl⟩) (fun v3 S1 H locs hp w => ?_)
            obtain ⟨rfl, rfl⟩ := hp
            refine lv_icmp_ge (tgt := 169) hx hb dX16_comesNow_104 (by decide) (fun hc9 => ?_) (fun hc9 => ?_)
            · have hge : nj ≤ k := by
                have hb1 := h.b_jm
                exact (nI_leI (by omega) (by omega)).mp hc9
              refine lv_iconst (v := 0) hx hb dX16_comesNow_169 (by decide) ?_
              refine lv_istore (lv' := [(6, .int 0), (0, .ref (gG S 16 0)), (1, .int (nI i)), (2, .int at_), (3, .ref (gG S 14 i)), (5, .int y)]) hx hb dX16_comesNow_170 hl (by decide) rfl (fun ls hl => ?_)
              have L172 : ∀ (N : Nat) (k : Nat) (y : Int32) (H : Heap) (locs : List Loc) (ls : Array Slot), ns - k < N → (k ≤ ns) → (y = cSta i (mI S 229 i) (fun k => sIn (mI S 228 k) at_) (fun k => mI S 229 k) (cJam (mI S 229 i) (fun k => mA S 33 k 0) (fun k => mA S 33 k 1) (cBase (mI S 224 i) (mI S 225 i) (mI S 229 i) at_) nj) k) → Wd s0 D cy S s.heap H locs → lv_has ls 7 [(0, .ref (gG S 16 0)), (1, .int (nI i)), (2, .int at_), (3, .ref (gG S 14 i)), (5, .int y), (6, .int (nI k))] → W p l e rm_m_X16_comesNow s m ([.ref (gG S 16 0), .int (nI i), .int at_] : List Value).toArray below meth c H locs 0 0 (MQ below (GQ s0 D cy (PU S (some (.int (rComes S ns nj i at_))))) ([.ref (gG S 16 0), .int (nI i), .int at_] : List Value).toArray s rm_m_X16_comesNow.cells rm_m_X16_comesNow.slots (A0 s0)) (F0 m 172 ls []) := by
                intro N
                induction N with
                | zero => intros; omega
                | succ N ih172 =>
                  intro k y H locs ls hmu hk hy w hl
                  refine lv_iload hx hb dX16_comesNow_172 (lv_at hl 5 rfl) ?_
                  refine lv_aload_n hx hb dX16_comesNow_174 rfl (lv_at hl 0 rfl) ?_
                  refine g_16_6 (S := S) (x := (some (gG S 17 6))) X w h.v wF_X16_16 (h.f_st) dX16_comesNow_175 ?_
                  refine cF (S := S) (t := 17) (nA := 0) (As := []) (rest := [.int (nI k)]) X w hl h.l_st.1 (m_size G S ea 6 ns h.l_st) wY_Jx4a65c_size_8abf5 wM_X16_73 wIn_Jx4a65c_size_8abf5 wSe_Jx4a65c_Jx4a65c_size_8abf5_of_java_util_List_size___I wI_Jx4a65c fw_size (by decide) rfl (by decide +kernel) rfl rfl dX16_comesNow_178 ⟨by decide, by decide⟩ (Nat.le_of_ble_eq_true rfl) (⟨Nat.le_of_ble_eq_true rfl, Nat.le_of_ble_eq_true rfl⟩) (fun v4 S1 H locs hp w => ?_)
                  obtain ⟨rfl, rfl⟩ := hp
                  refine lv_icmp_ge (tgt := 248) hx hb dX16_comesNow_183 (by decide) (fun hc8 => ?_) (fun hc8 => ?_)
                  · have hge : ns ≤ k := by
                      have hb1 := h.b_st
                      exact (nI_leI (by omega) (by omega)).mp hc8
                    refine lv_iload hx hb dX16_comesNow_248 (lv_at hl 4 rfl) ?_
                    exact rI X w rfl dX16_comesNow_250 (by decide) (by decide) (pu_i (by unfold rComes; rw [if_neg (by rw [b2i_t h0]; decide), hy, show k = ns by omega]))
                  · have hlt : k < ns := by
                      have hb1 := h.b_st
                      exact Nat.lt_of_not_le (fun z => hc8 ((nI_leI (by omega) (by omega)).mpr z))
                    refine lv_iload hx hb dX16_comesNow_186 (lv_at hl 4 rfl) ?_
                    refine lv_iload hx hb dX16_comesNow_188 (lv_at hl 5 rfl) ?_
                    refine lv_iload_n hx hb dX16_comesNow_190 rfl (lv_at hl 1 rfl) ?_
                    refine lv_icmp_eq (tgt := 238) hx hb dX16_comesNow_191 (by decide) (fun hni0 => ?_) (fun hni0 => ?_)
                    · have hb1 := h.b_st
                      have hki : k = i := (nI_eq (by omega) (by omega)).mp hni0
                      have ez : (if k ≠ i ∧ sIn (mI S 228 k) at_ = true ∧ sNear (mI S 229 k) (mI S 229 i) = true then 10 else (0 : Int32)) = 0 := if_neg (fun z => z.1 hki)
                      refine lv_iconst (v := 0) hx hb dX16_comesNow_238 (by decide) ?_
                      refine lv_isub hx hb dX16_comesNow_239 ?_
                      refine lv_istore (lv' := [(5, .int (y - 0)), (0, .ref (gG S 16 0)), (1, .int (nI i)), (2, .int at_), (3, .ref (gG S 14 i)), (6, .int (nI k))]) hx hb dX16_comesNow_240 hl (by decide) rfl (fun ls hl => ?_)
                      refine lv_iinc (v := nI (k + 1)) (lv' := [(6, .int (nI (k + 1))), (5, .int (y - 0)), (0, .ref (gG S 16 0)), (1, .int (nI i)), (2, .int at_), (3, .ref (gG S 14 i))]) hx hb dX16_comesNow_242 hl (k := 5) rfl (nI_1 _) (by decide) rfl (fun ls hl => ?_)
                      refine lv_goto (tgt := 172) hx hb dX16_comesNow_245 (by decide) ?_
                      exact ih172 (k + 1) (y - 0) _ _ _ (by omega) (by omega) (by rw [hy]; show _ - _ = _ - _; rw [ez]) w (lv_sub hl [2, 3, 4, 5, 1, 0] rfl)
                    · have hni : ¬ k = i := fun z => hni0 (by rw [z])
                      refine lv_aload_n hx hb dX16_comesNow_194 rfl (lv_at hl 0 rfl) ?_
                      refine lv_iload hx hb dX16_comesNow_195 (lv_at hl 5 rfl) ?_
                      refine lv_iload_n hx hb dX16_comesNow_197 rfl (lv_at hl 2 rfl) ?_
                      refine cV (S := S) (nA := 2) (As := [.int (nI k), .int at_]) (rest := [.int y]) X w hl h.v (m_X16_isOn G S ea ns nj nm nt nr nq h k hlt at_) wY_X16_isOn wM_X16_61 wIn_X16_isOn wSe_X16_X16_isOn wI_X16 (by decide) rfl (by decide +kernel) rfl rfl dX16_comesNow_198 ⟨by decide, by decide⟩ (Nat.le_of_ble_eq_true rfl) (⟨Nat.le_of_ble_eq_true rfl, Nat.le_of_ble_eq_true rfl⟩) (fun v5 S1 H locs hp w => ?_)
                      obtain ⟨rfl, rfl⟩ := hp
                      refine lv_if_eq (tgt := 238) hx hb dX16_comesNow_201 (by decide) (fun hon => ?_) (fun hon => ?_)
                      · have ez : (if k ≠ i ∧ sIn (mI S 228 k) at_ = true ∧ sNear (mI S 229 k) (mI S 229 i) = true then 10 else (0 : Int32)) = 0 := if_neg (fun z => by rw [b2i_f hon] at z; exact absurd z.2.1 (by decide))
                        refine lv_iconst (v := 0) hx hb dX16_comesNow_238 (by decide) ?_
                        refine lv_isub hx hb dX16_comesNow_239 ?_
                        refine lv_istore (lv' := [(5, .int (y - 0)), (0, .ref (gG S 16 0)), (1, .int (nI i)), (2, .int at_), (3, .ref (gG S 14 i)), (6, .int (nI k))]) hx hb dX16_comesNow_240 hl (by decide) rfl (fun ls hl => ?_)
                        refine lv_iinc (v := nI (k + 1)) (lv' := [(6, .int (nI (k + 1))), (5, .int (y - 0)), (0, .ref (gG S 16 0)), (1, .int (nI i)), (2, .int at_), (3, .ref (gG S 14 i))]) hx hb dX16_comesNow_242 hl (k := 5) rfl (nI_1 _) (by decide) rfl (fun ls hl => ?_)
                        refine lv_goto (tgt := 172) hx hb dX16_comesNow_245 (by decide) ?_
                        exact ih172 (k + 1) (y - 0) _ _ _ (by omega) (by omega) (by rw [hy]; show _ - _ = _ - _; rw [ez]) w (lv_sub hl [2, 3, 4, 5, 1, 0] rfl)
                      · refine lv_aload_n hx hb dX16_comesNow_204 rfl (lv_at hl 0 rfl) ?_
                        refine g_16_6 (S := S) (x := (some (gG S 17 6))) X w h.v wF_X16_16 (h.f_st) dX16_comesNow_205 ?_
                        refine lv_iload hx hb dX16_comesNow_208 (lv_at hl 5 rfl) ?_
                        refine cF (S := S) (t := 17) (nA := 1) (As := [.int (nI k)]) (rest := [.int y]) X w hl h.l_st.1 (m_get G S ea 6 k ns (some (gG S 14 k)) h.l_st hlt (h.e_st k hlt).1) wY_Jx4a65c_get_915e3 wM_X16_46 wIn_Jx4a65c_get_915e3 wSe_Jx4a65c_Jx4a65c_get_915e3_of_java_util_List_get__I_Ljava_lang_Object_ wI_Jx4a65c fw_get (by decide) rfl (by decide +kernel) rfl rfl dX16_comesNow_210 ⟨by decide, by decide⟩ (Nat.le_of_ble_eq_true rfl) (⟨Nat.le_of_ble_eq_true rfl, Nat.le_of_ble_eq_true rfl⟩) (fun v6 S1 H locs hp w => ?_)
                        obtain ⟨rfl, rfl⟩ := hp
                        refine ckC (S := S) (t := 14) X w (h.e_st k hlt).2 (by decide) rfl wC_X16_52 dX16_comesNow_215 ?_
                        refine g_14_5 (S := S) (x := (mI S 229 k)) X w (h.e_st k hlt).2 wF_X16_70 (rfl) dX16_comesNow_218 ?_
                        refine lv_aload_n hx hb dX16_comesNow_221 rfl (lv_at hl 3 rfl) ?_
                        refine g_14_5 (S := S) (x := (mI S 229 i)) X w (h.e_st i hi).2 wF_X16_70 (rfl) dX16_comesNow_222 ?_
                        refine lv_isub hx hb dX16_comesNow_225 ?_
                        refine va_mabs hx hb (X.2.2.1.trans hl.1.symm) hown (hts _ wM_X16_79) (hts _ wSt_J9_abs_0f7a4) (hts _ wI_J9) (hts _ wY_J9_abs_0f7a4) (by decide) (Nat.le_of_ble_eq_true rfl) (Nat.le_of_ble_eq_true rfl) (Nat.le_of_ble_eq_true rfl) dX16_comesNow_226 ?_
                        refine lv_iconst (v := 1) hx hb dX16_comesNow_229 (by decide) ?_
                        refine lv_icmp_gt (tgt := 238) hx hb dX16_comesNow_230 (by decide) (fun hne => ?_) (fun hne => ?_)
                        · have ez : (if k ≠ i ∧ sIn (mI S 228 k) at_ = true ∧ sNear (mI S 229 k) (mI S 229 i) = true then 10 else (0 : Int32)) = 0 := if_neg (fun z => by rw [near_f hne] at z; exact absurd z.2.2 (by decide))
                          refine lv_iconst (v := 0) hx hb dX16_comesNow_238 (by decide) ?_
                          refine lv_isub hx hb dX16_comesNow_239 ?_
                          refine lv_istore (lv' := [(5, .int (y - 0)), (0, .ref (gG S 16 0)), (1, .int (nI i)), (2, .int at_), (3, .ref (gG S 14 i)), (6, .int (nI k))]) hx hb dX16_comesNow_240 hl (by decide) rfl (fun ls hl => ?_)
                          refine lv_iinc (v := nI (k + 1)) (lv' := [(6, .int (nI (k + 1))), (5, .int (y - 0)), (0, .ref (gG S 16 0)), (1, .int (nI i)), (2, .int at_), (3, .ref (gG S 14 i))]) hx hb dX16_comesNow_242 hl (k := 5) rfl (nI_1 _) (by decide) rfl (fun ls hl => ?_)
                          refine lv_goto (tgt := 172) hx hb dX16_comesNow_245 (by decide) ?_
                          exact ih172 (k + 1) (y - 0) _ _ _ (by omega) (by omega) (by rw [hy]; show _ - _ = _ - _; rw [ez]) w (lv_sub hl [2, 3, 4, 5, 1, 0] rfl)
                        · have ez : (if k ≠ i ∧ sIn (mI S 228 k) at_ = true ∧ sNear (mI S 229 k) (mI S 229 i) = true then 10 else (0 : Int32)) = 10 := if_pos ⟨hni, b2i_t hon, near_t hne⟩
                          refine lv_bipush (v := 10) hx hb dX16_comesNow_233 (by decide) ?_
                          refine lv_goto (tgt := 239) hx hb dX16_comesNow_235 (by decide) ?_
                          refine lv_isub hx hb dX16_comesNow_239 ?_
                          refine lv_istore (lv' := [(5, .int (y - 10)), (0, .ref (gG S 16 0)), (1, .int (nI i)), (2, .int at_), (3, .ref (gG S 14 i)), (6, .int (nI k))]) hx hb dX16_comesNow_240 hl (by decide) rfl (fun ls hl => ?_)
                          refine lv_iinc (v := nI (k + 1)) (lv' := [(6, .int (nI (k + 1))), (5, .int (y - 10)), (0, .ref (gG S 16 0)), (1, .int (nI i)), (2, .int at_), (3, .ref (gG S 14 i))]) hx hb dX16_comesNow_242 hl (k := 5) rfl (nI_1 _) (by decide) rfl (fun ls hl => ?_)
                          refine lv_goto (tgt := 172) hx hb dX16_comesNow_245 (by decide) ?_
                          exact ih172 (k + 1) (y - 10) _ _ _ (by omega) (by omega) (by rw [hy]; show _ - _ = _ - _; rw [ez]) w (lv_sub hl [2, 3, 4, 5, 1, 0] rfl)
              exact L172 _ 0 y _ _ _ (Nat.lt_succ_self _) (by omega) (by rw [hy, show k = nj by omega]; rfl) w (lv_sub hl [1, 2, 3, 4, 5, 0] rfl)
            · have hlt : k < nj := by
                have hb1 := h.b_jm
                exact Nat.lt_of_not_le (fun z => hc9 ((nI_leI (by omega) (by omega)).mpr z))
              refine lv_iload hx hb dX16_comesNow_107 (lv_at hl 4 rfl) ?_
              refine lv_aload_n hx hb dX16_comesNow_109 rfl (lv_at hl 0 rfl) ?_
              refine g_16_7 (S := S) (x := (some (gG S 17 7))) X w h.v wF_X16_20 (h.f_jm) dX16_comesNow_110 ?_
              refine lv_iload hx hb dX16_comesNow_113 (lv_at hl 5 rfl) ?_
              refine cF (S := S) (t := 17) (nA := 1) (As := [.int (nI k)]) (rest := [.int y]) X w hl h.l_jm.1 (m_get G S ea 7 k nj (some (gG S 33 k)) h.l_jm hlt (h.e_jm k hlt).1) wY_Jx4a65c_get_915e3 wM_X16_46 wIn_Jx4a65c_get_915e3 wSe_Jx4a65c_Jx4a65c_get_915e3_of_java_util_List_get__I_Ljava_lang_Object_ wI_Jx4a65c fw_get (by decide) rfl (by decide +kernel) rfl rfl dX16_comesNow_115 ⟨by decide, by decide⟩ (Nat.le_of_ble_eq_true rfl) (⟨Nat.le_of_ble_eq_true rfl, Nat.le_of_ble_eq_true rfl⟩) (fun v7 S1 H locs hp w => ?_)
              obtain ⟨rfl, rfl⟩ := hp
              refine ckI (S := S) (t := 33) X w (h.e_jm k hlt).2.1 (by decide) rfl rfl wC_X16_77 dX16_comesNow_120 ?_
              refine lv_iconst (v := 0) hx hb dX16_comesNow_123 (by decide) ?_
              refine aLdI (S := S) (t := 33) (v := mA S 33 k 0) X w (h.e_jm k hlt).2.1 (by decide) rfl rfl (by rw [(h.e_jm k hlt).2.2]; unfold vp_in; decide) (rfl) dX16_comesNow_124 ?_
              refine lv_aload_n hx hb dX16_comesNow_125 rfl (lv_at hl 3 rfl) ?_
              refine g_14_5 (S := S) (x := (mI S 229 i)) X w (h.e_st i hi).2 wF_X16_70 (rfl) dX16_comesNow_126 ?_
              refine lv_isub hx hb dX16_comesNow_129 ?_
              refine va_mabs hx hb (X.2.2.1.trans hl.1.symm) hown (hts _ wM_X16_79) (hts _ wSt_J9_abs_0f7a4) (hts _ wI_J9) (hts _ wY_J9_abs_0f7a4) (by decide) (Nat.le_of_ble_eq_true rfl) (Nat.le_of_ble_eq_true rfl) (Nat.le_of_ble_eq_true rfl) dX16_comesNow_130 ?_
              refine lv_iconst (v := 1) hx hb dX16_comesNow_133 (by decide) ?_
              refine lv_icmp_gt (tgt := 159) hx hb dX16_comesNow_134 (by decide) (fun hne => ?_) (fun hne => ?_)
              · have ez : (if sNear (mA S 33 k 0) (mI S 229 i) = true then 8 * mA S 33 k 1 else 0) = 0 := by rw [near_f hne]; rfl
                refine lv_iconst (v := 0) hx hb dX16_comesNow_159 (by decide) ?_
                refine lv_isub hx hb dX16_comesNow_160 ?_
                refine lv_istore (lv' := [(5, .int (y - 0)), (0, .ref (gG S 16 0)), (1, .int (nI i)), (2, .int at_), (3, .ref (gG S 14 i)), (6, .int (nI k))]) hx hb dX16_comesNow_161 hl (by decide) rfl (fun ls hl => ?_)
                refine lv_iinc (v := nI (k + 1)) (lv' := [(6, .int (nI (k + 1))), (5, .int (y - 0)), (0, .ref (gG S 16 0)), (1, .int (nI i)), (2, .int at_), (3, .ref (gG S 14 i))]) hx hb dX16_comesNow_163 hl (k := 5) rfl (nI_1 _) (by decide) rfl (fun ls hl => ?_)
                refine lv_goto (tgt := 93) hx hb dX16_comesNow_166 (by decide) ?_
                exact ih93 (k + 1) (y - 0) _ _ _ (by omega) (by omega) (by rw [hy]; show _ - _ = _ - _; rw [ez]) w (lv_sub hl [2, 3, 4, 5, 1, 0] rfl)
              · have ez : (if sNear (mA S 33 k 0) (mI S 229 i) = true then 8 * mA S 33 k 1 else 0) = 8 * mA S 33 k 1 := by rw [near_t hne]; rfl
                refine lv_bipush (v := 8) hx hb dX16_comesNow_137 (by decide) ?_
                refine lv_aload_n hx hb dX16_comesNow_139 rfl (lv_at hl 0 rfl) ?_
                refine g_16_7 (S := S) (x := (some (gG S 17 7))) X w h.v wF_X16_20 (h.f_jm) dX16_comesNow_140 ?_
                refine lv_iload hx hb dX16_comesNow_143 (lv_at hl 5 rfl) ?_
                refine cF (S := S) (t := 17) (nA := 1) (As := [.int (nI k)]) (rest := [.int 8, .int y]) X w hl h.l_jm.1 (m_get G S ea 7 k nj (some (gG S 33 k)) h.l_jm hlt (h.e_jm k hlt).1) wY_Jx4a65c_get_915e3 wM_X16_46 wIn_Jx4a65c_get_915e3 wSe_Jx4a65c_Jx4a65c_get_915e3_of_java_util_List_get__I_Ljava_lang_Object_ wI_Jx4a65c fw_get (by decide) rfl (by decide +kernel) rfl rfl dX16_comesNow_145 ⟨by decide, by decide⟩ (Nat.le_of_ble_eq_true rfl) (⟨Nat.le_of_ble_eq_true rfl, Nat.le_of_ble_eq_true rfl⟩) (fun v8 S1 H locs hp w => ?_)
                obtain ⟨rfl, rfl⟩ := hp
                refine ckI (S := S) (t := 33) X w (h.e_jm k hlt).2.1 (by decide) rfl rfl wC_X16_77 dX16_comesNow_150 ?_
                refine lv_iconst (v := 1) hx hb dX16_comesNow_153 (by decide) ?_
                refine aLdI (S := S) (t := 33) (v := mA S 33 k 1) X w (h.e_jm k hlt).2.1 (by decide) rfl rfl (by rw [(h.e_jm k hlt).2.2]; unfold vp_in; decide) (rfl) dX16_comesNow_154 ?_
                refine lv_imul hx hb dX16_comesNow_155 ?_
                refine lv_goto (tgt := 160) hx hb dX16_comesNow_156 (by decide) ?_
                refine lv_isub hx hb dX16_comesNow_160 ?_
                refine lv_istore (lv' := [(5, .int (y - (8 * (mA S 33 k 1)))), (0, .ref (gG S 16 0)), (1, .int (nI i)), (2, .int at_), (3, .ref (gG S 14 i)), (6, .int (nI k))]) hx hb dX16_comesNow_161 hl (by decide) rfl (fun ls hl => ?_)
                refine lv_iinc (v := nI (k + 1)) (lv' := [(6, .int (nI (k + 1))), (5, .int (y - (8 * (mA S 33 k 1)))), (0, .ref (gG S 16 0)), (1, .int (nI i)), (2, .int at_), (3, .ref (gG S 14 i))]) hx hb dX16_comesNow_163 hl (k := 5) rfl (nI_1 _) (by decide) rfl (fun ls hl => ?_)
                refine lv_goto (tgt := 93) hx hb dX16_comesNow_166 (by decide) ?_
                exact ih93 (k + 1) (y - (8 * (mA S 33 k 1))) _ _ _ (by omega) (by omega) (by rw [hy]; show _ - _ = _ - _; rw [ez]) w (lv_sub hl [2, 3, 4, 5, 1, 0] rfl)
        exact L93 _ 0 x _ _ _ (Nat.lt_succ_self _) (by omega) (hbb) w (lv_sub hl [1, 2, 3, 4, 5, 0] rfl)
      refine lv_icmp_lt (tgt := 90) hx hb dX16_comesNow_65 (by decide) (fun hc9 => ?_) (fun hc9 => ?_)
      · exact J90 ((10 * (mI S 224 i)) - (6 * (mI S 225 i))) _ _ _ (by simp_all [cBase, b2i, ← Int32.not_le]) w (lv_sub hl [2, 3, 4, 5, 0] rfl)
      · refine lv_iload hx hb dX16_comesNow_68 (lv_at hl 1 rfl) ?_
        refine lv_aload_n hx hb dX16_comesNow_70 rfl (lv_at hl 5 rfl) ?_
        refine g_14_5 (S := S) (x := (mI S 229 i)) X w (h.e_st i hi).2 wF_X16_70 (rfl) dX16_comesNow_71 ?_
        refine lv_bipush (v := 50) hx hb dX16_comesNow_74 (by decide) ?_
        refine lv_icmp_ge (tgt := 83) hx hb dX16_comesNow_76 (by decide) (fun hc10 => ?_) (fun hc10 => ?_)
        · refine lv_iconst (v := 0) hx hb dX16_comesNow_83 (by decide) ?_
          refine lv_icmp_ne (tgt := 90) hx hb dX16_comesNow_84 (by decide) (fun hc11 => ?_) (fun hc11 => ?_)
          · exact J90 ((10 * (mI S 224 i)) - (6 * (mI S 225 i))) _ _ _ (by simp_all [cBase, b2i, ← Int32.not_le]) w (lv_sub hl [2, 3, 4, 5, 0] rfl)
          · refine lv_iinc (v := (((10 * (mI S 224 i)) - (6 * (mI S 225 i))) + 25)) (lv' := [(5, .int (((10 * (mI S 224 i)) - (6 * (mI S 225 i))) + 25)), (4, .int x), (0, .ref (gG S 16 0)), (1, .int (nI i)), (2, .int at_), (3, .ref (gG S 14 i))]) hx hb dX16_comesNow_87 hl (k := 0) rfl (rfl) (by decide) rfl (fun ls hl => ?_)
            exact J90 (((10 * (mI S 224 i)) - (6 * (mI S 225 i))) + 25) _ _ _ (by simp_all [cBase, b2i, ← Int32.not_le]) w (lv_sub hl [2, 3, 4, 5, 0] rfl)
        · refine lv_iconst (v := 1) hx hb dX16_comesNow_79 (by decide) ?_
          refine lv_goto (tgt := 84) hx hb dX16_comesNow_80 (by decide) ?_
          refine lv_icmp_ne (tgt := 90) hx hb dX16_comesNow_84 (by decide) (fun hc12 => ?_) (fun hc12 => ?_)
          · exact J90 ((10 * (mI S 224 i)) - (6 * (mI S 225 i))) _ _ _ (by simp_all [cBase, b2i, ← Int32.not_le]) w (lv_sub hl [2, 3, 4, 5, 0] rfl)
          · refine lv_iinc (v := (((10 * (mI S 224 i)) - (6 * (mI S 225 i))) + 25)) (lv' := [(5, .int (((10 * (mI S 224 i)) - (6 * (mI S 225 i))) + 25)), (4, .int x), (0, .ref (gG S 16 0)), (1, .int (nI i)), (2, .int at_), (3, .ref (gG S 14 i))]) hx hb dX16_comesNow_87 hl (k := 0) rfl (rfl) (by decide) rfl (fun ls hl => ?_)
            exact J90 (((10 * (mI S 224 i)) - (6 * (mI S 225 i))) + 25) _ _ _ (by simp_all [cBase, b2i, ← Int32.not_le]) w (lv_sub hl [2, 3, 4, 5, 0] rfl)
    refine lv_icmp_ge (tgt := 36) hx hb dX16_comesNow_28 (by decide) (fun hc13 => ?_) (fun hc13 => ?_)
    · refine lv_iconst (v := 1) hx hb dX16_comesNow_36 (by decide) ?_
      refine lv_goto (tgt := 41) hx hb dX16_comesNow_37 (by decide) ?_
      exact J41 1 _ _ _ (by simp_all [sNight, b2i, ← Int32.not_le]) w (lv_sub hl [1, 2, 3, 0] rfl)
    · refine lv_iload_n hx hb dX16_comesNow_31 rfl (lv_at hl 3 rfl) ?_
      refine lv_iconst (v := 5) hx hb dX16_comesNow_32 (by decide) ?_
      refine lv_icmp_gt (tgt := 40) hx hb dX16_comesNow_33 (by decide) (fun hc14 => ?_) (fun hc14 => ?_)
      · refine lv_iconst (v := 0) hx hb dX16_comesNow_40 (by decide) ?_
        exact J41 0 _ _ _ (by simp_all [sNight, b2i, ← Int32.not_le]) w (lv_sub hl [1, 2, 3, 0] rfl)
      · refine lv_iconst (v := 1) hx hb dX16_comesNow_36 (by decide) ?_
        refine lv_goto (tgt := 41) hx hb dX16_comesNow_37 (by decide) ?_
        exact J41 1 _ _ _ (by simp_all [sNight, b2i, ← Int32.not_le]) w (lv_sub hl [1, 2, 3, 0] rfl)
  · refine lv_iconst (v := 0) hx hb dX16_comesNow_9 (by decide) ?_
    exact rI X w rfl dX16_comesNow_10 (by decide) (by decide) (pu_i (by unfold rComes; rw [if_pos (b2i_f h0)]))

