theorem addC_le (n : Nat) : addC n ≤ 1 := by unfold addC; split <;> omega
theorem addL_le (n : Nat) : addL n ≤ 49 := by unfold addL; split <;> (try split) <;> omega
theorem LsOk.of {ea : Nat} {S S' : HS} {k n : Nat} (h : LsOk ea S k n) (h1 : vV S 17 k → vV S' 17 k) (h2 : mI S' 274 k = mI S 274 k) (h3 : mR S' 273 k = mR S 273 k) (h4 : vV S 30 k → vV S' 30 k) (h5 : vV S 30 k → gG S' 30 k = gG S 30 k) (h6 : mN S' 30 k = mN S 30 k) : LsOk ea S' k n := by
  obtain ⟨a, b, c, d, e⟩ := h
  refine ⟨h1 a, h2.trans b, c, fun z => h3.trans (d z), fun z => ?_⟩
  obtain ⟨e1, e2, e3⟩ := e z
  exact ⟨h4 e1, (h3.trans e2).trans (congrArg some (h5 e1).symm), h6.trans e3⟩
/-- a new object is added to a list -/
theorem add_new {s0 : State} {l : Launch} {D : va_G} {cy : Nat → ClassId} (G : Gl s0 l D cy) (S T : HS) (k n t q : Nat) (h : LsOk (eaOf s0) S k n) (ht : t < 17) (hfr : ¬ vV S t n) (hV : vV T = vV (sNew S t n q)) (hG : gG T = gG (sNew S t n q)) (h274 : mI T 274 k = mI S 274 k) (h273 : mR T 273 k = mR S 273 k) (hB : mB T = mB S) (hN : mN T = mN S) (hn : n < 49) (hz : n = 0 → ¬ vV S 30 k) (h31 : ¬ vV S 31 k) (hel : ∀ j, j < n → ∀ y, mB S 30 k j = some y → EL s0 S y) :
    Ctr s0 l D cy yJx4a65c_add_9ea2d cJx4a65c_add_9ea2d 2 (some .boolean) rm_add1 T [.ref (gG T 17 k), .ref (gG T t n)] (AddP T k n (gG T t n)) := by
  have up : ∀ t' i', vV S t' i' → vV T t' i' ∧ gG T t' i' = gG S t' i' := fun t' i' hv => ⟨by rw [hV]; exact Or.inl hv, by rw [hG]; exact up2_n (fun z => hfr (by rw [← z.1, ← z.2]; exact hv))⟩
  refine (m_addn G T k n (gG T t n) (h.of (fun x => (up _ _ x).1) h274 h273 (fun x => (up _ _ x).1) (fun x => (up _ _ x).2) (by rw [hN])) hn (fun z => ?_) ?_ (fun j hj y hy => EL.same (hel j hj y (by rw [hB] at hy; exact hy)) (fun t' i' hv _ => up t' i' hv)) (Or.inl ⟨t, n, by rw [hV]; exact Or.inr ⟨rfl, rfl⟩, ht, rfl⟩)).weak (Nat.le_refl _) (Nat.le_refl _) (addC_le n) (addL_le n)
  · rw [hV]; exact fun x => x.elim (hz z) (fun e => by omega)
  · rw [hV]; exact fun x => x.elim h31 (fun e => by omega)

theorem CI.el_st {s0 : State} {ea : Nat} {S : HS} {ns nj nm nt nr nc : Nat} (h : CI ea S ns nj nm nt nr nc) : ∀ j, j < ns → ∀ y, mB S 30 0 j = some y → EL s0 S y := fun j hj y hy => by
  obtain ⟨e, v⟩ := h.e_st j hj
  rw [e] at hy
  cases hy
  exact Or.inl ⟨8, j, v, by decide, rfl⟩
theorem CI.el_jm {s0 : State} {ea : Nat} {S : HS} {ns nj nm nt nr nc : Nat} (h : CI ea S ns nj nm nt nr nc) : ∀ j, j < nj → ∀ y, mB S 30 1 j = some y → EL s0 S y := fun j hj y hy => by
  obtain ⟨e, v⟩ := h.e_jm j hj
  rw [e] at hy
  cases hy
  exact Or.inl ⟨1, j, v, by decide, rfl⟩
theorem CI.el_mo {s0 : State} {ea : Nat} {S : HS} {ns nj nm nt nr nc : Nat} (h : CI ea S ns nj nm nt nr nc) : ∀ j, j < nm → ∀ y, mB S 30 2 j = some y → EL s0 S y := fun j hj y hy => by
  obtain ⟨e, v⟩ := h.e_mo j hj
  rw [e] at hy
  cases hy
  exact Or.inl ⟨3, j, v, by decide, rfl⟩
theorem CI.el_ta {s0 : State} {ea : Nat} {S : HS} {ns nj nm nt nr nc : Nat} (h : CI ea S ns nj nm nt nr nc) : ∀ j, j < nt → ∀ y, mB S 30 3 j = some y → EL s0 S y := fun j hj y hy => by
  obtain ⟨e, v⟩ := h.e_ta j hj
  rw [e] at hy
  cases hy
  exact Or.inl ⟨9, j, v, by decide, rfl⟩
theorem CI.el_re {s0 : State} {ea : Nat} {S : HS} {ns nj nm nt nr nc : Nat} (h : CI ea S ns nj nm nt nr nc) : ∀ j, j < nr → ∀ y, mB S 30 4 j = some y → EL s0 S y := fun j hj y hy => by
  obtain ⟨e, v⟩ := h.e_re j hj
  rw [e] at hy
  cases hy
  exact Or.inl ⟨5, j, v, by decide, rfl⟩
def stK (ns : Nat) (a b d g e_ f : Int32) : Nat := if (sOut a 0 99 || (sOut b 1 9 || (sOut d 0 9 || (sOut g 0 5 || (sOut e_ 0 4 || sOut f 0 16777215))))) = true then 1 else if 8 ≤ ns then 2 else 0
def jmK (nj : Nat) (a b : Int32) : Nat := if (sOut a 0 99 || sOut b 0 9) = true then 1 else if 6 ≤ nj then 2 else 0
def moK (nm : Nat) (a : Int32) : Nat := if sOut a 0 99999 = true then 1 else if 5 ≤ nm then 2 else 0
def reK (nr : Nat) (a b : Int32) : Nat := if (sOut a 0 63 || sOut b 0 65535) = true then 1 else if 4 ≤ nr then 2 else 0

theorem dX10_station_0 : decode cX10_station 0 = .ok (.iload_n 1, 1) := by decide +kernel
theorem dX10_station_1 : decode cX10_station 1 = .ok (.iconst 0, 1) := by decide +kernel
theorem dX10_station_2 : decode cX10_station 2 = .ok (.bipush 99, 2) := by decide +kernel
theorem dX10_station_4 : decode cX10_station 4 = .ok (.invokestatic 48, 3) := by decide +kernel
theorem dX10_station_7 : decode cX10_station 7 = .ok (.ifCond .ne 23, 3) := by decide +kernel
theorem dX10_station_10 : decode cX10_station 10 = .ok (.iload_n 2, 1) := by decide +kernel
theorem dX10_station_11 : decode cX10_station 11 = .ok (.iconst 1, 1) := by decide +kernel
theorem dX10_station_12 : decode cX10_station 12 = .ok (.bipush 9, 2) := by decide +kernel
theorem dX10_station_14 : decode cX10_station 14 = .ok (.invokestatic 48, 3) := by decide +kernel
theorem dX10_station_17 : decode cX10_station 17 = .ok (.ifCond .ne 13, 3) := by decide +kernel
theorem dX10_station_20 : decode cX10_station 20 = .ok (.iload_n 3, 1) := by decide +kernel
theorem dX10_station_21 : decode cX10_station 21 = .ok (.iconst 0, 1) := by decide +kernel
theorem dX10_station_22 : decode cX10_station 22 = .ok (.bipush 9, 2) := by decide +kernel
theorem dX10_station_24 : decode cX10_station 24 = .ok (.invokestatic 48, 3) := by decide +kernel
theorem dX10_station_27 : decode cX10_station 27 = .ok (.ifCond .eq 13, 3) := by decide +kernel
theorem dX10_station_30 : decode cX10_station 30 = .ok (.new 52, 3) := by decide +kernel
theorem dX10_station_33 : decode cX10_station 33 = .ok (.dup, 1) := by decide +kernel
theorem dX10_station_34 : decode cX10_station 34 = .ok (.ldc 54, 2) := by decide +kernel
theorem dX10_station_36 : decode cX10_station 36 = .ok (.invokespecial 56, 3) := by decide +kernel
theorem dX10_station_39 : decode cX10_station 39 = .ok (.athrow, 1) := by decide +kernel
theorem dX10_station_40 : decode cX10_station 40 = .ok (.iload 4, 2) := by decide +kernel
theorem dX10_station_42 : decode cX10_station 42 = .ok (.iconst 0, 1) := by decide +kernel
theorem dX10_station_43 : decode cX10_station 43 = .ok (.iconst 5, 1) := by decide +kernel
theorem dX10_station_44 : decode cX10_station 44 = .ok (.invokestatic 48, 3) := by decide +kernel
theorem dX10_station_47 : decode cX10_station 47 = .ok (.ifCond .ne 24, 3) := by decide +kernel
theorem dX10_station_50 : decode cX10_station 50 = .ok (.iload 5, 2) := by decide +kernel
theorem dX10_station_52 : decode cX10_station 52 = .ok (.iconst 0, 1) := by decide +kernel
theorem dX10_station_53 : decode cX10_station 53 = .ok (.iconst 4, 1) := by decide +kernel
theorem dX10_station_54 : decode cX10_station 54 = .ok (.invokestatic 48, 3) := by decide +kernel
theorem dX10_station_57 : decode cX10_station 57 = .ok (.ifCond .ne 14, 3) := by decide +kernel
theorem dX10_station_60 : decode cX10_station 60 = .ok (.iload 6, 2) := by decide +kernel
theorem dX10_station_62 : decode cX10_station 62 = .ok (.iconst 0, 1) := by decide +kernel
theorem dX10_station_63 : decode cX10_station 63 = .ok (.ldc 59, 2) := by decide +kernel
theorem dX10_station_65 : decode cX10_station 65 = .ok (.invokestatic 48, 3) := by decide +kernel
theorem dX10_station_68 : decode cX10_station 68 = .ok (.ifCond .eq 13, 3) := by decide +kernel
theorem dX10_station_71 : decode cX10_station 71 = .ok (.new 52, 3) := by decide +kernel
theorem dX10_station_74 : decode cX10_station 74 = .ok (.dup, 1) := by decide +kernel
theorem dX10_station_75 : decode cX10_station 75 = .ok (.ldc 60, 2) := by decide +kernel
theorem dX10_station_77 : decode cX10_station 77 = .ok (.invokespecial 56, 3) := by decide +kernel
theorem dX10_station_80 : decode cX10_station 80 = .ok (.athrow, 1) := by decide +kernel
theorem dX10_station_81 : decode cX10_station 81 = .ok (.aload_n 0, 1) := by decide +kernel
theorem dX10_station_82 : decode cX10_station 82 = .ok (.getfield 12, 3) := by decide +kernel
theorem dX10_station_85 : decode cX10_station 85 = .ok (.getfield 62, 3) := by decide +kernel
theorem dX10_station_88 : decode cX10_station 88 = .ok (.invokevirtual 66, 3) := by decide +kernel
theorem dX10_station_91 : decode cX10_station 91 = .ok (.bipush 8, 2) := by decide +kernel
theorem dX10_station_93 : decode cX10_station 93 = .ok (.if_icmp .lt 13, 3) := by decide +kernel
theorem dX10_station_96 : decode cX10_station 96 = .ok (.new 72, 3) := by decide +kernel
theorem dX10_station_99 : decode cX10_station 99 = .ok (.dup, 1) := by decide +kernel
theorem dX10_station_100 : decode cX10_station 100 = .ok (.ldc 74, 2) := by decide +kernel
theorem dX10_station_102 : decode cX10_station 102 = .ok (.invokespecial 76, 3) := by decide +kernel
theorem dX10_station_105 : decode cX10_station 105 = .ok (.athrow, 1) := by decide +kernel
theorem dX10_station_106 : decode cX10_station 106 = .ok (.aload_n 0, 1) := by decide +kernel
theorem dX10_station_107 : decode cX10_station 107 = .ok (.getfield 12, 3) := by decide +kernel
theorem dX10_station_110 : decode cX10_station 110 = .ok (.getfield 62, 3) := by decide +kernel
theorem dX10_station_113 : decode cX10_station 113 = .ok (.invokevirtual 66, 3) := by decide +kernel
theorem dX10_station_116 : decode cX10_station 116 = .ok (.istore 7, 2) := by decide +kernel
theorem dX10_station_118 : decode cX10_station 118 = .ok (.aload_n 0, 1) := by decide +kernel
theorem dX10_station_119 : decode cX10_station 119 = .ok (.getfield 12, 3) := by decide +kernel
theorem dX10_station_122 : decode cX10_station 122 = .ok (.getfield 62, 3) := by decide +kernel
theorem dX10_station_125 : decode cX10_station 125 = .ok (.new 77, 3) := by decide +kernel
theorem dX10_station_128 : decode cX10_station 128 = .ok (.dup, 1) := by decide +kernel
theorem dX10_station_129 : decode cX10_station 129 = .ok (.iload 7, 2) := by decide +kernel
theorem dX10_station_131 : decode cX10_station 131 = .ok (.iload_n 1, 1) := by decide +kernel
theorem dX10_station_132 : decode cX10_station 132 = .ok (.iload_n 2, 1) := by decide +kernel
theorem dX10_station_133 : decode cX10_station 133 = .ok (.iload_n 3, 1) := by decide +kernel
theorem dX10_station_134 : decode cX10_station 134 = .ok (.iload 4, 2) := by decide +kernel
theorem dX10_station_136 : decode cX10_station 136 = .ok (.iload 5, 2) := by decide +kernel
theorem dX10_station_138 : decode cX10_station 138 = .ok (.iload 6, 2) := by decide +kernel
theorem dX10_station_140 : decode cX10_station 140 = .ok (.invokespecial 79, 3) := by decide +kernel
theorem dX10_station_143 : decode cX10_station 143 = .ok (.invokevirtual 82, 3) := by decide +kernel
theorem dX10_station_146 : decode cX10_station 146 = .ok (.pop, 1) := by decide +kernel
theorem dX10_station_147 : decode cX10_station 147 = .ok (.iload 7, 2) := by decide +kernel
theorem dX10_station_149 : decode cX10_station 149 = .ok (.ireturn, 1) := by decide +kernel
abbrev rm_m_X10_station : Room := { frames := 7, cells := 2, slots := 56, locals := 191 }
set_option maxHeartbeats 4000000 in
set_option maxRecDepth 100000 in
theorem m_X10_station {s0 : State} {l : Launch} {D : va_G} {cy : Nat → ClassId} (G : Gl s0 l D cy) (S : HS) (ea ns nj nm nt nr nc : Nat) (h : CI ea S ns nj nm nt nr nc) (hea : ea = eaOf s0) (a b d g e_ f : Int32) : CtX s0 l D cy yX10_station cX10_station 8 (some .int) rm_m_X10_station S [.ref (gG S 10 0), .int a, .int b, .int d, .int g, .int e_, .int f] (fun v S' => some (.int (nI ns)) = v ∧ stK ns a b d g e_ f = 0 ∧ ∃ q1 q2 m2 b2, S' = addS (sI (sI (sI (sI (sI (sI (sI (sNew S 8 ns q1) 128 ns (nI ns)) 129 ns a) 130 ns b) 131 ns d) 132 ns g) 133 ns e_) 134 ns f) 0 q2 (capOf (ns + 1)) m2 (nI (ns + 1)) b2 ∧ b2 ns = some (gG (sNew S 8 ns q1) 8 ns) ∧ ∀ j, j < ns → b2 j = mB S 30 0 j) (fun E S' => S = S' ∧ ((E = "java/lang/IllegalArgumentException" ∧ stK ns a b d g e_ f = 1) ∨ (E = "java/lang/IllegalStateException" ∧ stK ns a b d g e_ f = 2))) := by
  refine proX "CavershamShift" G rfl rfl (Nat.le_of_ble_eq_true rfl) (fun p e s m below meth c ls X w hno hl => ?_)
  have hx := X.1
  have hb := X.2.1
  have hown := X.2.2.2.1
  have hts := X.2.2.2.2.1
  have hl : lv_has ls 8 [(0, .ref (gG S 10 0)), (1, .int a), (2, .int b), (3, .int d), (4, .int g), (5, .int e_), (6, .int f)] := hl
  have hb9 := h.b_st
  refine lv_iload_n hx hb dX10_station_0 rfl (lv_at hl 1 rfl) ?_
  refine lv_iconst (v := 0) hx hb dX10_station_1 (by decide) ?_
  refine lv_bipush (v := 99) hx hb dX10_station_2 (by decide) ?_
  refine cS (S := S) (nA := 3) (As := [.int a, .int 0, .int 99]) (rest := []) X w hl (m_X10_isOutside G S a 0 99) wY_X10_isOutside wM_X10_48 wSt_X10_isOutside wI_X10 (by decide +kernel) rfl rfl dX10_station_4 ⟨by decide, by decide⟩ (Nat.le_of_ble_eq_true rfl) (⟨Nat.le_of_ble_eq_true rfl, Nat.le_of_ble_eq_true rfl⟩) (fun v1 S1 H locs hp w => ?_)
  obtain ⟨rfl, rfl⟩ := hp
  refine lv_if_ne (tgt := 30) hx hb dX10_station_7 (by decide) (fun hc2 => ?_) (fun hc2 => ?_)
  · exact rT (S := S) (names := ["java/lang/RuntimeException", "java/lang/Exception"]) X w hl hno (by decide) (by decide) wC_X10_52 wI_java_lang_IllegalArgumentException wS9_X10_54 at_IAE go_IAE ⟨by decide, by decide⟩ dX10_station_30 dX10_station_33 dX10_station_34 dX10_station_36 dX10_station_39 (by decide) (by decide) (Nat.le_of_ble_eq_true rfl) (Nat.le_of_ble_eq_true rfl) (Nat.le_of_ble_eq_true rfl) (Nat.le_of_ble_eq_true rfl) (⟨rfl, Or.inl ⟨rfl, by simp_all [stK, b2i]⟩⟩)
  · refine lv_iload_n hx hb dX10_station_10 rfl (lv_at hl 2 rfl) ?_
    refine lv_iconst (v := 1) hx hb dX10_station_11 (by decide) ?_
    refine lv_bipush (v := 9) hx hb dX10_station_12 (by decide) ?_
    refine cS (S := S) (nA := 3) (As := [.int b, .int 1, .int 9]) (rest := []) X w hl (m_X10_isOutside G S b 1 9) wY_X10_isOutside wM_X10_48 wSt_X10_isOutside wI_X10 (by decide +kernel) rfl rfl dX10_station_14 ⟨by decide, by decide⟩ (Nat.le_of_ble_eq_true rfl) (⟨Nat.le_of_ble_eq_true rfl, Nat.le_of_ble_eq_true rfl⟩) (fun v3 S1 H locs hp w => ?_)
    obtain ⟨rfl, rfl⟩ := hp
    refine lv_if_ne (tgt := 30) hx hb dX10_station_17 (by decide) (fun hc4 => ?_) (fun hc4 => ?_)
    · exact rT (S := S) (names := ["java/lang/RuntimeException", "java/lang/Exception"]) X w hl hno (by decide) (by decide) wC_X10_52 wI_java_lang_IllegalArgumentException wS9_X10_54 at_IAE go_IAE ⟨by decide, by decide⟩ dX10_station_30 dX10_station_33 dX10_station_34 dX10_station_36 dX10_station_39 (by decide) (by decide) (Nat.le_of_ble_eq_true rfl) (Nat.le_of_ble_eq_true rfl) (Nat.le_of_ble_eq_true rfl) (Nat.le_of_ble_eq_true rfl) (⟨rfl, Or.inl ⟨rfl, by simp_all [stK, b2i]⟩⟩)
    · refine lv_iload_n hx hb dX10_station_20 rfl (lv_at hl 3 rfl) ?_
      refine lv_iconst (v := 0) hx hb dX10_station_21 (by decide) ?_
      refine lv_bipush (v := 9) hx hb dX10_station_22 (by decide) ?_
      refine cS (S := S) (nA := 3) (As := [.int d, .int 0, .int 9]) (rest := []) X w hl (m_X10_isOutside G S d 0 9) wY_X10_isOutside wM_X10_48 wSt_X10_isOutside wI_X10 (by decide +kernel) rfl rfl dX10_station_24 ⟨by decide, by decide⟩ (Nat.le_of_ble_eq_true rfl) (⟨Nat.le_of_ble_eq_true rfl, Nat.le_of_ble_eq_true rfl⟩) (fun v5 S1 H locs hp w => ?_)
      obtain ⟨rfl, rfl⟩ := hp
      refine lv_if_eq (tgt := 40) hx hb dX10_station_27 (by decide) (fun hc6 => ?_) (fun hc6 => ?_)
      · refine lv_iload hx hb dX10_station_40 (lv_at hl 4 rfl) ?_
        refine lv_iconst (v := 0) hx hb dX10_station_42 (by decide) ?_
        refine lv_iconst (v := 5) hx hb dX10_station_43 (by decide) ?_
        refine cS (S := S) (nA := 3) (As := [.int g, .int 0, .int 5]) (rest := []) X w hl (m_X10_isOutside G S g 0 5) wY_X10_isOutside wM_X10_48 wSt_X10_isOutside wI_X10 (by decide +kernel) rfl rfl dX10_station_44 ⟨by decide, by decide⟩ (Nat.le_of_ble_eq_true rfl) (⟨Nat.le_of_ble_eq_true rfl, Nat.le_of_ble_eq_true rfl⟩) (fun v7 S1 H locs hp w => ?_)
        obtain ⟨rfl, rfl⟩ := hp
        refine lv_if_ne (tgt := 71) hx hb dX10_station_47 (by decide) (fun hc8 => ?_) (fun hc8 => ?_)
        · exact rT (S := S) (names := ["java/lang/RuntimeException", "java/lang/Exception"]) X w hl hno (by decide) (by decide) wC_X10_52 wI_java_lang_IllegalArgumentException wS9_X10_60 at_IAE go_IAE ⟨by decide, by decide⟩ dX10_station_71 dX10_station_74 dX10_station_75 dX10_station_77 dX10_station_80 (by decide) (by decide) (Nat.le_of_ble_eq_true rfl) (Nat.le_of_ble_eq_true rfl) (Nat.le_of_ble_eq_true rfl) (Nat.le_of_ble_eq_true rfl) (⟨rfl, Or.inl ⟨rfl, by simp_all [stK, b2i]⟩⟩)
        · refine lv_iload hx hb dX10_station_50 (lv_at hl 5 rfl) ?_
          refine lv_iconst (v := 0) hx hb dX10_station_52 (by decide) ?_
          refine lv_iconst (v := 4) hx hb dX10_station_53 (by decide) ?_
          refine cS (S := S) (nA := 3) (As := [.int e_, .int 0, .int 4]) (rest := []) X w hl (m_X10_isOutside G S e_ 0 4) wY_X10_isOutside wM_X10_48 wSt_X10_isOutside wI_X10 (by decide +kernel) rfl rfl dX10_station_54 ⟨by decide, by decide⟩ (Nat.le_of_ble_eq_true rfl) (⟨Nat.le_of_ble_eq_true rfl, Nat.le_of_ble_eq_true rfl⟩) (fun v9 S1 H locs hp w => ?_)
          obtain ⟨rfl, rfl⟩ := hp
          refine lv_if_ne (tgt := 71) hx hb dX10_station_57 (by decide) (fun hc10 => ?_) (fun hc10 => ?_)
          · exact rT (S := S) (names := ["java/lang/RuntimeException", "java/lang/Exception"]) X w hl hno (by decide) (by decide) wC_X10_52 wI_java_lang_IllegalArgumentException wS9_X10_60 at_IAE go_IAE ⟨by decide, by decide⟩ dX10_station_71 dX10_station_74 dX10_station_75 dX10_station_77 dX10_station_80 (by decide) (by decide) (Nat.le_of_ble_eq_true rfl) (Nat.le_of_ble_eq_true rfl) (Nat.le_of_ble_eq_true rfl) (Nat.le_of_ble_eq_true rfl) (⟨rfl, Or.inl ⟨rfl, by simp_all [stK, b2i]⟩⟩)
          · refine lv_iload hx hb dX10_station_60 (lv_at hl 6 rfl) ?_
            refine lv_iconst (v := 0) hx hb dX10_station_62 (by decide) ?_
            refine lv_ldc hx hb hown (hts _ wK_X10_59) dX10_station_63 ?_
            refine cS (S := S) (nA := 3) (As := [.int f, .int 0, .int 16777215]) (rest := []) X w hl (m_X10_isOutside G S f 0 16777215) wY_X10_isOutside wM_X10_48 wSt_X10_isOutside wI_X10 (by decide +kernel) rfl rfl dX10_station_65 ⟨by decide, by decide⟩ (Nat.le_of_ble_eq_true rfl) (⟨Nat.le_of_ble_eq_true rfl, Nat.le_of_ble_eq_true rfl⟩) (fun v11 S1 H locs hp w => ?_)
            obtain ⟨rfl, rfl⟩ := hp
            refine lv_if_eq (tgt := 81) hx hb dX10_station_68 (by decide) (fun hc12 => ?_) (fun hc12 => ?_)
            · refine lv_aload_n hx hb dX10_station_81 rfl (lv_at hl 0 rfl) ?_
              refine g_10_0 (S := S) (x := (some (gG S 0 0))) X w h.v10 wF_X10_12 (h.f160) dX10_station_82 ?_
              refine g_0_0 (S := S) (x := (some (gG S 17 0))) X w h.v0 wF_X10_62 (h.f0) dX10_station_85 ?_
              refine cV (S := S) (nA := 0) (As := []) (rest := []) X w hl h.l_st.1 (m_size G S ea 0 ns h.l_st) wY_Jx4a65c_size_8abf5 wM_X10_66 wIn_Jx4a65c_size_8abf5 wSe_Jx4a65c_Jx4a65c_size_8abf5 wI_Jx4a65c (by decide) rfl (by decide +kernel) rfl rfl dX10_station_88 ⟨by decide, by decide⟩ (Nat.le_of_ble_eq_true rfl) (⟨Nat.le_of_ble_eq_true rfl, Nat.le_of_ble_eq_true rfl⟩) (fun v13 S1 H locs hp w => ?_)
              obtain ⟨rfl, rfl⟩ := hp
              refine lv_bipush (v := 8) hx hb dX10_station_91 (by decide) ?_
              refine lv_icmp_lt (tgt := 106) hx hb dX10_station_93 (by decide) (fun hc_n => ?_) (fun hc_n => ?_)
              · have hn9 : ns < 8 := (nI_ltI (a := ns) (b := 8) (by omega) (by decide)).mp hc_n
                refine lv_aload_n hx hb dX10_station_106 rfl (lv_at hl 0 rfl) ?_
                refine g_10_0 (S := S) (x := (some (gG S 0 0))) X w h.v10 wF_X10_12 (h.f160) dX10_station_107 ?_
                refine g_0_0 (S := S) (x := (some (gG S 17 0))) X w h.v0 wF_X10_62 (h.f0) dX10_station_110 ?_
                refine cV (S := S) (nA := 0) (As := []) (rest := []) X w hl h.l_st.1 (m_size G S ea 0 ns h.l_st) wY_Jx4a65c_size_8abf5 wM_X10_66 wIn_Jx4a65c_size_8abf5 wSe_Jx4a65c_Jx4a65c_size_8abf5 wI_Jx4a65c (by decide) rfl (by decide +kernel) rfl rfl dX10_station_113 ⟨by decide, by decide⟩ (Nat.le_of_ble_eq_true rfl) (⟨Nat.le_of_ble_eq_true rfl, Nat.le_of_ble_eq_true rfl⟩) (fun v14 S1 H locs hp w => ?_)
                obtain ⟨rfl, rfl⟩ := hp
                refine lv_istore (lv' := [(7, .int (nI ns)), (0, .ref (gG S 10 0)), (1, .int a), (2, .int b), (3, .int d), (4, .int g), (5, .int e_), (6, .int f)]) hx hb dX10_station_116 hl (by decide) rfl (fun ls hl => ?_)
                refine lv_aload_n hx hb dX10_station_118 rfl (lv_at hl 1 rfl) ?_
                refine g_10_0 (S := S) (x := (some (gG S 0 0))) X w h.v10 wF_X10_12 (h.f160) dX10_station_119 ?_
                refine g_0_0 (S := S) (x := (some (gG S 17 0))) X w h.v0 wF_X10_62 (h.f0) dX10_station_122 ?_
                refine nwO (S := S) (t := 8) (n := 7) X w ns (h.z_st ns (Nat.le_refl _)) (Or.inl (by decide)) (by decide) rfl in_8 tyX8 tyX8_ok (by decide +kernel) wC_X10_77 wNew_X8 wI_X8 dX10_station_125 rfl (Nat.le_of_ble_eq_true rfl) (Nat.le_of_ble_eq_true rfl) (fun q1 S2 H hS2 w => ?_)
                subst hS2
                refine lv_dup hx hb dX10_station_128 rfl ?_
                refine lv_iload hx hb dX10_station_129 (lv_at hl 0 rfl) ?_
                refine lv_iload_n hx hb dX10_station_131 rfl (lv_at hl 2 rfl) ?_
                refine lv_iload_n hx hb dX10_station_132 rfl (lv_at hl 3 rfl) ?_
                refine lv_iload_n hx hb dX10_station_133 rfl (lv_at hl 4 rfl) ?_
                refine lv_iload hx hb dX10_station_134 (lv_at hl 5 rfl) ?_
                refine lv_iload hx hb dX10_station_136 (lv_at hl 6 rfl) ?_
                refine lv_iload hx hb dX10_station_138 (lv_at hl 7 rfl) ?_
                refine cI (S := (sNew S 8 ns q1)) (nA := 7) (As := [.int (nI ns), .int a, .int b, .int d, .int g, .int e_, .int f]) (rest := [.ref (gG (sNew S 8 ns q1) 8 ns), .ref (gG S 17 0)]) X w hl (m_X8_init G (sNew S 8 ns q1) ns (Or.inr ⟨rfl, rfl⟩) (nI ns) a b d g e_ f) wY_X8_init wM_X10_79 wIn_X8_init wI_X8 rfl (by decide +kernel) rfl rfl dX10_station_140 ⟨by decide, by decide⟩ (Nat.le_of_ble_eq_true rfl) (⟨Nat.le_of_ble_eq_true rfl, Nat.le_of_ble_eq_true rfl⟩) (fun v16 S1 H locs hp w => ?_)
                obtain ⟨rfl, rfl⟩ := hp
                refine cV (S := (sI (sI (sI (sI (sI (sI (sI (sNew S 8 ns q1) 128 ns (nI ns)) 129 ns a) 130 ns b) 131 ns d) 132 ns g) 133 ns e_) 134 ns f)) (nA := 1) (As := [.ref (gG (sNew S 8 ns q1) 8 ns)]) (rest := []) X w hl (Or.inl h.l_st.1) (add_new G S (sI (sI (sI (sI (sI (sI (sI (sNew S 8 ns q1) 128 ns (nI ns)) 129 ns a) 130 ns b) 131 ns d) 132 ns g) 133 ns e_) 134 ns f) 0 ns 8 q1 (hea ▸ h.l_st) (by decide) (h.z_st ns (Nat.le_refl _)) rfl rfl (by simp [mI, sI, sNew, up2]) (by simp [mR, sI, sR, sNew, up2]) rfl rfl (by omega) (h.z30.1) (h.z31 0) h.el_st) wY_Jx4a65c_add_9ea2d wM_X10_82 wIn_Jx4a65c_add_9ea2d wSe_Jx4a65c_Jx4a65c_add_9ea2d wI_Jx4a65c (by decide) rfl (by decide +kernel) rfl rfl dX10_station_143 ⟨by decide, by decide⟩ (Nat.le_of_ble_eq_true rfl) (⟨Nat.le_of_ble_eq_true rfl, Nat.le_of_ble_eq_true rfl⟩) (fun v17 S1 H locs hp w => ?_)
                obtain ⟨rfl, q2, m2, b2, rfl, hb0, hb1⟩ := hp
                refine lv_pop hx hb dX10_station_146 rfl ?_
                refine lv_iload hx hb dX10_station_147 (lv_at hl 0 rfl) ?_
                exact rXr (rI X w rfl dX10_station_149 (by decide) (by decide) (⟨rfl, by simp_all [stK, b2i], q1, _, _, _, rfl, hb0, hb1⟩))
              · have hn9 : 8 ≤ ns := Nat.le_of_not_lt (fun z => hc_n ((nI_ltI (a := ns) (b := 8) (by omega) (by decide)).mpr z))
                exact rT (S := S) (names := ["java/lang/RuntimeException", "java/lang/Exception"]) X w hl hno (by decide) (by decide) wC_X10_72 wI_java_lang_IllegalStateException wS9_X10_74 at_ISE go_ISE ⟨by decide, by decide⟩ dX10_station_96 dX10_station_99 dX10_station_100 dX10_station_102 dX10_station_105 (by decide) (by decide) (Nat.le_of_ble_eq_true rfl) (Nat.le_of_ble_eq_true rfl) (Nat.le_of_ble_eq_true rfl) (Nat.le_of_ble_eq_true rfl) (⟨rfl, Or.inr ⟨rfl, by simp_all [stK, b2i]⟩⟩)
            · exact rT (S := S) (names := ["java/lang/RuntimeException", "java/lang/Exception"]) X w hl hno (by decide) (by decide) wC_X10_52 wI_java_lang_IllegalArgumentException wS9_X10_60 at_IAE go_IAE ⟨by decide, by decide⟩ dX10_station_71 dX10_station_74 dX10_station_75 dX10_station_77 dX10_station_80 (by decide) (by decide) (Nat.le_of_ble_eq_true rfl) (Nat.le_of_ble_eq_true rfl) (Nat.le_of_ble_eq_true rfl) (Nat.le_of_ble_eq_true rfl) (⟨rfl, Or.inl ⟨rfl, by simp_all [stK, b2i]⟩⟩)
      · exact rT (S := S) (names := ["java/lang/RuntimeException", "java/lang/Exception"]) X w hl hno (by decide) (by decide) wC_X10_52 wI_java_lang_IllegalArgumentException wS9_X10_54 at_IAE go_IAE ⟨by decide, by decide⟩ dX10_station_30 dX10_station_33 dX10_station_34 dX10_station_36 dX10_station_39 (by decide) (by decide) (Nat.le_of_ble_eq_true rfl) (Nat.le_of_ble_eq_true rfl) (Nat.le_of_ble_eq_true rfl) (Nat.le_of_ble_eq_true rfl) (⟨rfl, Or.inl ⟨rfl, by simp_all [stK, b2i]⟩⟩)

theorem dX10_jammer_0 : decode cX10_jammer 0 = .ok (.iload_n 1, 1) := by decide +kernel
theorem dX10_jammer_1 : decode cX10_jammer 1 = .ok (.iconst 0, 1) := by decide +kernel
theorem dX10_jammer_2 : decode cX10_jammer 2 = .ok (.bipush 99, 2) := by decide +kernel
theorem dX10_jammer_4 : decode cX10_jammer 4 = .ok (.invokestatic 48, 3) := by decide +kernel
theorem dX10_jammer_7 : decode cX10_jammer 7 = .ok (.ifCond .ne 13, 3) := by decide +kernel
theorem dX10_jammer_10 : decode cX10_jammer 10 = .ok (.iload_n 2, 1) := by decide +kernel
theorem dX10_jammer_11 : decode cX10_jammer 11 = .ok (.iconst 0, 1) := by decide +kernel
theorem dX10_jammer_12 : decode cX10_jammer 12 = .ok (.bipush 9, 2) := by decide +kernel
theorem dX10_jammer_14 : decode cX10_jammer 14 = .ok (.invokestatic 48, 3) := by decide +kernel
theorem dX10_jammer_17 : decode cX10_jammer 17 = .ok (.ifCond .eq 13, 3) := by decide +kernel
theorem dX10_jammer_20 : decode cX10_jammer 20 = .ok (.new 52, 3) := by decide +kernel
theorem dX10_jammer_23 : decode cX10_jammer 23 = .ok (.dup, 1) := by decide +kernel
theorem dX10_jammer_24 : decode cX10_jammer 24 = .ok (.ldc 99, 2) := by decide +kernel
theorem dX10_jammer_26 : decode cX10_jammer 26 = .ok (.invokespecial 56, 3) := by decide +kernel
theorem dX10_jammer_29 : decode cX10_jammer 29 = .ok (.athrow, 1) := by decide +kernel
theorem dX10_jammer_30 : decode cX10_jammer 30 = .ok (.aload_n 0, 1) := by decide +kernel
theorem dX10_jammer_31 : decode cX10_jammer 31 = .ok (.getfield 12, 3) := by decide +kernel
theorem dX10_jammer_34 : decode cX10_jammer 34 = .ok (.getfield 101, 3) := by decide +kernel
theorem dX10_jammer_37 : decode cX10_jammer 37 = .ok (.invokevirtual 66, 3) := by decide +kernel
theorem dX10_jammer_40 : decode cX10_jammer 40 = .ok (.bipush 6, 2) := by decide +kernel
theorem dX10_jammer_42 : decode cX10_jammer 42 = .ok (.if_icmp .lt 13, 3) := by decide +kernel
theorem dX10_jammer_45 : decode cX10_jammer 45 = .ok (.new 72, 3) := by decide +kernel
theorem dX10_jammer_48 : decode cX10_jammer 48 = .ok (.dup, 1) := by decide +kernel
theorem dX10_jammer_49 : decode cX10_jammer 49 = .ok (.ldc 104, 2) := by decide +kernel
theorem dX10_jammer_51 : decode cX10_jammer 51 = .ok (.invokespecial 76, 3) := by decide +kernel
theorem dX10_jammer_54 : decode cX10_jammer 54 = .ok (.athrow, 1) := by decide +kernel
theorem dX10_jammer_55 : decode cX10_jammer 55 = .ok (.aload_n 0, 1) := by decide +kernel
theorem dX10_jammer_56 : decode cX10_jammer 56 = .ok (.getfield 12, 3) := by decide +kernel
theorem dX10_jammer_59 : decode cX10_jammer 59 = .ok (.getfield 101, 3) := by decide +kernel
theorem dX10_jammer_62 : decode cX10_jammer 62 = .ok (.invokevirtual 66, 3) := by decide +kernel
theorem dX10_jammer_65 : decode cX10_jammer 65 = .ok (.istore_n 3, 1) := by decide +kernel
theorem dX10_jammer_66 : decode cX10_jammer 66 = .ok (.aload_n 0, 1) := by decide +kernel
theorem dX10_jammer_67 : decode cX10_jammer 67 = .ok (.getfield 12, 3) := by decide +kernel
theorem dX10_jammer_70 : decode cX10_jammer 70 = .ok (.getfield 101, 3) := by decide +kernel
theorem dX10_jammer_73 : decode cX10_jammer 73 = .ok (.new 106, 3) := by decide +kernel
theorem dX10_jammer_76 : decode cX10_jammer 76 = .ok (.dup, 1) := by decide +kernel
theorem dX10_jammer_77 : decode cX10_jammer 77 = .ok (.iload_n 1, 1) := by decide +kernel
theorem dX10_jammer_78 : decode cX10_jammer 78 = .ok (.iload_n 2, 1) := by decide +kernel
theorem dX10_jammer_79 : decode cX10_jammer 79 = .ok (.invokespecial 108, 3) := by decide +kernel
theorem dX10_jammer_82 : decode cX10_jammer 82 = .ok (.invokevirtual 82, 3) := by decide +kernel
theorem dX10_jammer_85 : decode cX10_jammer 85 = .ok (.pop, 1) := by decide +kernel
theorem dX10_jammer_86 : decode cX10_jammer 86 = .ok (.iload_n 3, 1) := by decide +kernel
theorem dX10_jammer_87 : decode cX10_jammer 87 = .ok (.ireturn, 1) := by decide +kernel
abbrev rm_m_X10_jammer : Room := { frames := 7, cells := 2, slots := 51, locals := 191 }
set_option maxHeartbeats 4000000 in
set_option maxRecDepth 100000 in
theorem m_X10_jammer {s0 : State} {l : Launch} {D : va_G} {cy : Nat → ClassId} (G : Gl s0 l D cy) (S : HS) (ea ns nj nm nt nr nc : Nat) (h : CI ea S ns nj nm nt nr nc) (hea : ea = eaOf s0) (a b : Int32) : CtX s0 l D cy yX10_jammer cX10_jammer 4 (some .int) rm_m_X10_jammer S [.ref (gG S 10 0), .int a, .int b] (fun v S' => some (.int (nI nj)) = v ∧ jmK nj a b = 0 ∧ ∃ q1 q2 m2 b2, S' = addS (sI (sI (sNew S 1 nj q1) 16 nj a) 17 nj b) 1 q2 (capOf (nj + 1)) m2 (nI (nj + 1)) b2 ∧ b2 nj = some (gG (sNew S 1 nj q1) 1 nj) ∧ ∀ j, j < nj → b2 j = mB S 30 1 j) (fun E S' => S = S' ∧ ((E = "java/lang/IllegalArgumentException" ∧ jmK nj a b = 1) ∨ (E = "java/lang/IllegalStateException" ∧ jmK nj a b = 2))) := by
  refine proX "CavershamShift" G rfl rfl (Nat.le_of_ble_eq_true rfl) (fun p e s m below meth c ls X w hno hl => ?_)
  have hx := X.1
  have hb := X.2.1
  have hown := X.2.2.2.1
  have hts := X.2.2.2.2.1
  have hl : lv_has ls 4 [(0, .ref (gG S 10 0)), (1, .int a), (2, .int b)] := hl
  have hb9 := h.b_jm
  refine lv_iload_n hx hb dX10_jammer_0 rfl (lv_at hl 1 rfl) ?_
  refine lv_iconst (v := 0) hx hb dX10_jammer_1 (by decide) ?_
  refine lv_bipush (v := 99) hx hb dX10_jammer_2 (by decide) ?_
  refine cS (S := S) (nA := 3) (As := [.int a, .int 0, .int 99]) (rest := []) X w hl (m_X10_isOutside G S a 0 99) wY_X10_isOutside wM_X10_48 wSt_X10_isOutside wI_X10 (by decide +kernel) rfl rfl dX10_jammer_4 ⟨by decide, by decide⟩ (Nat.le_of_ble_eq_true rfl) (⟨Nat.le_of_ble_eq_true rfl, Nat.le_of_ble_eq_true rfl⟩) (fun v1 S1 H locs hp w => ?_)
  obtain ⟨rfl, rfl⟩ := hp
  refine lv_if_ne (tgt := 20) hx hb dX10_jammer_7 (by decide) (fun hc2 => ?_) (fun hc2 => ?_)
  · exact rT (S := S) (names := ["java/lang/RuntimeException", "java/lang/Exception"]) X w hl hno (by decide) (by decide) wC_X10_52 wI_java_lang_IllegalArgumentException wS9_X10_99 at_IAE go_IAE ⟨by decide, by decide⟩ dX10_jammer_20 dX10_jammer_23 dX10_jammer_24 dX10_jammer_26 dX10_jammer_29 (by decide) (by decide) (Nat.le_of_ble_eq_true rfl) (Nat.le_of_ble_eq_true rfl) (Nat.le_of_ble_eq_true rfl) (Nat.le_of_ble_eq_true rfl) (⟨rfl, Or.inl ⟨rfl, by simp_all [jmK, b2i]⟩⟩)
  · refine lv_iload_n hx hb dX10_jammer_10 rfl (lv_at hl 2 rfl) ?_
    refine lv_iconst (v := 0) hx hb dX10_jammer_11 (by decide) ?_
    refine lv_bipush (v := 9) hx hb dX10_jammer_12 (by decide) ?_
    refine cS (S := S) (nA := 3) (As := [.int b, .int 0, .int 9]) (rest := []) X w hl (m_X10_isOutside G S b 0 9) wY_X10_isOutside wM_X10_48 wSt_X10_isOutside wI_X10 (by decide +kernel) rfl rfl dX10_jammer_14 ⟨by decide, by decide⟩ (Nat.le_of_ble_eq_true rfl) (⟨Nat.le_of_ble_eq_true rfl, Nat.le_of_ble_eq_true rfl⟩) (fun v3 S1 H locs hp w => ?_)
    obtain ⟨rfl, rfl⟩ := hp
    refine lv_if_eq (tgt := 30) hx hb dX10_jammer_17 (by decide) (fun hc4 => ?_) (fun hc4 => ?_)
    · refine lv_aload_n hx hb dX10_jammer_30 rfl (lv_at hl 0 rfl) ?_
      refine g_10_0 (S := S) (x := (some (gG S 0 0))) X w h.v10 wF_X10_12 (h.f160) dX10_jammer_31 ?_
      refine g_0_1 (S := S) (x := (some (gG S 17 1))) X w h.v0 wF_X10_101 (h.f1) dX10_jammer_34 ?_
      refine cV (S := S) (nA := 0) (As := []) (rest := []) X w hl h.l_jm.1 (m_size G S ea 1 nj h.l_jm) wY_Jx4a65c_size_8abf5 wM_X10_66 wIn_Jx4a65c_size_8abf5 wSe_Jx4a65c_Jx4a65c_size_8abf5 wI_Jx4a65c (by decide) rfl (by decide +kernel) rfl rfl dX10_jammer_37 ⟨by decide, by decide⟩ (Nat.le_of_ble_eq_true rfl) (⟨Nat.le_of_ble_eq_true rfl, Nat.le_of_ble_eq_true rfl⟩) (fun v5 S1 H locs hp w => ?_)
      obtain ⟨rfl, rfl⟩ := hp
      refine lv_bipush (v := 6) hx hb dX10_jammer_40 (by decide) ?_
      refine lv_icmp_lt (tgt := 55) hx hb dX10_jammer_42 (by decide) (fun hc_n => ?_) (fun hc_n => ?_)
      · have hn9 : nj < 6 := (nI_ltI (a := nj) (b := 6) (by omega) (by decide)).mp hc_n
        refine lv_aload_n hx hb dX10_jammer_55 rfl (lv_at hl 0 rfl) ?_
        refine g_10_0 (S := S) (x := (some (gG S 0 0))) X w h.v10 wF_X10_12 (h.f160) dX10_jammer_56 ?_
        refine g_0_1 (S := S) (x := (some (gG S 17 1))) X w h.v0 wF_X10_101 (h.f1) dX10_jammer_59 ?_
        refine cV (S := S) (nA := 0) (As := []) (rest := []) X w hl h.l_jm.1 (m_size G S ea 1 nj h.l_jm) wY_Jx4a65c_size_8abf5 wM_X10_66 wIn_Jx4a65c_size_8abf5 wSe_Jx4a65c_Jx4a65c_size_8abf5 wI_Jx4a65c (by decide) rfl (by decide +kernel) rfl rfl dX10_jammer_62 ⟨by decide, by decide⟩ (Nat.le_of_ble_eq_true rfl) (⟨Nat.le_of_ble_eq_true rfl, Nat.le_of_ble_eq_true rfl⟩) (fun v6 S1 H locs hp w => ?_)
        obtain ⟨rfl, rfl⟩ := hp
        refine lv_istore_n (lv' := [(3, .int (nI nj)), (0, .ref (gG S 10 0)), (1, .int a), (2, .int b)]) hx hb dX10_jammer_65 rfl hl (by decide) rfl (fun ls hl => ?_)
        refine lv_aload_n hx hb dX10_jammer_66 rfl (lv_at hl 1 rfl) ?_
        refine g_10_0 (S := S) (x := (some (gG S 0 0))) X w h.v10 wF_X10_12 (h.f160) dX10_jammer_67 ?_
        refine g_0_1 (S := S) (x := (some (gG S 17 1))) X w h.v0 wF_X10_101 (h.f1) dX10_jammer_70 ?_
        refine nwO (S := S) (t := 1) (n := 2) X w nj (h.z_jm nj (Nat.le_refl _)) (Or.inl (by decide)) (by decide) rfl in_1 tyX1 tyX1_ok (by decide +kernel) wC_X10_106 wNew_X1 wI_X1 dX10_jammer_73 rfl (Nat.le_of_ble_eq_true rfl) (Nat.le_of_ble_eq_true rfl) (fun q1 S2 H hS2 w => ?_)
        subst hS2
        refine lv_dup hx hb dX10_jammer_76 rfl ?_
        refine lv_iload_n hx hb dX10_jammer_77 rfl (lv_at hl 2 rfl) ?_
        refine lv_iload_n hx hb dX10_jammer_78 rfl (lv_at hl 3 rfl) ?_
        refine cI (S := (sNew S 1 nj q1)) (nA := 2) (As := [.int a, .int b]) (rest := [.ref (gG (sNew S 1 nj q1) 1 nj), .ref (gG S 17 1)]) X w hl (m_X1_init G (sNew S 1 nj q1) nj (Or.inr ⟨rfl, rfl⟩) a b) wY_X1_init wM_X10_108 wIn_X1_init wI_X1 rfl (by decide +kernel) rfl rfl dX10_jammer_79 ⟨by decide, by decide⟩ (Nat.le_of_ble_eq_true rfl) (⟨Nat.le_of_ble_eq_true rfl, Nat.le_of_ble_eq_true rfl⟩) (fun v8 S1 H locs hp w => ?_)
        obtain ⟨rfl, rfl⟩ := hp
        refine cV (S := (sI (sI (sNew S 1 nj q1) 16 nj a) 17 nj b)) (nA := 1) (As := [.ref (gG (sNew S 1 nj q1) 1 nj)]) (rest := []) X w hl (Or.inl h.l_jm.1) (add_new G S (sI (sI (sNew S 1 nj q1) 16 nj a) 17 nj b) 1 nj 1 q1 (hea ▸ h.l_jm) (by decide) (h.z_jm nj (Nat.le_refl _)) rfl rfl (by simp [mI, sI, sNew, up2]) (by simp [mR, sI, sR, sNew, up2]) rfl rfl (by omega) (h.z30.2.1) (h.z31 1) h.el_jm) wY_Jx4a65c_add_9ea2d wM_X10_82 wIn_Jx4a65c_add_9ea2d wSe_Jx4a65c_Jx4a65c_add_9ea2d wI_Jx4a65c (by decide) rfl (by decide +kernel) rfl rfl dX10_jammer_82 ⟨by decide, by decide⟩ (Nat.le_of_ble_eq_true rfl) (⟨Nat.le_of_ble_eq_true rfl, Nat.le_of_ble_eq_true rfl⟩) (fun v9 S1 H locs hp w => ?_)
        obtain ⟨rfl, q2, m2, b2, rfl, hb0, hb1⟩ := hp
        refine lv_pop hx hb dX10_jammer_85 rfl ?_
        refine lv_iload_n hx hb dX10_jammer_86 rfl (lv_at hl 0 rfl) ?_
        exact rXr (rI X w rfl dX10_jammer_87 (by decide) (by decide) (⟨rfl, by simp_all [jmK, b2i], q1, _, _, _, rfl, hb0, hb1⟩))
      · have hn9 : 6 ≤ nj := Nat.le_of_not_lt (fun z => hc_n ((nI_ltI (a := nj) (b := 6) (by omega) (by decide)).mpr z))
        exact rT (S := S) (names := ["java/lang/RuntimeException", "java/lang/Exception"]) X w hl hno (by decide) (by decide) wC_X10_72 wI_java_lang_IllegalStateException wS9_X10_104 at_ISE go_ISE ⟨by decide, by decide⟩ dX10_jammer_45 dX10_jammer_48 dX10_jammer_49 dX10_jammer_51 dX10_jammer_54 (by decide) (by decide) (Nat.le_of_ble_eq_true rfl) (Nat.le_of_ble_eq_true rfl) (Nat.le_of_ble_eq_true rfl) (Nat.le_of_ble_eq_true rfl) (⟨rfl, Or.inr ⟨rfl, by simp_all [jmK, b2i]⟩⟩)
    · exact rT (S := S) (names := ["java/lang/RuntimeException", "java/lang/Exception"]) X w hl hno (by decide) (by decide) wC_X10_52 wI_java_lang_IllegalArgumentException wS9_X10_99 at_IAE go_IAE ⟨by decide, by decide⟩ dX10_jammer_20 dX10_jammer_23 dX10_jammer_24 dX10_jammer_26 dX10_jammer_29 (by decide) (by decide) (Nat.le_of_ble_eq_true rfl) (Nat.le_of_ble_eq_true rfl) (Nat.le_of_ble_eq_true rfl) (Nat.le_of_ble_eq_true rfl) (⟨rfl, Or.inl ⟨rfl, by simp_all [jmK, b2i]⟩⟩)

theorem dX10_monitor_0 : decode cX10_monitor 0 = .ok (.iload_n 1, 1) := by decide +kernel
theorem dX10_monitor_1 : decode cX10_monitor 1 = .ok (.iconst 0, 1) := by decide +kernel
theorem dX10_monitor_2 : decode cX10_monitor 2 = .ok (.ldc 121, 2) := by decide +kernel
theorem dX10_monitor_4 : decode cX10_monitor 4 = .ok (.invokestatic 48, 3) := by decide +kernel
theorem dX10_monitor_7 : decode cX10_monitor 7 = .ok (.ifCond .eq 13, 3) := by decide +kernel
theorem dX10_monitor_10 : decode cX10_monitor 10 = .ok (.new 52, 3) := by decide +kernel
theorem dX10_monitor_13 : decode cX10_monitor 13 = .ok (.dup, 1) := by decide +kernel
theorem dX10_monitor_14 : decode cX10_monitor 14 = .ok (.ldc 122, 2) := by decide +kernel
theorem dX10_monitor_16 : decode cX10_monitor 16 = .ok (.invokespecial 56, 3) := by decide +kernel
theorem dX10_monitor_19 : decode cX10_monitor 19 = .ok (.athrow, 1) := by decide +kernel
theorem dX10_monitor_20 : decode cX10_monitor 20 = .ok (.aload_n 0, 1) := by decide +kernel
theorem dX10_monitor_21 : decode cX10_monitor 21 = .ok (.getfield 21, 3) := by decide +kernel
theorem dX10_monitor_24 : decode cX10_monitor 24 = .ok (.getfield 124, 3) := by decide +kernel
theorem dX10_monitor_27 : decode cX10_monitor 27 = .ok (.invokevirtual 66, 3) := by decide +kernel
theorem dX10_monitor_30 : decode cX10_monitor 30 = .ok (.iconst 5, 1) := by decide +kernel
theorem dX10_monitor_31 : decode cX10_monitor 31 = .ok (.if_icmp .lt 13, 3) := by decide +kernel
theorem dX10_monitor_34 : decode cX10_monitor 34 = .ok (.new 72, 3) := by decide +kernel
theorem dX10_monitor_37 : decode cX10_monitor 37 = .ok (.dup, 1) := by decide +kernel
theorem dX10_monitor_38 : decode cX10_monitor 38 = .ok (.ldc 127, 2) := by decide +kernel
theorem dX10_monitor_40 : decode cX10_monitor 40 = .ok (.invokespecial 76, 3) := by decide +kernel
theorem dX10_monitor_43 : decode cX10_monitor 43 = .ok (.athrow, 1) := by decide +kernel
theorem dX10_monitor_44 : decode cX10_monitor 44 = .ok (.aload_n 0, 1) := by decide +kernel
theorem dX10_monitor_45 : decode cX10_monitor 45 = .ok (.getfield 21, 3) := by decide +kernel
theorem dX10_monitor_48 : decode cX10_monitor 48 = .ok (.getfield 124, 3) := by decide +kernel
theorem dX10_monitor_51 : decode cX10_monitor 51 = .ok (.invokevirtual 66, 3) := by decide +kernel
theorem dX10_monitor_54 : decode cX10_monitor 54 = .ok (.istore_n 2, 1) := by decide +kernel
theorem dX10_monitor_55 : decode cX10_monitor 55 = .ok (.aload_n 0, 1) := by decide +kernel
theorem dX10_monitor_56 : decode cX10_monitor 56 = .ok (.getfield 21, 3) := by decide +kernel
theorem dX10_monitor_59 : decode cX10_monitor 59 = .ok (.getfield 124, 3) := by decide +kernel
theorem dX10_monitor_62 : decode cX10_monitor 62 = .ok (.new 129, 3) := by decide +kernel
theorem dX10_monitor_65 : decode cX10_monitor 65 = .ok (.dup, 1) := by decide +kernel
theorem dX10_monitor_66 : decode cX10_monitor 66 = .ok (.iload_n 2, 1) := by decide +kernel
theorem dX10_monitor_67 : decode cX10_monitor 67 = .ok (.iload_n 1, 1) := by decide +kernel
theorem dX10_monitor_68 : decode cX10_monitor 68 = .ok (.invokespecial 131, 3) := by decide +kernel
theorem dX10_monitor_71 : decode cX10_monitor 71 = .ok (.invokevirtual 82, 3) := by decide +kernel
theorem dX10_monitor_74 : decode cX10_monitor 74 = .ok (.pop, 1) := by decide +kernel
theorem dX10_monitor_75 : decode cX10_monitor 75 = .ok (.iload_n 2, 1) := by decide +kernel
theorem dX10_monitor_76 : decode cX10_monitor 76 = .ok (.ireturn, 1) := by decide +kernel
abbrev rm_m_X10_monitor : Room := { frames := 7, cells := 2, slots := 53, locals := 191 }
set_option maxHeartbeats 4000000 in
set_option maxRecDepth 100000 in
theorem m_X10_monitor {s0 : State} {l : Launch} {D : va_G} {cy : Nat → ClassId} (G : Gl s0 l D cy) (S : HS) (ea ns nj nm nt nr nc : Nat) (h : CI ea S ns nj nm nt nr nc) (hea : ea = eaOf s0) (a : Int32) : CtX s0 l D cy yX10_monitor cX10_monitor 3 (some .int) rm_m_X10_monitor S [.ref (gG S 10 0), .int a] (fun v S' => some (.int (nI nm)) = v ∧ moK nm a = 0 ∧ ∃ q1 q2 m2 b2, S' = addS (sI (sI (sNew S 3 nm q1) 48 nm (nI nm)) 49 nm a) 2 q2 (capOf (nm + 1)) m2 (nI (nm + 1)) b2 ∧ b2 nm = some (gG (sNew S 3 nm q1) 3 nm) ∧ ∀ j, j < nm → b2 j = mB S 30 2 j) (fun E S' => S = S' ∧ ((E = "java/lang/IllegalArgumentException" ∧ moK nm a = 1) ∨ (E = "java/lang/IllegalStateException" ∧ moK nm a = 2))) := by
  refine proX "CavershamShift" G rfl rfl (Nat.le_of_ble_eq_true rfl) (fun p e s m below meth c ls X w hno hl => ?_)
  have hx := X.1
  have hb := X.2.1
  have hown := X.2.2.2.1
  have hts := X.2.2.2.2.1
  have hl : lv_has ls 3 [(0, .ref (gG S 10 0)), (1, .int a)] := hl
  have hb9 := h.b_mo
  refine lv_iload_n hx hb dX10_monitor_0 rfl (lv_at hl 1 rfl) ?_
  refine lv_iconst (v := 0) hx hb dX10_monitor_1 (by decide) ?_
  refine lv_ldc hx hb hown (hts _ wK_X10_121) dX10_monitor_2 ?_
  refine cS (S := S) (nA := 3) (As := [.int a, .int 0, .int 99999]) (rest := []) X w hl (m_X10_isOutside G S a 0 99999) wY_X10_isOutside wM_X10_48 wSt_X10_isOutside wI_X10 (by decide +kernel) rfl rfl dX10_monitor_4 ⟨by decide, by decide⟩ (Nat.le_of_ble_eq_true rfl) (⟨Nat.le_of_ble_eq_true rfl, Nat.le_of_ble_eq_true rfl⟩) (fun v1 S1 H locs hp w => ?_)
  obtain ⟨rfl, rfl⟩ := hp
  refine lv_if_eq (tgt := 20) hx hb dX10_monitor_7 (by decide) (fun hc2 => ?_) (fun hc2 => ?_)
  · refine lv_aload_n hx hb dX10_monitor_20 rfl (lv_at hl 0 rfl) ?_
    refine g_10_1 (S := S) (x := (some (gG S 7 0))) X w h.v10 wF_X10_21 (h.f161) dX10_monitor_21 ?_
    refine g_7_1 (S := S) (x := (some (gG S 17 2))) X w h.v7 wF_X10_124 (h.f113) dX10_monitor_24 ?_
    refine cV (S := S) (nA := 0) (As := []) (rest := []) X w hl h.l_mo.1 (m_size G S ea 2 nm h.l_mo) wY_Jx4a65c_size_8abf5 wM_X10_66 wIn_Jx4a65c_size_8abf5 wSe_Jx4a65c_Jx4a65c_size_8abf5 wI_Jx4a65c (by decide) rfl (by decide +kernel) rfl rfl dX10_monitor_27 ⟨by decide, by decide⟩ (Nat.le_of_ble_eq_true rfl) (⟨Nat.le_of_ble_eq_true rfl, Nat.le_of_ble_eq_true rfl⟩) (fun v3 S1 H locs hp w => ?_)
    obtain ⟨rfl, rfl⟩ := hp
    refine lv_iconst (v := 5) hx hb dX10_monitor_30 (by decide) ?_
    refine lv_icmp_lt (tgt := 44) hx hb dX10_monitor_31 (by decide) (fun hc_n => ?_) (fun hc_n => ?_)
    · have hn9 : nm < 5 := (nI_ltI (a := nm) (b := 5) (by omega) (by decide)).mp hc_n
      refine lv_aload_n hx hb dX10_monitor_44 rfl (lv_at hl 0 rfl) ?_
      refine g_10_1 (S := S) (x := (some (gG S 7 0))) X w h.v10 wF_X10_21 (h.f161) dX10_monitor_45 ?_
      refine g_7_1 (S := S) (x := (some (gG S 17 2))) X w h.v7 wF_X10_124 (h.f113) dX10_monitor_48 ?_
      refine cV (S := S) (nA := 0) (As := []) (rest := []) X w hl h.l_mo.1 (m_size G S ea 2 nm h.l_mo) wY_Jx4a65c_size_8abf5 wM_X10_66 wIn_Jx4a65c_size_8abf5 wSe_Jx4a65c_Jx4a65c_size_8abf5 wI_Jx4a65c (by decide) rfl (by decide +kernel) rfl rfl dX10_monitor_51 ⟨by decide, by decide⟩ (Nat.le_of_ble_eq_true rfl) (⟨Nat.le_of_ble_eq_true rfl, Nat.le_of_ble_eq_true rfl⟩) (fun v4 S1 H locs hp w => ?_)
      obtain ⟨rfl, rfl⟩ := hp
      refine lv_istore_n (lv' := [(2, .int (nI nm)), (0, .ref (gG S 10 0)), (1, .int a)]) hx hb dX10_monitor_54 rfl hl (by decide) rfl (fun ls hl => ?_)
      refine lv_aload_n hx hb dX10_monitor_55 rfl (lv_at hl 1 rfl) ?_
      refine g_10_1 (S := S) (x := (some (gG S 7 0))) X w h.v10 wF_X10_21 (h.f161) dX10_monitor_56 ?_
      refine g_7_1 (S := S) (x := (some (gG S 17 2))) X w h.v7 wF_X10_124 (h.f113) dX10_monitor_59 ?_
      refine nwO (S := S) (t := 3) (n := 4) X w nm (h.z_mo nm (Nat.le_refl _)) (Or.inl (by decide)) (by decide) rfl in_3 tyX3 tyX3_ok (by decide +kernel) wC_X10_129 wNew_X3 wI_X3 dX10_monitor_62 rfl (Nat.le_of_ble_eq_true rfl) (Nat.le_of_ble_eq_true rfl) (fun q1 S2 H hS2 w => ?_)
      subst hS2
      refine lv_dup hx hb dX10_monitor_65 rfl ?_
      refine lv_iload_n hx hb dX10_monitor_66 rfl (lv_at hl 0 rfl) ?_
      refine lv_iload_n hx hb dX10_monitor_67 rfl (lv_at hl 2 rfl) ?_
      refine cI (S := (sNew S 3 nm q1)) (nA := 2) (As := [.int (nI nm), .int a]) (rest := [.ref (gG (sNew S 3 nm q1) 3 nm), .ref (gG S 17 2)]) X w hl (m_X3_init G (sNew S 3 nm q1) nm (Or.inr ⟨rfl, rfl⟩) (nI nm) a) wY_X3_init wM_X10_131 wIn_X3_init wI_X3 rfl (by decide +kernel) rfl rfl dX10_monitor_68 ⟨by decide, by decide⟩ (Nat.le_of_ble_eq_true rfl) (⟨Nat.le_of_ble_eq_true rfl, Nat.le_of_ble_eq_true rfl⟩) (fun v6 S1 H locs hp w => ?_)
      obtain ⟨rfl, rfl⟩ := hp
      refine cV (S := (sI (sI (sNew S 3 nm q1) 48 nm (nI nm)) 49 nm a)) (nA := 1) (As := [.ref (gG (sNew S 3 nm q1) 3 nm)]) (rest := []) X w hl (Or.inl h.l_mo.1) (add_new G S (sI (sI (sNew S 3 nm q1) 48 nm (nI nm)) 49 nm a) 2 nm 3 q1 (hea ▸ h.l_mo) (by decide) (h.z_mo nm (Nat.le_refl _)) rfl rfl (by simp [mI, sI, sNew, up2]) (by simp [mR, sI, sR, sNew, up2]) rfl rfl (by omega) (h.z30.2.2.1) (h.z31 2) h.el_mo) wY_Jx4a65c_add_9ea2d wM_X10_82 wIn_Jx4a65c_add_9ea2d wSe_Jx4a65c_Jx4a65c_add_9ea2d wI_Jx4a65c (by decide) rfl (by decide +kernel) rfl rfl dX10_monitor_71 ⟨by decide, by decide⟩ (Nat.le_of_ble_eq_true rfl) (⟨Nat.le_of_ble_eq_true rfl, Nat.le_of_ble_eq_true rfl⟩) (fun v7 S1 H locs hp w => ?_)
      obtain ⟨rfl, q2, m2, b2, rfl, hb0, hb1⟩ := hp
      refine lv_pop hx hb dX10_monitor_74 rfl ?_
      refine lv_iload_n hx hb dX10_monitor_75 rfl (lv_at hl 0 rfl) ?_
      exact rXr (rI X w rfl dX10_monitor_76 (by decide) (by decide) (⟨rfl, by simp_all [moK, b2i], q1, _, _, _, rfl, hb0, hb1⟩))
    · have hn9 : 5 ≤ nm := Nat.le_of_not_lt (fun z => hc_n ((nI_ltI (a := nm) (b := 5) (by omega) (by decide)).mpr z))
      exact rT (S := S) (names := ["java/lang/RuntimeException", "java/lang/Exception"]) X w hl hno (by decide) (by decide) wC_X10_72 wI_java_lang_IllegalStateException wS9_X10_127 at_ISE go_ISE ⟨by decide, by decide⟩ dX10_monitor_34 dX10_monitor_37 dX10_monitor_38 dX10_monitor_40 dX10_monitor_43 (by decide) (by decide) (Nat.le_of_ble_eq_true rfl) (Nat.le_of_ble_eq_true rfl) (Nat.le_of_ble_eq_true rfl) (Nat.le_of_ble_eq_true rfl) (⟨rfl, Or.inr ⟨rfl, by simp_all [moK, b2i]⟩⟩)
  · exact rT (S := S) (names := ["java/lang/RuntimeException", "java/lang/Exception"]) X w hl hno (by decide) (by decide) wC_X10_52 wI_java_lang_IllegalArgumentException wS9_X10_122 at_IAE go_IAE ⟨by decide, by decide⟩ dX10_monitor_10 dX10_monitor_13 dX10_monitor_14 dX10_monitor_16 dX10_monitor_19 (by decide) (by decide) (Nat.le_of_ble_eq_true rfl) (Nat.le_of_ble_eq_true rfl) (Nat.le_of_ble_eq_true rfl) (Nat.le_of_ble_eq_true rfl) (⟨rfl, Or.inl ⟨rfl, by simp_all [moK, b2i]⟩⟩)

theorem dX10_reader_0 : decode cX10_reader 0 = .ok (.iload_n 1, 1) := by decide +kernel
theorem dX10_reader_1 : decode cX10_reader 1 = .ok (.iconst 0, 1) := by decide +kernel
theorem dX10_reader_2 : decode cX10_reader 2 = .ok (.bipush 63, 2) := by decide +kernel
theorem dX10_reader_4 : decode cX10_reader 4 = .ok (.invokestatic 48, 3) := by decide +kernel
theorem dX10_reader_7 : decode cX10_reader 7 = .ok (.ifCond .ne 13, 3) := by decide +kernel
theorem dX10_reader_10 : decode cX10_reader 10 = .ok (.iload_n 2, 1) := by decide +kernel
theorem dX10_reader_11 : decode cX10_reader 11 = .ok (.iconst 0, 1) := by decide +kernel
theorem dX10_reader_12 : decode cX10_reader 12 = .ok (.ldc 159, 2) := by decide +kernel
theorem dX10_reader_14 : decode cX10_reader 14 = .ok (.invokestatic 48, 3) := by decide +kernel
theorem dX10_reader_17 : decode cX10_reader 17 = .ok (.ifCond .eq 13, 3) := by decide +kernel
theorem dX10_reader_20 : decode cX10_reader 20 = .ok (.new 52, 3) := by decide +kernel
theorem dX10_reader_23 : decode cX10_reader 23 = .ok (.dup, 1) := by decide +kernel
theorem dX10_reader_24 : decode cX10_reader 24 = .ok (.ldc 205, 2) := by decide +kernel
theorem dX10_reader_26 : decode cX10_reader 26 = .ok (.invokespecial 56, 3) := by decide +kernel
theorem dX10_reader_29 : decode cX10_reader 29 = .ok (.athrow, 1) := by decide +kernel
theorem dX10_reader_30 : decode cX10_reader 30 = .ok (.aload_n 0, 1) := by decide +kernel
theorem dX10_reader_31 : decode cX10_reader 31 = .ok (.getfield 28, 3) := by decide +kernel
theorem dX10_reader_34 : decode cX10_reader 34 = .ok (.getfield 207, 3) := by decide +kernel
theorem dX10_reader_37 : decode cX10_reader 37 = .ok (.invokevirtual 66, 3) := by decide +kernel
theorem dX10_reader_40 : decode cX10_reader 40 = .ok (.iconst 4, 1) := by decide +kernel
theorem dX10_reader_41 : decode cX10_reader 41 = .ok (.if_icmp .lt 13, 3) := by decide +kernel
theorem dX10_reader_44 : decode cX10_reader 44 = .ok (.new 72, 3) := by decide +kernel
theorem dX10_reader_47 : decode cX10_reader 47 = .ok (.dup, 1) := by decide +kernel
theorem dX10_reader_48 : decode cX10_reader 48 = .ok (.ldc 210, 2) := by decide +kernel
theorem dX10_reader_50 : decode cX10_reader 50 = .ok (.invokespecial 76, 3) := by decide +kernel
theorem dX10_reader_53 : decode cX10_reader 53 = .ok (.athrow, 1) := by decide +kernel
theorem dX10_reader_54 : decode cX10_reader 54 = .ok (.aload_n 0, 1) := by decide +kernel
theorem dX10_reader_55 : decode cX10_reader 55 = .ok (.getfield 28, 3) := by decide +kernel
theorem dX10_reader_58 : decode cX10_reader 58 = .ok (.getfield 207, 3) := by decide +kernel
theorem dX10_reader_61 : decode cX10_reader 61 = .ok (.invokevirtual 66, 3) := by decide +kernel
theorem dX10_reader_64 : decode cX10_reader 64 = .ok (.istore_n 3, 1) := by decide +kernel
theorem dX10_reader_65 : decode cX10_reader 65 = .ok (.aload_n 0, 1) := by decide +kernel
theorem dX10_reader_66 : decode cX10_reader 66 = .ok (.getfield 28, 3) := by decide +kernel
theorem dX10_reader_69 : decode cX10_reader 69 = .ok (.getfield 207, 3) := by decide +kernel
theorem dX10_reader_72 : decode cX10_reader 72 = .ok (.new 212, 3) := by decide +kernel
theorem dX10_reader_75 : decode cX10_reader 75 = .ok (.dup, 1) := by decide +kernel
theorem dX10_reader_76 : decode cX10_reader 76 = .ok (.iload_n 3, 1) := by decide +kernel
theorem dX10_reader_77 : decode cX10_reader 77 = .ok (.iload_n 1, 1) := by decide +kernel
theorem dX10_reader_78 : decode cX10_reader 78 = .ok (.iload_n 2, 1) := by decide +kernel
theorem dX10_reader_79 : decode cX10_reader 79 = .ok (.invokespecial 214, 3) := by decide +kernel
theorem dX10_reader_82 : decode cX10_reader 82 = .ok (.invokevirtual 82, 3) := by decide +kernel
theorem dX10_reader_85 : decode cX10_reader 85 = .ok (.pop, 1) := by decide +kernel
theorem dX10_reader_86 : decode cX10_reader 86 = .ok (.iload_n 3, 1) := by decide +kernel
theorem dX10_reader_87 : decode cX10_reader 87 = .ok (.ireturn, 1) := by decide +kernel
abbrev rm_m_X10_reader : Room := { frames := 7, cells := 2, slots := 52, locals := 191 }
set_option maxHeartbeats 4000000 in
set_option maxRecDepth 100000 in
theorem m_X10_reader {s0 : State} {l : Launch} {D : va_G} {cy : Nat → ClassId} (G : Gl s0 l D cy) (S : HS) (ea ns nj nm nt nr nc : Nat) (h : CI ea S ns nj nm nt nr nc) (hea : ea = eaOf s0) (a b : Int32) : CtX s0 l D cy yX10_reader cX10_reader 4 (some .int) rm_m_X10_reader S [.ref (gG S 10 0), .int a, .int b] (fun v S' => some (.int (nI nr)) = v ∧ reK nr a b = 0 ∧ ∃ q1 q2 m2 b2, S' = addS (sI (sI (sI (sNew S 5 nr q1) 80 nr (nI nr)) 81 nr a) 82 nr b) 4 q2 (capOf (nr + 1)) m2 (nI (nr + 1)) b2 ∧ b2 nr = some (gG (sNew S 5 nr q1) 5 nr) ∧ ∀ j, j < nr → b2 j = mB S 30 4 j) (fun E S' => S = S' ∧ ((E = "java/lang/IllegalArgumentException" ∧ reK nr a b = 1) ∨ (E = "java/lang/IllegalStateException" ∧ reK nr a b = 2))) := by
  refine proX "CavershamShift" G rfl rfl (Nat.le_of_ble_eq_true rfl) (fun p e s m below meth c ls X w hno hl => ?_)
  have hx := X.1
  have hb := X.2.1
  have hown := X.2.2.2.1
  have hts := X.2.2.2.2.1
  have hl : lv_has ls 4 [(0, .ref (gG S 10 0)), (1, .int a), (2, .int b)] := hl
  have hb9 := h.b_re
  refine lv_iload_n hx hb dX10_reader_0 rfl (lv_at hl 1 rfl) ?_
  refine lv_iconst (v := 0) hx hb dX10_reader_1 (by decide) ?_
  refine lv_bipush (v := 63) hx hb dX10_reader_2 (by decide) ?_
  refine cS (S := S) (nA := 3) (As := [.int a, .int 0, .int 63]) (rest := []) X w hl (m_X10_isOutside G S a 0 63) wY_X10_isOutside wM_X10_48 wSt_X10_isOutside wI_X10 (by decide +kernel) rfl rfl dX10_reader_4 ⟨by decide, by decide⟩ (Nat.le_of_ble_eq_true rfl) (⟨Nat.le_of_ble_eq_true rfl, Nat.le_of_ble_eq_true rfl⟩) (fun v1 S1 H locs hp w => ?_)
  obtain ⟨rfl, rfl⟩ := hp
  refine lv_if_ne (tgt := 20) hx hb dX10_reader_7 (by decide) (fun hc2 => ?_) (fun hc2 => ?_)
  · exact rT (S := S) (names := ["java/lang/RuntimeException", "java/lang/Exception"]) X w hl hno (by decide) (by decide) wC_X10_52 wI_java_lang_IllegalArgumentException wS9_X10_205 at_IAE go_IAE ⟨by decide, by decide⟩ dX10_reader_20 dX10_reader_23 dX10_reader_24 dX10_reader_26 dX10_reader_29 (by decide) (by decide) (Nat.le_of_ble_eq_true rfl) (Nat.le_of_ble_eq_true rfl) (Nat.le_of_ble_eq_true rfl) (Nat.le_of_ble_eq_true rfl) (⟨rfl, Or.inl ⟨rfl, by simp_all [reK, b2i]⟩⟩)
  · refine lv_iload_n hx hb dX10_reader_10 rfl (lv_at hl 2 rfl) ?_
    refine lv_iconst (v := 0) hx hb dX10_reader_11 (by decide) ?_
    refine lv_ldc hx hb hown (hts _ wK_X10_159) dX10_reader_12 ?_
    refine cS (S := S) (nA := 3) (As := [.int b, .int 0, .int 65535]) (rest := []) X w hl (m_X10_isOutside G S b 0 65535) wY_X10_isOutside wM_X10_48 wSt_X10_isOutside wI_X10 (by decide +kernel) rfl rfl dX10_reader_14 ⟨by decide, by decide⟩ (Nat.le_of_ble_eq_true rfl) (⟨Nat.le_of_ble_eq_true rfl, Nat.le_of_ble_eq_true rfl⟩) (fun v3 S1 H locs hp w => ?_)
    obtain ⟨rfl, rfl⟩ := hp
    refine lv_if_eq (tgt := 30) hx hb dX10_reader_17 (by decide) (fun hc4 => ?_) (fun hc4 => ?_)
    · refine lv_aload_n hx hb dX10_reader_30 rfl (lv_at hl 0 rfl) ?_
      refine g_10_2 (S := S) (x := (some (gG S 4 0))) X w h.v10 wF_X10_28 (h.f162) dX10_reader_31 ?_
      refine g_4_1 (S := S) (x := (some (gG S 17 4))) X w h.v4 wF_X10_207 (h.f65) dX10_reader_34 ?_
      refine cV (S := S) (nA := 0) (As := []) (rest := []) X w hl h.l_re.1 (m_size G S ea 4 nr h.l_re) wY_Jx4a65c_size_8abf5 wM_X10_66 wIn_Jx4a65c_size_8abf5 wSe_Jx4a65c_Jx4a65c_size_8abf5 wI_Jx4a65c (by decide) rfl (by decide +kernel) rfl rfl dX10_reader_37 ⟨by decide, by decide⟩ (Nat.le_of_ble_eq_true rfl) (⟨Nat.le_of_ble_eq_true rfl, Nat.le_of_ble_eq_true rfl⟩) (fun v5 S1 H locs hp w => ?_)
      obtain ⟨rfl, rfl⟩ := hp
      refine lv_iconst (v := 4) hx hb dX10_reader_40 (by decide) ?_
      refine lv_icmp_lt (tgt := 54) hx hb dX10_reader_41 (by decide) (fun hc_n => ?_) (fun hc_n => ?_)
      · have hn9 : nr < 4 := (nI_ltI (a := nr) (b := 4) (by omega) (by decide)).mp hc_n
        refine lv_aload_n hx hb dX10_reader_54 rfl (lv_at hl 0 rfl) ?_
        refine g_10_2 (S := S) (x := (some (gG S 4 0))) X w h.v10 wF_X10_28 (h.f162) dX10_reader_55 ?_
        refine g_4_1 (S := S) (x := (some (gG S 17 4))) X w h.v4 wF_X10_207 (h.f65) dX10_reader_58 ?_
        refine cV (S := S) (nA := 0) (As := []) (rest := []) X w hl h.l_re.1 (m_size G S ea 4 nr h.l_re) wY_Jx4a65c_size_8abf5 wM_X10_66 wIn_Jx4a65c_size_8abf5 wSe_Jx4a65c_Jx4a65c_size_8abf5 wI_Jx4a65c (by decide) rfl (by decide +kernel) rfl rfl dX10_reader_61 ⟨by decide, by decide⟩ (Nat.le_of_ble_eq_true rfl) (⟨Nat.le_of_ble_eq_true rfl, Nat.le_of_ble_eq_true rfl⟩) (fun v6 S1 H locs hp w => ?_)
        obtain ⟨rfl, rfl⟩ := hp
        refine lv_istore_n (lv' := [(3, .int (nI nr)), (0, .ref (gG S 10 0)), (1, .int a), (2, .int b)]) hx hb dX10_reader_64 rfl hl (by decide) rfl (fun ls hl => ?_)
        refine lv_aload_n hx hb dX10_reader_65 rfl (lv_at hl 1 rfl) ?_
        refine g_10_2 (S := S) (x := (some (gG S 4 0))) X w h.v10 wF_X10_28 (h.f162) dX10_reader_66 ?_
        refine g_4_1 (S := S) (x := (some (gG S 17 4))) X w h.v4 wF_X10_207 (h.f65) dX10_reader_69 ?_
        refine nwO (S := S) (t := 5) (n := 3) X w nr (h.z_re nr (Nat.le_refl _)) (Or.inl (by decide)) (by decide) rfl in_5 tyX5 tyX5_ok (by decide +kernel) wC_X10_212 wNew_X5 wI_X5 dX10_reader_72 rfl (Nat.le_of_ble_eq_true rfl) (Nat.le_of_ble_eq_true rfl) (fun q1 S2 H hS2 w => ?_)
        subst hS2
        refine lv_dup hx hb dX10_reader_75 rfl ?_
        refine lv_iload_n hx hb dX10_reader_76 rfl (lv_at hl 0 rfl) ?_
        refine lv_iload_n hx hb dX10_reader_77 rfl (lv_at hl 2 rfl) ?_
        refine lv_iload_n hx hb dX10_reader_78 rfl (lv_at hl 3 rfl) ?_
        refine cI (S := (sNew S 5 nr q1)) (nA := 3) (As := [.int (nI nr), .int a, .int b]) (rest := [.ref (gG (sNew S 5 nr q1) 5 nr), .ref (gG S 17 4)]) X w hl (m_X5_init G (sNew S 5 nr q1) nr (Or.inr ⟨rfl, rfl⟩) (nI nr) a b) wY_X5_init wM_X10_214 wIn_X5_init wI_X5 rfl (by decide +kernel) rfl rfl dX10_reader_79 ⟨by decide, by decide⟩ (Nat.le_of_ble_eq_true rfl) (⟨Nat.le_of_ble_eq_true rfl, Nat.le_of_ble_eq_true rfl⟩) (fun v8 S1 H locs hp w => ?_)
        obtain ⟨rfl, rfl⟩ := hp
        refine cV (S := (sI (sI (sI (sNew S 5 nr q1) 80 nr (nI nr)) 81 nr a) 82 nr b)) (nA := 1) (As := [.ref (gG (sNew S 5 nr q1) 5 nr)]) (rest := []) X w hl (Or.inl h.l_re.1) (add_new G S (sI (sI (sI (sNew S 5 nr q1) 80 nr (nI nr)) 81 nr a) 82 nr b) 4 nr 5 q1 (hea ▸ h.l_re) (by decide) (h.z_re nr (Nat.le_refl _)) rfl rfl (by simp [mI, sI, sNew, up2]) (by simp [mR, sI, sR, sNew, up2]) rfl rfl (by omega) (h.z30.2.2.2.2.1) (h.z31 4) h.el_re) wY_Jx4a65c_add_9ea2d wM_X10_82 wIn_Jx4a65c_add_9ea2d wSe_Jx4a65c_Jx4a65c_add_9ea2d wI_Jx4a65c (by decide) rfl (by decide +kernel) rfl rfl dX10_reader_82 ⟨by decide, by decide⟩ (Nat.le_of_ble_eq_true rfl) (⟨Nat.le_of_ble_eq_true rfl, Nat.le_of_ble_eq_true rfl⟩) (fun v9 S1 H locs hp w => ?_)
        obtain ⟨rfl, q2, m2, b2, rfl, hb0, hb1⟩ := hp
        refine lv_pop hx hb dX10_reader_85 rfl ?_
        refine lv_iload_n hx hb dX10_reader_86 rfl (lv_at hl 0 rfl) ?_
        exact rXr (rI X w rfl dX10_reader_87 (by decide) (by decide) (⟨rfl, by simp_all [reK, b2i], q1, _, _, _, rfl, hb0, hb1⟩))
      · have hn9 : 4 ≤ nr := Nat.le_of_not_lt (fun z => hc_n ((nI_ltI (a := nr) (b := 4) (by omega) (by decide)).mpr z))
        exact rT (S := S) (names := ["java/lang/RuntimeException", "java/lang/Exception"]) X w hl hno (by decide) (by decide) wC_X10_72 wI_java_lang_IllegalStateException wS9_X10_210 at_ISE go_ISE ⟨by decide, by decide⟩ dX10_reader_44 dX10_reader_47 dX10_reader_48 dX10_reader_50 dX10_reader_53 (by decide) (by decide) (Nat.le_of_ble_eq_true rfl) (Nat.le_of_ble_eq_true rfl) (Nat.le_of_ble_eq_true rfl) (Nat.le_of_ble_eq_true rfl) (⟨rfl, Or.inr ⟨rfl, by simp_all [reK, b2i]⟩⟩)
    · exact rT (S := S) (names := ["java/lang/RuntimeException", "java/lang/Exception"]) X w hl hno (by decide) (by decide) wC_X10_52 wI_java_lang_IllegalArgumentException wS9_X10_205 at_IAE go_IAE ⟨by decide, by decide⟩ dX10_reader_20 dX10_reader_23 dX10_reader_24 dX10_reader_26 dX10_reader_29 (by decide) (by decide) (Nat.le_of_ble_eq_true rfl) (Nat.le_of_ble_eq_true rfl) (Nat.le_of_ble_eq_true rfl) (Nat.le_of_ble_eq_true rfl) (⟨rfl, Or.inl ⟨rfl, by simp_all [reK, b2i]⟩⟩)

