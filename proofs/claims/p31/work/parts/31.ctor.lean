theorem dX8_init_0 : decode cX8_init 0 = .ok (.aload_n 0, 1) := by decide +kernel
theorem dX8_init_1 : decode cX8_init 1 = .ok (.invokespecial 1, 3) := by decide +kernel
theorem dX8_init_4 : decode cX8_init 4 = .ok (.aload_n 0, 1) := by decide +kernel
theorem dX8_init_5 : decode cX8_init 5 = .ok (.iload_n 1, 1) := by decide +kernel
theorem dX8_init_6 : decode cX8_init 6 = .ok (.putfield 7, 3) := by decide +kernel
theorem dX8_init_9 : decode cX8_init 9 = .ok (.aload_n 0, 1) := by decide +kernel
theorem dX8_init_10 : decode cX8_init 10 = .ok (.iload_n 2, 1) := by decide +kernel
theorem dX8_init_11 : decode cX8_init 11 = .ok (.putfield 13, 3) := by decide +kernel
theorem dX8_init_14 : decode cX8_init 14 = .ok (.aload_n 0, 1) := by decide +kernel
theorem dX8_init_15 : decode cX8_init 15 = .ok (.iload_n 3, 1) := by decide +kernel
theorem dX8_init_16 : decode cX8_init 16 = .ok (.putfield 16, 3) := by decide +kernel
theorem dX8_init_19 : decode cX8_init 19 = .ok (.aload_n 0, 1) := by decide +kernel
theorem dX8_init_20 : decode cX8_init 20 = .ok (.iload 4, 2) := by decide +kernel
theorem dX8_init_22 : decode cX8_init 22 = .ok (.putfield 19, 3) := by decide +kernel
theorem dX8_init_25 : decode cX8_init 25 = .ok (.aload_n 0, 1) := by decide +kernel
theorem dX8_init_26 : decode cX8_init 26 = .ok (.iload 5, 2) := by decide +kernel
theorem dX8_init_28 : decode cX8_init 28 = .ok (.putfield 22, 3) := by decide +kernel
theorem dX8_init_31 : decode cX8_init 31 = .ok (.aload_n 0, 1) := by decide +kernel
theorem dX8_init_32 : decode cX8_init 32 = .ok (.iload 6, 2) := by decide +kernel
theorem dX8_init_34 : decode cX8_init 34 = .ok (.putfield 25, 3) := by decide +kernel
theorem dX8_init_37 : decode cX8_init 37 = .ok (.aload_n 0, 1) := by decide +kernel
theorem dX8_init_38 : decode cX8_init 38 = .ok (.iload 7, 2) := by decide +kernel
theorem dX8_init_40 : decode cX8_init 40 = .ok (.putfield 28, 3) := by decide +kernel
theorem dX8_init_43 : decode cX8_init 43 = .ok (.return_, 1) := by decide +kernel
abbrev rm_m_X8_init : Room := { frames := 1, cells := 0, slots := 0, locals := 20 }
set_option maxHeartbeats 4000000 in
set_option maxRecDepth 100000 in
theorem m_X8_init {s0 : State} {l : Launch} {D : va_G} {cy : Nat → ClassId} (G : Gl s0 l D cy) (S : HS) (i : Nat) (hV : vV S 8 i) (a b d g e_ f h_ : Int32) : Ctr s0 l D cy yX8_init cX8_init 8 none rm_m_X8_init S [.ref (gG S 8 i), .int a, .int b, .int d, .int g, .int e_, .int f, .int h_] (fun v S' => none = v ∧ S' = (sI (sI (sI (sI (sI (sI (sI S 128 i a) 129 i b) 130 i d) 131 i g) 132 i e_) 133 i f) 134 i h_)) := by
  refine pro "CavershamShift$Station" G rfl rfl (Nat.le_of_ble_eq_true rfl) (fun p e s m below meth c ls X w hnm hl => ?_)
  have hx := X.1
  have hb := X.2.1
  have hown := X.2.2.2.1
  have hts := X.2.2.2.2.1
  have hin2 : meth.name = "<init>" := hnm
  have hl : lv_has ls 8 [(0, .ref (gG S 8 i)), (1, .int a), (2, .int b), (3, .int d), (4, .int g), (5, .int e_), (6, .int f), (7, .int h_)] := hl
  refine lv_aload_n hx hb dX8_init_0 rfl (lv_at hl 0 rfl) ?_
  refine W.objInit hx hb hown (hts _ wM_X8_1) (hts _ wIn_O_init) (hts _ wY_O_init) rfl (X.2.2.1.symm ▸ hl.1) rfl dX8_init_1 (Nat.le_of_ble_eq_true rfl) (Nat.le_of_ble_eq_true rfl) ?_
  refine W.eq (g2 := F0 m 4 ls []) rfl ?_
  refine lv_aload_n hx hb dX8_init_4 rfl (lv_at hl 0 rfl) ?_
  refine lv_iload_n hx hb dX8_init_5 rfl (lv_at hl 1 rfl) ?_
  refine p_8_0 (S := S) (x := a) X w hin2 hV wF_X8_7 dX8_init_6 (fun H locs w => ?_)
  refine lv_aload_n hx hb dX8_init_9 rfl (lv_at hl 0 rfl) ?_
  refine lv_iload_n hx hb dX8_init_10 rfl (lv_at hl 2 rfl) ?_
  refine p_8_1 (S := (sI S 128 i a)) (x := b) X w hV wF_X8_13 dX8_init_11 (fun H locs w => ?_)
  refine lv_aload_n hx hb dX8_init_14 rfl (lv_at hl 0 rfl) ?_
  refine lv_iload_n hx hb dX8_init_15 rfl (lv_at hl 3 rfl) ?_
  refine p_8_2 (S := (sI (sI S 128 i a) 129 i b)) (x := d) X w hin2 hV wF_X8_16 dX8_init_16 (fun H locs w => ?_)
  refine lv_aload_n hx hb dX8_init_19 rfl (lv_at hl 0 rfl) ?_
  refine lv_iload hx hb dX8_init_20 (lv_at hl 4 rfl) ?_
  refine p_8_3 (S := (sI (sI (sI S 128 i a) 129 i b) 130 i d)) (x := g) X w hin2 hV wF_X8_19 dX8_init_22 (fun H locs w => ?_)
  refine lv_aload_n hx hb dX8_init_25 rfl (lv_at hl 0 rfl) ?_
  refine lv_iload hx hb dX8_init_26 (lv_at hl 5 rfl) ?_
  refine p_8_4 (S := (sI (sI (sI (sI S 128 i a) 129 i b) 130 i d) 131 i g)) (x := e_) X w hin2 hV wF_X8_22 dX8_init_28 (fun H locs w => ?_)
  refine lv_aload_n hx hb dX8_init_31 rfl (lv_at hl 0 rfl) ?_
  refine lv_iload hx hb dX8_init_32 (lv_at hl 6 rfl) ?_
  refine p_8_5 (S := (sI (sI (sI (sI (sI S 128 i a) 129 i b) 130 i d) 131 i g) 132 i e_)) (x := f) X w hin2 hV wF_X8_25 dX8_init_34 (fun H locs w => ?_)
  refine lv_aload_n hx hb dX8_init_37 rfl (lv_at hl 0 rfl) ?_
  refine lv_iload hx hb dX8_init_38 (lv_at hl 7 rfl) ?_
  refine p_8_6 (S := (sI (sI (sI (sI (sI (sI S 128 i a) 129 i b) 130 i d) 131 i g) 132 i e_) 133 i f)) (x := h_) X w hin2 hV wF_X8_28 dX8_init_40 (fun H locs w => ?_)
  exact rV X w rfl dX8_init_43 (by decide) (by decide) (⟨rfl, rfl⟩)

theorem dX1_init_0 : decode cX1_init 0 = .ok (.aload_n 0, 1) := by decide +kernel
theorem dX1_init_1 : decode cX1_init 1 = .ok (.invokespecial 1, 3) := by decide +kernel
theorem dX1_init_4 : decode cX1_init 4 = .ok (.aload_n 0, 1) := by decide +kernel
theorem dX1_init_5 : decode cX1_init 5 = .ok (.iload_n 1, 1) := by decide +kernel
theorem dX1_init_6 : decode cX1_init 6 = .ok (.putfield 7, 3) := by decide +kernel
theorem dX1_init_9 : decode cX1_init 9 = .ok (.aload_n 0, 1) := by decide +kernel
theorem dX1_init_10 : decode cX1_init 10 = .ok (.iload_n 2, 1) := by decide +kernel
theorem dX1_init_11 : decode cX1_init 11 = .ok (.putfield 13, 3) := by decide +kernel
theorem dX1_init_14 : decode cX1_init 14 = .ok (.return_, 1) := by decide +kernel
abbrev rm_m_X1_init : Room := { frames := 1, cells := 0, slots := 0, locals := 20 }
set_option maxHeartbeats 4000000 in
set_option maxRecDepth 100000 in
theorem m_X1_init {s0 : State} {l : Launch} {D : va_G} {cy : Nat → ClassId} (G : Gl s0 l D cy) (S : HS) (i : Nat) (hV : vV S 1 i) (a b : Int32) : Ctr s0 l D cy yX1_init cX1_init 3 none rm_m_X1_init S [.ref (gG S 1 i), .int a, .int b] (fun v S' => none = v ∧ S' = (sI (sI S 16 i a) 17 i b)) := by
  refine pro "CavershamShift$Jammer" G rfl rfl (Nat.le_of_ble_eq_true rfl) (fun p e s m below meth c ls X w hnm hl => ?_)
  have hx := X.1
  have hb := X.2.1
  have hown := X.2.2.2.1
  have hts := X.2.2.2.2.1
  have hin2 : meth.name = "<init>" := hnm
  have hl : lv_has ls 3 [(0, .ref (gG S 1 i)), (1, .int a), (2, .int b)] := hl
  refine lv_aload_n hx hb dX1_init_0 rfl (lv_at hl 0 rfl) ?_
  refine W.objInit hx hb hown (hts _ wM_X1_1) (hts _ wIn_O_init) (hts _ wY_O_init) rfl (X.2.2.1.symm ▸ hl.1) rfl dX1_init_1 (Nat.le_of_ble_eq_true rfl) (Nat.le_of_ble_eq_true rfl) ?_
  refine W.eq (g2 := F0 m 4 ls []) rfl ?_
  refine lv_aload_n hx hb dX1_init_4 rfl (lv_at hl 0 rfl) ?_
  refine lv_iload_n hx hb dX1_init_5 rfl (lv_at hl 1 rfl) ?_
  refine p_1_0 (S := S) (x := a) X w hin2 hV wF_X1_7 dX1_init_6 (fun H locs w => ?_)
  refine lv_aload_n hx hb dX1_init_9 rfl (lv_at hl 0 rfl) ?_
  refine lv_iload_n hx hb dX1_init_10 rfl (lv_at hl 2 rfl) ?_
  refine p_1_1 (S := (sI S 16 i a)) (x := b) X w hV wF_X1_13 dX1_init_11 (fun H locs w => ?_)
  exact rV X w rfl dX1_init_14 (by decide) (by decide) (⟨rfl, rfl⟩)

theorem dX3_init_0 : decode cX3_init 0 = .ok (.aload_n 0, 1) := by decide +kernel
theorem dX3_init_1 : decode cX3_init 1 = .ok (.invokespecial 1, 3) := by decide +kernel
theorem dX3_init_4 : decode cX3_init 4 = .ok (.aload_n 0, 1) := by decide +kernel
theorem dX3_init_5 : decode cX3_init 5 = .ok (.iload_n 1, 1) := by decide +kernel
theorem dX3_init_6 : decode cX3_init 6 = .ok (.putfield 7, 3) := by decide +kernel
theorem dX3_init_9 : decode cX3_init 9 = .ok (.aload_n 0, 1) := by decide +kernel
theorem dX3_init_10 : decode cX3_init 10 = .ok (.iload_n 2, 1) := by decide +kernel
theorem dX3_init_11 : decode cX3_init 11 = .ok (.putfield 13, 3) := by decide +kernel
theorem dX3_init_14 : decode cX3_init 14 = .ok (.return_, 1) := by decide +kernel
abbrev rm_m_X3_init : Room := { frames := 1, cells := 0, slots := 0, locals := 20 }
set_option maxHeartbeats 4000000 in
set_option maxRecDepth 100000 in
theorem m_X3_init {s0 : State} {l : Launch} {D : va_G} {cy : Nat → ClassId} (G : Gl s0 l D cy) (S : HS) (i : Nat) (hV : vV S 3 i) (a b : Int32) : Ctr s0 l D cy yX3_init cX3_init 3 none rm_m_X3_init S [.ref (gG S 3 i), .int a, .int b] (fun v S' => none = v ∧ S' = (sI (sI S 48 i a) 49 i b)) := by
  refine pro "CavershamShift$Monitor" G rfl rfl (Nat.le_of_ble_eq_true rfl) (fun p e s m below meth c ls X w hnm hl => ?_)
  have hx := X.1
  have hb := X.2.1
  have hown := X.2.2.2.1
  have hts := X.2.2.2.2.1
  have hin2 : meth.name = "<init>" := hnm
  have hl : lv_has ls 3 [(0, .ref (gG S 3 i)), (1, .int a), (2, .int b)] := hl
  refine lv_aload_n hx hb dX3_init_0 rfl (lv_at hl 0 rfl) ?_
  refine W.objInit hx hb hown (hts _ wM_X3_1) (hts _ wIn_O_init) (hts _ wY_O_init) rfl (X.2.2.1.symm ▸ hl.1) rfl dX3_init_1 (Nat.le_of_ble_eq_true rfl) (Nat.le_of_ble_eq_true rfl) ?_
  refine W.eq (g2 := F0 m 4 ls []) rfl ?_
  refine lv_aload_n hx hb dX3_init_4 rfl (lv_at hl 0 rfl) ?_
  refine lv_iload_n hx hb dX3_init_5 rfl (lv_at hl 1 rfl) ?_
  refine p_3_0 (S := S) (x := a) X w hin2 hV wF_X3_7 dX3_init_6 (fun H locs w => ?_)
  refine lv_aload_n hx hb dX3_init_9 rfl (lv_at hl 0 rfl) ?_
  refine lv_iload_n hx hb dX3_init_10 rfl (lv_at hl 2 rfl) ?_
  refine p_3_1 (S := (sI S 48 i a)) (x := b) X w hin2 hV wF_X3_13 dX3_init_11 (fun H locs w => ?_)
  exact rV X w rfl dX3_init_14 (by decide) (by decide) (⟨rfl, rfl⟩)

theorem dX5_init_0 : decode cX5_init 0 = .ok (.aload_n 0, 1) := by decide +kernel
theorem dX5_init_1 : decode cX5_init 1 = .ok (.invokespecial 1, 3) := by decide +kernel
theorem dX5_init_4 : decode cX5_init 4 = .ok (.aload_n 0, 1) := by decide +kernel
theorem dX5_init_5 : decode cX5_init 5 = .ok (.iload_n 1, 1) := by decide +kernel
theorem dX5_init_6 : decode cX5_init 6 = .ok (.putfield 7, 3) := by decide +kernel
theorem dX5_init_9 : decode cX5_init 9 = .ok (.aload_n 0, 1) := by decide +kernel
theorem dX5_init_10 : decode cX5_init 10 = .ok (.iload_n 2, 1) := by decide +kernel
theorem dX5_init_11 : decode cX5_init 11 = .ok (.putfield 13, 3) := by decide +kernel
theorem dX5_init_14 : decode cX5_init 14 = .ok (.aload_n 0, 1) := by decide +kernel
theorem dX5_init_15 : decode cX5_init 15 = .ok (.iload_n 3, 1) := by decide +kernel
theorem dX5_init_16 : decode cX5_init 16 = .ok (.putfield 16, 3) := by decide +kernel
theorem dX5_init_19 : decode cX5_init 19 = .ok (.return_, 1) := by decide +kernel
abbrev rm_m_X5_init : Room := { frames := 1, cells := 0, slots := 0, locals := 20 }
set_option maxHeartbeats 4000000 in
set_option maxRecDepth 100000 in
theorem m_X5_init {s0 : State} {l : Launch} {D : va_G} {cy : Nat → ClassId} (G : Gl s0 l D cy) (S : HS) (i : Nat) (hV : vV S 5 i) (a b d : Int32) : Ctr s0 l D cy yX5_init cX5_init 4 none rm_m_X5_init S [.ref (gG S 5 i), .int a, .int b, .int d] (fun v S' => none = v ∧ S' = (sI (sI (sI S 80 i a) 81 i b) 82 i d)) := by
  refine pro "CavershamShift$Reader" G rfl rfl (Nat.le_of_ble_eq_true rfl) (fun p e s m below meth c ls X w hnm hl => ?_)
  have hx := X.1
  have hb := X.2.1
  have hown := X.2.2.2.1
  have hts := X.2.2.2.2.1
  have hin2 : meth.name = "<init>" := hnm
  have hl : lv_has ls 4 [(0, .ref (gG S 5 i)), (1, .int a), (2, .int b), (3, .int d)] := hl
  refine lv_aload_n hx hb dX5_init_0 rfl (lv_at hl 0 rfl) ?_
  refine W.objInit hx hb hown (hts _ wM_X5_1) (hts _ wIn_O_init) (hts _ wY_O_init) rfl (X.2.2.1.symm ▸ hl.1) rfl dX5_init_1 (Nat.le_of_ble_eq_true rfl) (Nat.le_of_ble_eq_true rfl) ?_
  refine W.eq (g2 := F0 m 4 ls []) rfl ?_
  refine lv_aload_n hx hb dX5_init_4 rfl (lv_at hl 0 rfl) ?_
  refine lv_iload_n hx hb dX5_init_5 rfl (lv_at hl 1 rfl) ?_
  refine p_5_0 (S := S) (x := a) X w hin2 hV wF_X5_7 dX5_init_6 (fun H locs w => ?_)
  refine lv_aload_n hx hb dX5_init_9 rfl (lv_at hl 0 rfl) ?_
  refine lv_iload_n hx hb dX5_init_10 rfl (lv_at hl 2 rfl) ?_
  refine p_5_1 (S := (sI S 80 i a)) (x := b) X w hV wF_X5_13 dX5_init_11 (fun H locs w => ?_)
  refine lv_aload_n hx hb dX5_init_14 rfl (lv_at hl 0 rfl) ?_
  refine lv_iload_n hx hb dX5_init_15 rfl (lv_at hl 3 rfl) ?_
  refine p_5_2 (S := (sI (sI S 80 i a) 81 i b)) (x := d) X w hV wF_X5_16 dX5_init_16 (fun H locs w => ?_)
  exact rV X w rfl dX5_init_19 (by decide) (by decide) (⟨rfl, rfl⟩)

theorem dX9_init_0 : decode cX9_init 0 = .ok (.aload_n 0, 1) := by decide +kernel
theorem dX9_init_1 : decode cX9_init 1 = .ok (.invokespecial 3, 3) := by decide +kernel
theorem dX9_init_4 : decode cX9_init 4 = .ok (.aload_n 0, 1) := by decide +kernel
theorem dX9_init_5 : decode cX9_init 5 = .ok (.iconst (-1), 1) := by decide +kernel
theorem dX9_init_6 : decode cX9_init 6 = .ok (.putfield 9, 3) := by decide +kernel
theorem dX9_init_9 : decode cX9_init 9 = .ok (.aload_n 0, 1) := by decide +kernel
theorem dX9_init_10 : decode cX9_init 10 = .ok (.iload_n 1, 1) := by decide +kernel
theorem dX9_init_11 : decode cX9_init 11 = .ok (.putfield 15, 3) := by decide +kernel
theorem dX9_init_14 : decode cX9_init 14 = .ok (.aload_n 0, 1) := by decide +kernel
theorem dX9_init_15 : decode cX9_init 15 = .ok (.aload_n 2, 1) := by decide +kernel
theorem dX9_init_16 : decode cX9_init 16 = .ok (.putfield 18, 3) := by decide +kernel
theorem dX9_init_19 : decode cX9_init 19 = .ok (.aload_n 0, 1) := by decide +kernel
theorem dX9_init_20 : decode cX9_init 20 = .ok (.iload_n 3, 1) := by decide +kernel
theorem dX9_init_21 : decode cX9_init 21 = .ok (.putfield 22, 3) := by decide +kernel
theorem dX9_init_24 : decode cX9_init 24 = .ok (.aload_n 0, 1) := by decide +kernel
theorem dX9_init_25 : decode cX9_init 25 = .ok (.iload 4, 2) := by decide +kernel
theorem dX9_init_27 : decode cX9_init 27 = .ok (.putfield 25, 3) := by decide +kernel
theorem dX9_init_30 : decode cX9_init 30 = .ok (.aload_n 0, 1) := by decide +kernel
theorem dX9_init_31 : decode cX9_init 31 = .ok (.iload 5, 2) := by decide +kernel
theorem dX9_init_33 : decode cX9_init 33 = .ok (.putfield 28, 3) := by decide +kernel
theorem dX9_init_36 : decode cX9_init 36 = .ok (.aload_n 0, 1) := by decide +kernel
theorem dX9_init_37 : decode cX9_init 37 = .ok (.iload 6, 2) := by decide +kernel
theorem dX9_init_39 : decode cX9_init 39 = .ok (.putfield 31, 3) := by decide +kernel
theorem dX9_init_42 : decode cX9_init 42 = .ok (.aload_n 0, 1) := by decide +kernel
theorem dX9_init_43 : decode cX9_init 43 = .ok (.iload 7, 2) := by decide +kernel
theorem dX9_init_45 : decode cX9_init 45 = .ok (.putfield 34, 3) := by decide +kernel
theorem dX9_init_48 : decode cX9_init 48 = .ok (.return_, 1) := by decide +kernel
abbrev rm_m_X9_init : Room := { frames := 1, cells := 0, slots := 0, locals := 20 }
set_option maxHeartbeats 4000000 in
set_option maxRecDepth 100000 in
theorem m_X9_init {s0 : State} {l : Launch} {D : va_G} {cy : Nat → ClassId} (G : Gl s0 l D cy) (S : HS) (i : Nat) (hV : vV S 9 i) (a : Int32) (i8 : Nat) (b d g e_ f : Int32) : Ctr s0 l D cy yX9_init cX9_init 8 none rm_m_X9_init S [.ref (gG S 9 i), .int a, .ref (gG S 8 i8), .int b, .int d, .int g, .int e_, .int f] (fun v S' => none = v ∧ S' = (sI (sI (sI (sI (sI (sR (sI (sI S 151 i (-1)) 144 i a) 145 i (some (gG S 8 i8))) 146 i b) 147 i d) 148 i g) 149 i e_) 150 i f)) := by
  refine pro "CavershamShift$Talk" G rfl rfl (Nat.le_of_ble_eq_true rfl) (fun p e s m below meth c ls X w hnm hl => ?_)
  have hx := X.1
  have hb := X.2.1
  have hown := X.2.2.2.1
  have hts := X.2.2.2.2.1
  have hin2 : meth.name = "<init>" := hnm
  have hl : lv_has ls 8 [(0, .ref (gG S 9 i)), (1, .int a), (2, .ref (gG S 8 i8)), (3, .int b), (4, .int d), (5, .int g), (6, .int e_), (7, .int f)] := hl
  refine lv_aload_n hx hb dX9_init_0 rfl (lv_at hl 0 rfl) ?_
  refine W.objInit hx hb hown (hts _ wM_X9_3) (hts _ wIn_O_init) (hts _ wY_O_init) rfl (X.2.2.1.symm ▸ hl.1) rfl dX9_init_1 (Nat.le_of_ble_eq_true rfl) (Nat.le_of_ble_eq_true rfl) ?_
  refine W.eq (g2 := F0 m 4 ls []) rfl ?_
  refine lv_aload_n hx hb dX9_init_4 rfl (lv_at hl 0 rfl) ?_
  refine lv_iconst (v := (-1)) hx hb dX9_init_5 (by decide) ?_
  refine p_9_7 (S := S) (x := (-1)) X w hV wF_X9_9 dX9_init_6 (fun H locs w => ?_)
  refine lv_aload_n hx hb dX9_init_9 rfl (lv_at hl 0 rfl) ?_
  refine lv_iload_n hx hb dX9_init_10 rfl (lv_at hl 1 rfl) ?_
  refine p_9_0 (S := (sI S 151 i (-1))) (x := a) X w hin2 hV wF_X9_15 dX9_init_11 (fun H locs w => ?_)
  refine lv_aload_n hx hb dX9_init_14 rfl (lv_at hl 0 rfl) ?_
  refine lv_aload_n hx hb dX9_init_15 rfl (lv_at hl 2 rfl) ?_
  refine p_9_1 (S := (sI (sI S 151 i (-1)) 144 i a)) (x := (some (gG S 8 i8))) X w hin2 hV wF_X9_18 dX9_init_16 (fun H locs w => ?_)
  refine lv_aload_n hx hb dX9_init_19 rfl (lv_at hl 0 rfl) ?_
  refine lv_iload_n hx hb dX9_init_20 rfl (lv_at hl 3 rfl) ?_
  refine p_9_2 (S := (sR (sI (sI S 151 i (-1)) 144 i a) 145 i (some (gG S 8 i8)))) (x := b) X w hin2 hV wF_X9_22 dX9_init_21 (fun H locs w => ?_)
  refine lv_aload_n hx hb dX9_init_24 rfl (lv_at hl 0 rfl) ?_
  refine lv_iload hx hb dX9_init_25 (lv_at hl 4 rfl) ?_
  refine p_9_3 (S := (sI (sR (sI (sI S 151 i (-1)) 144 i a) 145 i (some (gG S 8 i8))) 146 i b)) (x := d) X w hin2 hV wF_X9_25 dX9_init_27 (fun H locs w => ?_)
  refine lv_aload_n hx hb dX9_init_30 rfl (lv_at hl 0 rfl) ?_
  refine lv_iload hx hb dX9_init_31 (lv_at hl 5 rfl) ?_
  refine p_9_4 (S := (sI (sI (sR (sI (sI S 151 i (-1)) 144 i a) 145 i (some (gG S 8 i8))) 146 i b) 147 i d)) (x := g) X w hin2 hV wF_X9_28 dX9_init_33 (fun H locs w => ?_)
  refine lv_aload_n hx hb dX9_init_36 rfl (lv_at hl 0 rfl) ?_
  refine lv_iload hx hb dX9_init_37 (lv_at hl 6 rfl) ?_
  refine p_9_5 (S := (sI (sI (sI (sR (sI (sI S 151 i (-1)) 144 i a) 145 i (some (gG S 8 i8))) 146 i b) 147 i d) 148 i g)) (x := e_) X w hin2 hV wF_X9_31 dX9_init_39 (fun H locs w => ?_)
  refine lv_aload_n hx hb dX9_init_42 rfl (lv_at hl 0 rfl) ?_
  refine lv_iload hx hb dX9_init_43 (lv_at hl 7 rfl) ?_
  refine p_9_6 (S := (sI (sI (sI (sI (sR (sI (sI S 151 i (-1)) 144 i a) 145 i (some (gG S 8 i8))) 146 i b) 147 i d) 148 i g) 149 i e_)) (x := f) X w hin2 hV wF_X9_34 dX9_init_45 (fun H locs w => ?_)
  exact rV X w rfl dX9_init_48 (by decide) (by decide) (⟨rfl, rfl⟩)

theorem dX11_init_0 : decode cX11_init 0 = .ok (.aload_n 0, 1) := by decide +kernel
theorem dX11_init_1 : decode cX11_init 1 = .ok (.invokespecial 1, 3) := by decide +kernel
theorem dX11_init_4 : decode cX11_init 4 = .ok (.return_, 1) := by decide +kernel
abbrev rm_m_X11_init : Room := { frames := 1, cells := 0, slots := 0, locals := 20 }
set_option maxHeartbeats 4000000 in
set_option maxRecDepth 100000 in
theorem m_X11_init {s0 : State} {l : Launch} {D : va_G} {cy : Nat → ClassId} (G : Gl s0 l D cy) (S : HS) (i : Nat) (hV : vV S 11 i)  : Ctr s0 l D cy yX11_init cX11_init 1 none rm_m_X11_init S [.ref (gG S 11 i)] (fun v S' => none = v ∧ S' = S) := by
  refine pro "CavershamShiftLaw$Out" G rfl rfl (Nat.le_of_ble_eq_true rfl) (fun p e s m below meth c ls X w hnm hl => ?_)
  have hx := X.1
  have hb := X.2.1
  have hown := X.2.2.2.1
  have hts := X.2.2.2.2.1
  have hin2 : meth.name = "<init>" := hnm
  have hl : lv_has ls 1 [(0, .ref (gG S 11 i))] := hl
  refine lv_aload_n hx hb dX11_init_0 rfl (lv_at hl 0 rfl) ?_
  refine W.objInit hx hb hown (hts _ wM_X11_1) (hts _ wIn_O_init) (hts _ wY_O_init) rfl (X.2.2.1.symm ▸ hl.1) rfl dX11_init_1 (Nat.le_of_ble_eq_true rfl) (Nat.le_of_ble_eq_true rfl) ?_
  refine W.eq (g2 := F0 m 4 ls []) rfl ?_
  exact rV X w rfl dX11_init_4 (by decide) (by decide) (⟨rfl, rfl⟩)

theorem dX14_init_0 : decode cX14_init 0 = .ok (.aload_n 0, 1) := by decide +kernel
theorem dX14_init_1 : decode cX14_init 1 = .ok (.invokespecial 1, 3) := by decide +kernel
theorem dX14_init_4 : decode cX14_init 4 = .ok (.aload_n 0, 1) := by decide +kernel
theorem dX14_init_5 : decode cX14_init 5 = .ok (.iload_n 1, 1) := by decide +kernel
theorem dX14_init_6 : decode cX14_init 6 = .ok (.putfield 7, 3) := by decide +kernel
theorem dX14_init_9 : decode cX14_init 9 = .ok (.aload_n 0, 1) := by decide +kernel
theorem dX14_init_10 : decode cX14_init 10 = .ok (.iload_n 2, 1) := by decide +kernel
theorem dX14_init_11 : decode cX14_init 11 = .ok (.putfield 13, 3) := by decide +kernel
theorem dX14_init_14 : decode cX14_init 14 = .ok (.aload_n 0, 1) := by decide +kernel
theorem dX14_init_15 : decode cX14_init 15 = .ok (.iload_n 3, 1) := by decide +kernel
theorem dX14_init_16 : decode cX14_init 16 = .ok (.putfield 16, 3) := by decide +kernel
theorem dX14_init_19 : decode cX14_init 19 = .ok (.aload_n 0, 1) := by decide +kernel
theorem dX14_init_20 : decode cX14_init 20 = .ok (.iload 4, 2) := by decide +kernel
theorem dX14_init_22 : decode cX14_init 22 = .ok (.putfield 19, 3) := by decide +kernel
theorem dX14_init_25 : decode cX14_init 25 = .ok (.aload_n 0, 1) := by decide +kernel
theorem dX14_init_26 : decode cX14_init 26 = .ok (.iload 5, 2) := by decide +kernel
theorem dX14_init_28 : decode cX14_init 28 = .ok (.putfield 22, 3) := by decide +kernel
theorem dX14_init_31 : decode cX14_init 31 = .ok (.aload_n 0, 1) := by decide +kernel
theorem dX14_init_32 : decode cX14_init 32 = .ok (.iload 6, 2) := by decide +kernel
theorem dX14_init_34 : decode cX14_init 34 = .ok (.putfield 25, 3) := by decide +kernel
theorem dX14_init_37 : decode cX14_init 37 = .ok (.return_, 1) := by decide +kernel
abbrev rm_m_X14_init : Room := { frames := 1, cells := 0, slots := 0, locals := 20 }
set_option maxHeartbeats 4000000 in
set_option maxRecDepth 100000 in
theorem m_X14_init {s0 : State} {l : Launch} {D : va_G} {cy : Nat → ClassId} (G : Gl s0 l D cy) (S : HS) (i : Nat) (hV : vV S 14 i) (a b d g e_ f : Int32) : Ctr s0 l D cy yX14_init cX14_init 7 none rm_m_X14_init S [.ref (gG S 14 i), .int a, .int b, .int d, .int g, .int e_, .int f] (fun v S' => none = v ∧ S' = (sI (sI (sI (sI (sI (sI S 229 i a) 224 i b) 225 i d) 226 i g) 227 i e_) 228 i f)) := by
  refine pro "CavershamShiftModel$Station" G rfl rfl (Nat.le_of_ble_eq_true rfl) (fun p e s m below meth c ls X w hnm hl => ?_)
  have hx := X.1
  have hb := X.2.1
  have hown := X.2.2.2.1
  have hts := X.2.2.2.2.1
  have hin2 : meth.name = "<init>" := hnm
  have hl : lv_has ls 7 [(0, .ref (gG S 14 i)), (1, .int a), (2, .int b), (3, .int d), (4, .int g), (5, .int e_), (6, .int f)] := hl
  refine lv_aload_n hx hb dX14_init_0 rfl (lv_at hl 0 rfl) ?_
  refine W.objInit hx hb hown (hts _ wM_X14_1) (hts _ wIn_O_init) (hts _ wY_O_init) rfl (X.2.2.1.symm ▸ hl.1) rfl dX14_init_1 (Nat.le_of_ble_eq_true rfl) (Nat.le_of_ble_eq_true rfl) ?_
  refine W.eq (g2 := F0 m 4 ls []) rfl ?_
  refine lv_aload_n hx hb dX14_init_4 rfl (lv_at hl 0 rfl) ?_
  refine lv_iload_n hx hb dX14_init_5 rfl (lv_at hl 1 rfl) ?_
  refine p_14_5 (S := S) (x := a) X w hV wF_X14_7 dX14_init_6 (fun H locs w => ?_)
  refine lv_aload_n hx hb dX14_init_9 rfl (lv_at hl 0 rfl) ?_
  refine lv_iload_n hx hb dX14_init_10 rfl (lv_at hl 2 rfl) ?_
  refine p_14_0 (S := (sI S 229 i a)) (x := b) X w hin2 hV wF_X14_13 dX14_init_11 (fun H locs w => ?_)
  refine lv_aload_n hx hb dX14_init_14 rfl (lv_at hl 0 rfl) ?_
  refine lv_iload_n hx hb dX14_init_15 rfl (lv_at hl 3 rfl) ?_
  refine p_14_1 (S := (sI (sI S 229 i a) 224 i b)) (x := d) X w hin2 hV wF_X14_16 dX14_init_16 (fun H locs w => ?_)
  refine lv_aload_n hx hb dX14_init_19 rfl (lv_at hl 0 rfl) ?_
  refine lv_iload hx hb dX14_init_20 (lv_at hl 4 rfl) ?_
  refine p_14_2 (S := (sI (sI (sI S 229 i a) 224 i b) 225 i d)) (x := g) X w hin2 hV wF_X14_19 dX14_init_22 (fun H locs w => ?_)
  refine lv_aload_n hx hb dX14_init_25 rfl (lv_at hl 0 rfl) ?_
  refine lv_iload hx hb dX14_init_26 (lv_at hl 5 rfl) ?_
  refine p_14_3 (S := (sI (sI (sI (sI S 229 i a) 224 i b) 225 i d) 226 i g)) (x := e_) X w hin2 hV wF_X14_22 dX14_init_28 (fun H locs w => ?_)
  refine lv_aload_n hx hb dX14_init_31 rfl (lv_at hl 0 rfl) ?_
  refine lv_iload hx hb dX14_init_32 (lv_at hl 6 rfl) ?_
  refine p_14_4 (S := (sI (sI (sI (sI (sI S 229 i a) 224 i b) 225 i d) 226 i g) 227 i e_)) (x := f) X w hin2 hV wF_X14_25 dX14_init_34 (fun H locs w => ?_)
  exact rV X w rfl dX14_init_37 (by decide) (by decide) (⟨rfl, rfl⟩)

theorem dX15_init_0 : decode cX15_init 0 = .ok (.aload_n 0, 1) := by decide +kernel
theorem dX15_init_1 : decode cX15_init 1 = .ok (.invokespecial 3, 3) := by decide +kernel
theorem dX15_init_4 : decode cX15_init 4 = .ok (.aload_n 0, 1) := by decide +kernel
theorem dX15_init_5 : decode cX15_init 5 = .ok (.iconst (-1), 1) := by decide +kernel
theorem dX15_init_6 : decode cX15_init 6 = .ok (.putfield 9, 3) := by decide +kernel
theorem dX15_init_9 : decode cX15_init 9 = .ok (.aload_n 0, 1) := by decide +kernel
theorem dX15_init_10 : decode cX15_init 10 = .ok (.iconst (-1), 1) := by decide +kernel
theorem dX15_init_11 : decode cX15_init 11 = .ok (.putfield 15, 3) := by decide +kernel
theorem dX15_init_14 : decode cX15_init 14 = .ok (.aload_n 0, 1) := by decide +kernel
theorem dX15_init_15 : decode cX15_init 15 = .ok (.iconst (-1), 1) := by decide +kernel
theorem dX15_init_16 : decode cX15_init 16 = .ok (.putfield 18, 3) := by decide +kernel
theorem dX15_init_19 : decode cX15_init 19 = .ok (.aload_n 0, 1) := by decide +kernel
theorem dX15_init_20 : decode cX15_init 20 = .ok (.iload_n 1, 1) := by decide +kernel
theorem dX15_init_21 : decode cX15_init 21 = .ok (.putfield 21, 3) := by decide +kernel
theorem dX15_init_24 : decode cX15_init 24 = .ok (.aload_n 0, 1) := by decide +kernel
theorem dX15_init_25 : decode cX15_init 25 = .ok (.iload_n 2, 1) := by decide +kernel
theorem dX15_init_26 : decode cX15_init 26 = .ok (.putfield 24, 3) := by decide +kernel
theorem dX15_init_29 : decode cX15_init 29 = .ok (.aload_n 0, 1) := by decide +kernel
theorem dX15_init_30 : decode cX15_init 30 = .ok (.iload_n 3, 1) := by decide +kernel
theorem dX15_init_31 : decode cX15_init 31 = .ok (.putfield 27, 3) := by decide +kernel
theorem dX15_init_34 : decode cX15_init 34 = .ok (.aload_n 0, 1) := by decide +kernel
theorem dX15_init_35 : decode cX15_init 35 = .ok (.iload 4, 2) := by decide +kernel
theorem dX15_init_37 : decode cX15_init 37 = .ok (.putfield 30, 3) := by decide +kernel
theorem dX15_init_40 : decode cX15_init 40 = .ok (.aload_n 0, 1) := by decide +kernel
theorem dX15_init_41 : decode cX15_init 41 = .ok (.iload 5, 2) := by decide +kernel
theorem dX15_init_43 : decode cX15_init 43 = .ok (.putfield 33, 3) := by decide +kernel
theorem dX15_init_46 : decode cX15_init 46 = .ok (.aload_n 0, 1) := by decide +kernel
theorem dX15_init_47 : decode cX15_init 47 = .ok (.iload 6, 2) := by decide +kernel
theorem dX15_init_49 : decode cX15_init 49 = .ok (.putfield 36, 3) := by decide +kernel
theorem dX15_init_52 : decode cX15_init 52 = .ok (.return_, 1) := by decide +kernel
abbrev rm_m_X15_init : Room := { frames := 1, cells := 0, slots := 0, locals := 20 }
set_option maxHeartbeats 4000000 in
set_option maxRecDepth 100000 in
theorem m_X15_init {s0 : State} {l : Launch} {D : va_G} {cy : Nat → ClassId} (G : Gl s0 l D cy) (S : HS) (i : Nat) (hV : vV S 15 i) (a b d g e_ f : Int32) : Ctr s0 l D cy yX15_init cX15_init 7 none rm_m_X15_init S [.ref (gG S 15 i), .int a, .int b, .int d, .int g, .int e_, .int f] (fun v S' => none = v ∧ S' = (sI (sI (sI (sI (sI (sI (sI (sI (sI S 246 i (-1)) 247 i (-1)) 251 i (-1)) 240 i a) 241 i b) 242 i d) 243 i g) 244 i e_) 245 i f)) := by
  refine pro "CavershamShiftModel$Talk" G rfl rfl (Nat.le_of_ble_eq_true rfl) (fun p e s m below meth c ls X w hnm hl => ?_)
  have hx := X.1
  have hb := X.2.1
  have hown := X.2.2.2.1
  have hts := X.2.2.2.2.1
  have hin2 : meth.name = "<init>" := hnm
  have hl : lv_has ls 7 [(0, .ref (gG S 15 i)), (1, .int a), (2, .int b), (3, .int d), (4, .int g), (5, .int e_), (6, .int f)] := hl
  refine lv_aload_n hx hb dX15_init_0 rfl (lv_at hl 0 rfl) ?_
  refine W.objInit hx hb hown (hts _ wM_X15_3) (hts _ wIn_O_init) (hts _ wY_O_init) rfl (X.2.2.1.symm ▸ hl.1) rfl dX15_init_1 (Nat.le_of_ble_eq_true rfl) (Nat.le_of_ble_eq_true rfl) ?_
  refine W.eq (g2 := F0 m 4 ls []) rfl ?_
  refine lv_aload_n hx hb dX15_init_4 rfl (lv_at hl 0 rfl) ?_
  refine lv_iconst (v := (-1)) hx hb dX15_init_5 (by decide) ?_
  refine p_15_6 (S := S) (x := (-1)) X w hV wF_X15_9 dX15_init_6 (fun H locs w => ?_)
  refine lv_aload_n hx hb dX15_init_9 rfl (lv_at hl 0 rfl) ?_
  refine lv_iconst (v := (-1)) hx hb dX15_init_10 (by decide) ?_
  refine p_15_7 (S := (sI S 246 i (-1))) (x := (-1)) X w hV wF_X15_15 dX15_init_11 (fun H locs w => ?_)
  refine lv_aload_n hx hb dX15_init_14 rfl (lv_at hl 0 rfl) ?_
  refine lv_iconst (v := (-1)) hx hb dX15_init_15 (by decide) ?_
  refine p_15_11 (S := (sI (sI S 246 i (-1)) 247 i (-1))) (x := (-1)) X w hV wF_X15_18 dX15_init_16 (fun H locs w => ?_)
  refine lv_aload_n hx hb dX15_init_19 rfl (lv_at hl 0 rfl) ?_
  refine lv_iload_n hx hb dX15_init_20 rfl (lv_at hl 1 rfl) ?_
  refine p_15_0 (S := (sI (sI (sI S 246 i (-1)) 247 i (-1)) 251 i (-1))) (x := a) X w hin2 hV wF_X15_21 dX15_init_21 (fun H locs w => ?_)
  refine lv_aload_n hx hb dX15_init_24 rfl (lv_at hl 0 rfl) ?_
  refine lv_iload_n hx hb dX15_init_25 rfl (lv_at hl 2 rfl) ?_
  refine p_15_1 (S := (sI (sI (sI (sI S 246 i (-1)) 247 i (-1)) 251 i (-1)) 240 i a)) (x := b) X w hin2 hV wF_X15_24 dX15_init_26 (fun H locs w => ?_)
  refine lv_aload_n hx hb dX15_init_29 rfl (lv_at hl 0 rfl) ?_
  refine lv_iload_n hx hb dX15_init_30 rfl (lv_at hl 3 rfl) ?_
  refine p_15_2 (S := (sI (sI (sI (sI (sI S 246 i (-1)) 247 i (-1)) 251 i (-1)) 240 i a) 241 i b)) (x := d) X w hin2 hV wF_X15_27 dX15_init_31 (fun H locs w => ?_)
  refine lv_aload_n hx hb dX15_init_34 rfl (lv_at hl 0 rfl) ?_
  refine lv_iload hx hb dX15_init_35 (lv_at hl 4 rfl) ?_
  refine p_15_3 (S := (sI (sI (sI (sI (sI (sI S 246 i (-1)) 247 i (-1)) 251 i (-1)) 240 i a) 241 i b) 242 i d)) (x := g) X w hin2 hV wF_X15_30 dX15_init_37 (fun H locs w => ?_)
  refine lv_aload_n hx hb dX15_init_40 rfl (lv_at hl 0 rfl) ?_
  refine lv_iload hx hb dX15_init_41 (lv_at hl 5 rfl) ?_
  refine p_15_4 (S := (sI (sI (sI (sI (sI (sI (sI S 246 i (-1)) 247 i (-1)) 251 i (-1)) 240 i a) 241 i b) 242 i d) 243 i g)) (x := e_) X w hin2 hV wF_X15_33 dX15_init_43 (fun H locs w => ?_)
  refine lv_aload_n hx hb dX15_init_46 rfl (lv_at hl 0 rfl) ?_
  refine lv_iload hx hb dX15_init_47 (lv_at hl 6 rfl) ?_
  refine p_15_5 (S := (sI (sI (sI (sI (sI (sI (sI (sI S 246 i (-1)) 247 i (-1)) 251 i (-1)) 240 i a) 241 i b) 242 i d) 243 i g) 244 i e_)) (x := f) X w hin2 hV wF_X15_36 dX15_init_49 (fun H locs w => ?_)
  exact rV X w rfl dX15_init_52 (by decide) (by decide) (⟨rfl, rfl⟩)

