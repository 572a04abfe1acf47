/-! THE CLAIM OUT OF ONE WALK OF THE LAW'S BODY. Your part is whole_start (and what it stands on); all else here is the same for every law, but numbers. -/
def R_law : String := "CavershamShiftLaw"
def lw_P (b : Addr) (xs : List Int32) (args : Array Value) (s : State) : Prop := args = #[.ref b] ∧ s.IntsAt b xs ∧ xs.length ≤ 3584 ∧ (Jvm.Cond.and given_1 narrow_1).before args s = true
/-- what a walk over the start with the record d0 says of its end, said of the start itself -/
theorem lw_closed {s t : State} {o : Outcome} {d0 : Drawn} {L : List Loc} {k n : Nat} (hd0 : s.drawn.sameBut d0 lw_cs) (hv : ∃ v, o = .returned v) (hW : (s.setDrawn d0).WarmedH t.vm) (hs : (s.setDrawn d0).sameButNew ({ t with vm := s.vm } : State) L k n) : State.butDraws s t lw_cs (fun t1 => Framed s o t1 L k n) := by
  have h2 : t.drawn = d0 := congrArg State.drawn hs.1
  refine ⟨⟨hv, hW, State.sameButNew.setDrawn hs s.drawn⟩, ?_, by decide⟩
  rw [h2]
  exact hd0
def lw_Q (_ : Array Value) (s : State) (o : Outcome) (t : State) : Prop := o = .returned (some (.int 1)) ∧ State.butDraws s t lw_cs (fun t1 => Framed s o t1 [] 601024 7293034)
def lw_Z (below : List Frame) (a : Array Value) (s : State) : State → Prop := fun t => ∃ o, t.status = .running ∧ Ended t below o ∧ lw_Q a s o t
/-- the law's own end, with 1 on the stack, nothing written that was there before, its room as the claim has it; d0: the record of draws at this point (at the entry s.drawn: begin with 'refine W.base ?_' and 'have hd0 := Drawn.sameBut.refl s.drawn lw_cs') -/
theorem lw_ret {p : Program} {l : Launch} {e : Env} {s : State} {m : MethodId} {below : List Frame} {meth : Method} {c : Code} {b : Nat} {d0 : Drawn} (hd0 : s.drawn.sameBut d0 lw_cs) (hx : p.tables.exec = Jvm.exec) (hb : c.code = code) (hr : meth.sig.returnType = ret) (hlocks : meth.locks = false) {pc : Nat} {H : Heap} {ls : Array Slot} (hdg : decode code pc = .ok (.ireturn, 1)) : W p l e room_1 (s.setDrawn d0) m #[Value.ref b] below meth c H [] 601024 7293034 (lw_Z below #[Value.ref b] s) (F0 m pc ls [.int 1]) := by
  intro T hT X
  obtain ⟨fs, hret, hrun, hended, hW, hframe⟩ := X.leave (v := some (.int 1)) (hlocks := hlocks) (fun h => by rw [hr] at h; cases h)
  have hmeth' : T.vm.method? m = some meth := X.method'
  refine ⟨T.setFrames fs, ?_, .returned (some (.int 1)), hrun, hended, rfl, lw_closed hd0 ⟨_, rfl⟩ hW hframe⟩
  jvm_step X.here [X.here.top, hx, hb, hdg, hmeth', hr, ret, narrow_b1]
  (try refine ⟨rfl, ?_⟩); (try refine ⟨rfl, ?_⟩)
  first | (intro acts; rw [hret _ acts rfl rfl rfl]) | rw [hret _ _ rfl rfl rfl]
  exact Steps.refl _
/-- what holds at the law's entry: the machine, the code, the tables' words (any of lw_tbl by 'hts w (by decide +kernel)'), the script of L ints xs at the cell b, what the Statement gives of the start (any of its parts by flat_of_before) -/
def lw_At (p : Program) (s : State) (m : MethodId) (meth : Method) (c : Code) (b L : Nat) (xs : Nat → Int32) : Prop :=
  p.tables.exec = Jvm.exec ∧ c.code = code ∧ meth.sig.returnType = ret ∧ c.maxLocals = 8 ∧ s.vm.findClass R_law = some m.cls ∧ (∀ w ∈ lw_tbl, w.before #[Value.ref b] s = true) ∧ va_X b L xs s s.heap ∧ b < s.heap.size ∧ meth.locks = false ∧ (Jvm.Cond.and given_1 narrow_1).before #[Value.ref b] s = true

theorem dL_law_0 : decode cL_law 0 = .ok (.new 8, 3) := by decide +kernel
theorem dL_law_3 : decode cL_law 3 = .ok (.dup, 1) := by decide +kernel
theorem dL_law_4 : decode cL_law 4 = .ok (.invokespecial 127, 3) := by decide +kernel
theorem dL_law_7 : decode cL_law 7 = .ok (.astore_n 1, 1) := by decide +kernel
theorem dL_law_8 : decode cL_law 8 = .ok (.new 128, 3) := by decide +kernel
theorem dL_law_11 : decode cL_law 11 = .ok (.dup, 1) := by decide +kernel
theorem dL_law_12 : decode cL_law 12 = .ok (.invokespecial 130, 3) := by decide +kernel
theorem dL_law_15 : decode cL_law 15 = .ok (.astore_n 2, 1) := by decide +kernel
theorem dL_law_16 : decode cL_law 16 = .ok (.new 14, 3) := by decide +kernel
theorem dL_law_19 : decode cL_law 19 = .ok (.dup, 1) := by decide +kernel
theorem dL_law_20 : decode cL_law 20 = .ok (.invokespecial 131, 3) := by decide +kernel
theorem dL_law_23 : decode cL_law 23 = .ok (.astore_n 3, 1) := by decide +kernel
theorem dL_law_24 : decode cL_law 24 = .ok (.iconst 0, 1) := by decide +kernel
theorem dL_law_25 : decode cL_law 25 = .ok (.istore 4, 2) := by decide +kernel
theorem dL_law_1591 : decode cL_law 1591 = .ok (.iconst 1, 1) := by decide +kernel
theorem dL_law_1592 : decode cL_law 1592 = .ok (.ireturn, 1) := by decide +kernel

abbrev hs0 : HS := (fun _ _ => False, fun _ _ => 0, fun _ _ => 0, fun _ _ => none, fun _ _ => 0, fun _ _ _ => 0, fun _ _ _ => none, fun _ => 0, fun _ => 0)
set_option maxHeartbeats 4000000 in
set_option maxRecDepth 100000 in
theorem whole_start {p : Program} {e : Env} {s : State} {m : MethodId} {below : List Frame} {meth : Method} {c : Code} (l : Launch) (hflags : l.flags = flags0) {b L : Nat} {xs : Nat → Int32} (hL : L ≤ 3584) (C0 : lw_At p s m meth c b L xs) : W p l e room_1 s m #[Value.ref b] below meth c s.heap [] 0 0 (lw_Z below #[Value.ref b] s) (entryFrame m ([Value.ref b] : List Value).toArray 8) := by
  obtain ⟨hx, hb, hr, hml, hown, hts, hX, hbl, hlocks, hgv⟩ := id C0
  have hst : l.stackTraces = false := by unfold Launch.stackTraces; rw [hflags]; decide +kernel
  have htA : ∀ w ∈ ALLW, w.before #[Value.ref b] s = true := fun w hw => hts w (List.mem_filter.mp hw).1
  obtain ⟨cy, hcy⟩ := arr_known hts
  obtain ⟨D, hD⟩ := cls_known htA
  have hK : va_K D CL (TY cy) s := ⟨hD, hcy⟩
  have G : Gl s l D cy := ⟨hK, hst, b, hts, hgv⟩
  have hBs : Bs s s := ⟨Vm.Alike.refl _, Nat.le_refl _, fun _ _ => rfl, fun w hw => nst_of (List.mem_filter.mp hw).2 (hts w (List.mem_filter.mp hw).1), str_known hts⟩
  have X : Cx s l D cy p s m #[Value.ref b] meth c cL_law 8 "CavershamShiftLaw" ret := ⟨hx, hb, hml, hown, htA, hr, hlocks, hK, hBs, G⟩
  have w : Wd s D cy hs0 s.heap s.heap [] := ⟨⟨⟨[], fun k q h => by simp at h, ⟨fun i j p q h => by simp at h, fun k q h => by simp at h⟩, fun t i h => h.elim⟩, fun t i t' i' h => h.elim⟩, va_S.rf⟩
  have hl := lv_entry ([.ref b]) (n := 8) (Nat.le_of_ble_eq_true rfl)
  rw [lg_entry_eq]
  generalize (lg_sl ([.ref b]) ++ List.replicate (8 - (lg_sl ([.ref b])).length) Slot.unset).toArray = ls at hl ⊢
  have hl : lv_has ls 8 [(0, .ref b)] := hl
  refine nwO (S := hs0) (t := 10) (n := 6) X w 0 (fun v => v) (Or.inl (by decide)) (by decide) rfl in_10 tyX10 tyX10_ok (by decide +kernel) wC_L_8 wNew_X10 wI_X10 dL_law_0 rfl (Nat.le_of_ble_eq_true rfl) (Nat.le_of_ble_eq_true rfl) (fun q1 S2 H hS2 w => ?_)
  subst hS2
  refine lv_dup hx hb dL_law_3 rfl ?_
  refine cI (S := sNew hs0 10 0 q1) (nA := 0) (As := []) (rest := [.ref (gG (sNew hs0 10 0 q1) 10 0)]) X w hl (m_X10_init G (sNew hs0 10 0 q1) (Or.inr ⟨rfl, rfl⟩) (fun t i h1 h2 v => v.elim (fun y => y) (fun y => h2 y.1)) (fun k v => v.elim (fun y => y) (fun y => absurd y.1 (by decide)))) wY_X10_init wM_L_127 wIn_X10_init wI_X10 rfl (by decide +kernel) rfl rfl dL_law_4 ⟨Nat.le_of_ble_eq_true rfl, Nat.le_of_ble_eq_true rfl⟩ (Nat.le_of_ble_eq_true rfl) (⟨Nat.le_of_ble_eq_true rfl, Nat.le_of_ble_eq_true rfl⟩) (fun v S1 H locs hp w => ?_)
  obtain ⟨rfl, hC1, hf1, k1, e165, e70, e164, e67, e68, e69⟩ := hp
  have hC1 : CiO (eaOf s) S1 := hC1
  have vS1 : ∀ t i, clsT t i = false → ¬ t = 10 → ¬ vV S1 t i := fun t i h1 h2 v => by
    rw [k1.V h1] at v
    exact v.elim (fun y => y) (fun y => h2 y.1)
  obtain ⟨ax, eax⟩ : ∃ ax, ax = gG (sNew hs0 10 0 q1) 10 0 := ⟨_, rfl⟩
  have g1 : gG S1 10 0 = ax := by rw [eax]; exact k1.G (t := 10) (i := 0) rfl
  rw [← eax]
  refine lv_astore_n (lv' := [(1, .ref ax), (0, .ref b)]) hx hb dL_law_7 rfl hl (by decide) rfl (fun ls hl => ?_)
  refine nwO (S := S1) (t := 16) (n := 14) X w 0 (vS1 16 0 rfl (by decide)) (Or.inl (by decide)) (by decide) rfl in_16 tyX16 tyX16_ok (by decide +kernel) wC_L_128 wNew_X16 wI_X16 dL_law_8 rfl (Nat.le_of_ble_eq_true rfl) (Nat.le_of_ble_eq_true rfl) (fun q2 S2 H hS2 w => ?_)
  subst hS2
  refine lv_dup hx hb dL_law_11 rfl ?_
  refine cI (S := sNew S1 16 0 q2) (nA := 0) (As := []) (rest := [.ref (gG (sNew S1 16 0 q2) 16 0)]) X w hl (m_X16_init G (sNew S1 16 0 q2) (Or.inr ⟨rfl, rfl⟩) (fun t i h1 h2 v => v.elim (fun y => vS1 t i (ref_cls h1).1 (ref_cls h1).2.1 y) (fun y => h2 y.1)) (fun k v => v.elim (fun y => vS1 31 k rfl (by decide) y) (fun y => absurd y.1 (by decide))) (fun f z => nwI_0 z)) wY_X16_init wM_L_130 wIn_X16_init wI_X16 rfl (by decide +kernel) rfl rfl dL_law_12 ⟨Nat.le_of_ble_eq_true rfl, Nat.le_of_ble_eq_true rfl⟩ (Nat.le_of_ble_eq_true rfl) (⟨Nat.le_of_ble_eq_true rfl, Nat.le_of_ble_eq_true rfl⟩) (fun v S2 H locs hp w => ?_)
  obtain ⟨rfl, hR2, ha2, k2, e260, e257, e259, e258, e261⟩ := hp
  have hR2 : RiO s S2 := hR2
  obtain ⟨am, eam⟩ : ∃ am, am = gG (sNew S1 16 0 q2) 16 0 := ⟨_, rfl⟩
  have g2 : gG S2 16 0 = am := by rw [eam]; exact k2.G (t := 16) (i := 0) rfl
  have g21 : gG S2 10 0 = ax := (k2.G (t := 10) (i := 0) rfl).trans ((gNew_n (by omega)).trans g1)
  have hC2 : CiO (eaOf s) S2 := hC1.new16.keepI k2
  have e32 : ∀ r, mA S2 32 r = mA S1 32 r := fun r => (k2.1 32 r rfl).2.2.2.2
  have e165 : mI S2 165 0 = 0 := (k2.I (f := 165) (i := 0) rfl).trans ((nwI_n (by omega)).trans e165)
  have e164 : mI S2 164 0 = 0 := (k2.I (f := 164) (i := 0) rfl).trans ((nwI_n (by omega)).trans e164)
  have e67 : mI S2 67 0 = 0 := (k2.I (f := 67) (i := 0) rfl).trans ((nwI_n (by omega)).trans e67)
  have e68 : mI S2 68 0 = 0 := (k2.I (f := 68) (i := 0) rfl).trans ((nwI_n (by omega)).trans e68)
  have e69 : mI S2 69 0 = 600 := (k2.I (f := 69) (i := 0) rfl).trans ((nwI_n (by omega)).trans e69)
  have e70 : mI S2 70 0 = 0 := (k2.I (f := 70) (i := 0) rfl).trans ((nwI_n (by omega)).trans e70)
  have vS2 : ∀ t i, clsT t i = false → refT t i = false → ¬ t = 10 → ¬ t = 16 → ¬ vV S2 t i := fun t i h1 h2 h3 h4 v => by
    rw [k2.V h2] at v
    exact v.elim (vS1 t i h1 h3) (fun y => h4 y.1)
  rw [← eam]
  refine lv_astore_n (lv' := [(2, .ref am), (1, .ref ax), (0, .ref b)]) hx hb dL_law_15 rfl hl (by decide) rfl (fun ls hl => ?_)
  refine nwO (S := S2) (t := 11) (n := 3) X w 0 (vS2 11 0 rfl rfl (by decide) (by decide)) (Or.inr (fun j => vS2 11 j rfl rfl (by decide) (by decide))) (by decide) rfl in_11 tyX11 tyX11_ok (by decide +kernel) wC_L_14 wNew_X11 wI_X11 dL_law_16 rfl (Nat.le_of_ble_eq_true rfl) (Nat.le_of_ble_eq_true rfl) (fun q3 S3 H hS3 w => ?_)
  subst hS3
  refine lv_dup hx hb dL_law_19 rfl ?_
  refine cIN (S := sNew S2 11 0 q3) (nA := 0) (As := []) (rest := [.ref (gG (sNew S2 11 0 q3) 11 0)]) X w hl (m_X11_init G (sNew S2 11 0 q3) 0 (Or.inr ⟨rfl, rfl⟩)) wY_X11_init wMN_L_131 wIn_X11_init wI_X11 rfl (by decide +kernel) rfl rfl dL_law_20 ⟨Nat.le_of_ble_eq_true rfl, Nat.le_of_ble_eq_true rfl⟩ (Nat.le_of_ble_eq_true rfl) (⟨Nat.le_of_ble_eq_true rfl, Nat.le_of_ble_eq_true rfl⟩) (fun v S3 H locs hp w => ?_)
  obtain ⟨rfl, rfl⟩ := hp
  refine lv_astore_n (lv' := [(3, .ref (gG (sNew S2 11 0 q3) 11 0)), (2, .ref am), (1, .ref ax), (0, .ref b)]) hx hb dL_law_23 rfl hl (by decide) rfl (fun ls hl => ?_)
  refine lv_iconst (v := nI (7 * 0)) hx hb dL_law_24 (by decide) ?_
  refine lv_istore (lv' := [(4, .int (nI (7 * 0))), (3, .ref (gG (sNew S2 11 0 q3) 11 0)), (2, .ref am), (1, .ref ax), (0, .ref b)]) hx hb dL_law_25 hl (by decide) rfl (fun ls hl => ?_)
  have hL2 : ∀ f, f / 16 = 11 → mL S2 f = 0 ∧ mD S2 f = 0 := fun f z => by
    have a1 := k1.2.2.2 f z
    have a2 := k2.2.2.2 f z
    have n10 : ¬ f / 16 = 10 := by omega
    have n16 : ¬ f / 16 = 16 := by omega
    refine ⟨a2.1.trans ((show (if f / 16 = 16 then 0 else mL S1 f) = mL S1 f from if_neg n16).trans (a1.1.trans ?_)), a2.2.trans ((show (if f / 16 = 16 then 0 else mD S1 f) = mD S1 f from if_neg n16).trans (a1.2.trans ?_))⟩
    · exact (show (if f / 16 = 10 then 0 else mL hs0 f) = 0 from if_neg n10)
    · exact (show (if f / 16 = 10 then 0 else mD hs0 f) = 0 from if_neg n10)
  have hC3 : CiO (eaOf s) (sNew S2 11 0 q3) := hC2.new11 hL2
  obtain ⟨hR3, hQ3, hZ3⟩ := hR2.new11 (q := q3) hL2
  have hA3 : RC (sNew S2 11 0 q3) S2 0 0 0 := by
    refine ⟨fun j hj => absurd hj (Nat.not_lt_zero j), fun j hj => absurd hj (Nat.not_lt_zero j), fun x k hx hk => ?_, fun j hj => absurd hj (Nat.not_lt_zero j), ?_, fun x k l hx hk hl hn z => (ha2 x k hx hk).2⟩
    · rw [show mA (sNew S2 11 0 q3) 32 0 = mA S1 32 0 from e32 0, show mA (sNew S2 11 0 q3) 32 1 = mA S1 32 1 from e32 1, (hf1 (x * 3 + k) (by omega)).1, (hf1 (x * 3 + k) (by omega)).2, (ha2 x k hx hk).1, (ha2 x k hx hk).2]
      exact ⟨rfl, rfl⟩
    · rw [show mI (sNew S2 11 0 q3) 70 0 = mI S2 70 0 from nwI_n (by omega), e70, e259]
  have hK3 : RK (sNew S2 11 0 q3) (sQ S2 0 (fun _ => 0)) 0 0 0 0 0 0 := by
    have z0 : ∀ (P : Nat → Prop), ∀ j, j < 0 → P j := fun P j hj => absurd hj (Nat.not_lt_zero j)
    refine ⟨hA3, ⟨fun x k hx hk => Or.inl (ha2 x k hx hk), z0 _, z0 _, z0 _⟩, z0 _, z0 _, z0 _, z0 _, ?_, ?_, ⟨0, ?_, rfl, z0 _⟩, z0 _, z0 _, z0 _, ⟨e261, z0 _⟩, rfl, z0 _, z0 _, ⟨600, Nat.le_refl _, e258⟩, z0 _⟩
    · exact (nwI_n (by omega) : mI (sNew S2 11 0 q3) 69 0 = mI S2 69 0).trans (e69.trans e258.symm)
    · exact (nwI_n (by omega) : mI (sNew S2 11 0 q3) 68 0 = mI S2 68 0).trans (e68.trans e261.symm)
    · exact (nwI_n (by omega) : mI (sNew S2 11 0 q3) 67 0 = mI S2 67 0).trans e67
  have hF3 : RF s (sNew S2 11 0 q3) (sQ S2 0 (fun _ => 0)) 0 0 := ⟨fun f c j => nwI_n (fun y => by have z := inF_mem c; omega), fun t c j => (up2_n (fun y => by rw [y.1] at c; exact absurd c (by decide))).symm, rfl, fun i hi => absurd hi (Nat.not_lt_zero i)⟩
  have hLI : LI s (sNew S2 11 0 q3) 0 (0, 0, 0, 0, 0, 0, sQ S2 0 (fun _ => 0)) ax am (gG (sNew S2 11 0 q3) 11 0) := by
    refine ⟨⟨0, hC3.1, hC3.2, hK3, ?_, Nat.zero_le _, e257, ⟨fun i hi => absurd hi (Nat.not_lt_zero i), fun i j hi => absurd hi (Nat.not_lt_zero i), rfl, fun k hk => absurd hk (Nat.not_lt_zero k)⟩⟩, ⟨0, hR3, hQ3, hZ3, hF3, ?_⟩, ?_, ⟨Or.inr ⟨rfl, rfl⟩, fun j hj => hj.elim (fun y => absurd y (vS2 11 j rfl rfl (by decide) (by decide))) (fun y => y.2)⟩, fun t j hz v => ?_, ⟨rfl, Nat.zero_le _⟩, (gNew_n (by omega)).trans g21, (gNew_n (by omega)).trans g2, rfl⟩
    · rw [show mI (sNew S2 11 0 q3) 164 0 = mI S2 164 0 from nwI_n (by omega), e164]; rfl
    · rw [show mI (sNew S2 11 0 q3) 257 0 = mI S2 257 0 from nwI_n (by omega), e257]; rfl
    · rw [show mI (sNew S2 11 0 q3) 165 0 = mI S2 165 0 from nwI_n (by omega), show mI (sNew S2 11 0 q3) 260 0 = mI S2 260 0 from nwI_n (by omega), e165, e260]
    · have n10 : ¬ t = 10 := fun y => by rw [y] at hz; exact absurd (show false = true from hz) (by decide)
      have n16 : ¬ t = 16 := fun y => by rw [y] at hz; exact absurd (show false = true from hz) (by decide)
      exact v.elim (vS2 t j (zV_c hz) (zV_r hz) n10 n16) (fun y => by rw [y.1] at hz; exact absurd (show false = true from hz) (by decide))
  refine W.widen (k := cLw 0 0 0) (n := sLw 0 0 0) (by show 74 ≤ _; unfold cLw; omega) (by show 488 ≤ _; unfold sLw; omega) ?_
  refine law_loop G X hX hbl hL (fun H locs ls hS => ?_) (L + 1) 0 0 _ _ H locs _ (by omega) (by omega) hLI w (lv_sub hl [4, 3, 2, 1, 0] rfl)
  refine va_forget (fun q hq => hS.2.2 q hq) ?_
  refine lv_iconst (v := 1) hx hb dL_law_1591 (by decide) ?_
  refine W.base ?_
  exact lw_ret (Drawn.sameBut.refl s.drawn lw_cs) hx hb hr hlocks dL_law_1592

set_option maxHeartbeats 4000000 in
theorem lw_walk (l : Launch) (hflags : l.flags = flags0) (b : Addr) (xs : List Int32) : MetFree l x (headSpec (Jvm.Cond.code x code maxLocals ret :: tables_1) room_1) (lw_P b xs) (fun _ _ _ _ _ => True) lw_Q := by
  refine MetFree.of_bodyS (code := code) (maxLocals := maxLocals) (ret := ret) (by decide) ?_ ?_
  · intro args s m h hn
    obtain ⟨meth, c, h1, h2, h3, h4, h5, h6, -, -⟩ := Cond.code_spec hn (atoms_spec (ws := Jvm.Cond.code x code maxLocals ret :: tables_1) h _ List.mem_cons_self)
    exact ⟨meth, c, h1, h2, h3, h4, h5, h6⟩
  · intro p e s m args below meth c s₁ B hml0 hP _
    obtain ⟨rfl, hx, hbd, hgv⟩ := hP
    obtain ⟨scr, harrAt, hlist, hof, hsmall⟩ := hx
    obtain ⟨hcb, hkn, -, -⟩ := State.arrayAt?_spec harrAt
    have hown : s.vm.findClass R_law = some m.cls := findClass_of_methodNamed B.named
    have hts0 : ∀ c ∈ (Jvm.Cond.code x code maxLocals ret :: tables_1), c.before #[Value.ref b] s = true := atoms_spec (ws := Jvm.Cond.code x code maxLocals ret :: tables_1) B.pre
    have hts : ∀ w ∈ lw_tbl, w.before #[Value.ref b] s = true := k2_hts_sels lw_privs (fun w hw => hts0 w (List.mem_cons_of_mem _ hw)) lw_privs_ok
    have hml : c.maxLocals = 8 := B.maxLocals_eq (hts0 _ List.mem_cons_self)
    have X₀ : Stand p l e room_1 s m #[Value.ref b] below meth c s₁ [] 0 0 := Stand.of_body B
    have hh0 : s₁.heap = s.heap := by rw [B.state]; rfl
    have hsz : scr.slots.size = xs.length := by rw [← Array.length_toList, hlist, List.length_map]
    have hval : ∀ j : Nat, j < xs.length → scr.slots[j]? = some (.int (xs.getD j 0)) := fun j hj => by
      rw [← Array.getElem?_toList, hlist]
      simp [hj]
    have hbl : b < s.heap.size := (Array.getElem?_eq_some_iff.mp hcb).1
    have hX : va_X b xs.length (fun j => xs.getD j 0) s s.heap := ⟨scr, hcb, hof, hkn, hsz, hval⟩
    have K : W p l e room_1 s m #[Value.ref b] below meth c s₁.heap [] 0 0 (lw_Z below #[Value.ref b] s) (entryFrame m ([Value.ref b] : List Value).toArray 8) := by
      rw [hh0]
      exact whole_start l hflags hbd ⟨B.exec, B.bytes, B.returns, hml, hown, hts, hX, hbl, B.notSynchronized, hgv⟩
    obtain ⟨t, a1, o, b1, b2, b3⟩ := K s₁ rfl X₀
    exact ⟨t, o, a1, b1, b2, b3⟩
theorem lw_pre_spec {args : Array Value} {s : State} (h : (Jvm.Cond.and given_1 narrow_1).before args s = true) (hr : rest_1_c.before args s = true) : ∃ (b : Addr) (xs : List Int32), lw_P b xs args s := by
  have hs := flat_of_before _ h
  have hq := flat_of_before _ hr
  have hc : (Cond.count 1).before args s = true := hs _ (by decide +kernel)
  have harr : (Cond.arrayOf (.arg 0) .int).before args s = true := hs _ (by decide +kernel)
  have hle : (Cond.le (.length (.arg 0)) (.int 3584)).before args s = true := hs _ (by decide +kernel)
  have hlen : (Cond.isInt (.length (.arg 0))).before args s = true := hq _ (by decide +kernel)
  have hall : (Cond.all (.arg 0) (.isInt (.elem (.arg 0) (.index 0)))).before args s = true := hq _ (by decide +kernel)
  obtain ⟨b, xs, hb, hx⟩ := State.ints_of_pre rfl harr hlen hall
  have hsm : xs.length < 2 ^ 31 := hx.choose_spec.2.2.2
  have hev : (Term.length (.arg 0)).eval args s none [] s = some (.int xs.length.toInt32) := hx.length_eval hb
  have hv := Cond.le_ints hev (show (Term.int 3584).eval args s none [] s = some (.int 3584) from rfl)
  have hd : xs.length.toInt32 ≤ 3584 := by
    simpa [Cond.before, Cond.holds, hv] using hle
  have hN : xs.length ≤ 3584 := (Int32.ofNat_le_ofNat hsm (by decide)).mp (show Int32.ofNat xs.length ≤ Int32.ofNat 3584 from hd)
  exact ⟨b, xs, Cond.one_arg hc (show args[0]? = some (.ref b) from hb), hx, hN, h⟩
theorem lw_comes (l : Launch) (hflags : l.flags = flags0) : Comes l x (Jvm.Cond.code x code maxLocals ret :: tables_1) room_1 (fun tb e args s => Calls_1 tb e args s ∧ rest_1 tb e args s ∧ Pre_1 tb e args s)
    (fun _ _ args s o t => lw_Q args s o t) := by
  intro p e ha hc hk s m args below hf hfit hheap happ hpre
  obtain ⟨b, xs, hP⟩ := lw_pre_spec hpre.2.2 hpre.2.1
  obtain ⟨k, o, h1, h2, h3, hQ⟩ := lw_walk l hflags b xs p e ha hc hk s m args below hf ((Spec.applies_iff_loose hf).mp happ).1 hP trivial
  exact ⟨k, o, h1, h2, h3, hQ⟩
theorem lw_frame {s t : State} {o : Outcome} {args : Array Value} (h : State.butDraws s t lw_cs (fun t1 => Framed s o t1 [] 601024 7293034)) :
    State.butDraws s t [Jvm.Choice.named "NaN.bits"] (fun t1 => Framed s o t1 (fieldLocs frame_1_writes args s ++ arrayLocs frame_1_arrays args s ++ staticLocs frame_1_statics s) 601024 7293034) := h
theorem lw_limb (L : Cond) (hL : ∀ (args : Array Value) (s t : State), L.after args s (.returned (some (.int 1))) t = true) :
    ArmFor flags0 classFile x code maxLocals ret World_1 tables_1 room_1 Calls_1 rest_1 Pre_1
      (fun tb e a s o t => postC L tb e a s o t ∧ State.butDraws s t [Jvm.Choice.named "NaN.bits"] (fun t1 => Framed s o t1 (fieldLocs frame_1_writes a s ++ arrayLocs frame_1_arrays a s ++ staticLocs frame_1_statics s) 601024 7293034)) := by
  intro l hflags _ _ p e ha hc hk s m args below hf hfit hheap happ hpre
  obtain ⟨k, o, h1, h2, h3, rfl, hF⟩ := lw_comes l hflags p e ha hc hk s m args below hf hfit hheap happ hpre
  exact ⟨k, _, h1, h2, h3, hL args s _, lw_frame hF⟩
theorem i_vc : Claimed_1_1 ∧ Claimed_1_2 := ⟨lw_limb limb_1_1 (fun args s t => by simp [limb_1_1, Cond.after, Cond.holds, Cond.value]), lw_limb limb_1_2 (fun args s t => Cond.after_iff.mpr (by
  first | (rw [show limb_1_2 = Cond.eq .result (.int 1) from rfl, Cond.eq_ints (x := 1) (y := 1) rfl rfl]; simp; done) | (simp [limb_1_2, Cond.value, Term.eval]; done)))⟩

