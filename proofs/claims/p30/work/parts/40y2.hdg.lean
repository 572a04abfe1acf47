/-- so many numbers mixed in, one by one -/
def dgF (f : Nat → Int32) : Nat → Int64 → Int64
  | 0, d => d
  | n + 1, d => dgF f n d * 31 + (f n).toInt64
def dgG (g : Nat → Int64 → Int64) : Nat → Int64 → Int64
  | 0, d => d
  | n + 1, d => g n (dgG g n d)
def dgSt (A : HS) (ns nj nt k : Nat) (d : Int64) : Int64 := dgF (rStaNow A ns nj nt k) 9 d
def dgMo (A : HS) (k : Nat) (d : Int64) : Int64 := dgF (rMonNow A k) 9 d
def dgBs (Q : Nat → Nat → Nat) (k : Nat) (d : Int64) : Int64 := (d * 31 + (rS (bCk Q k)).toInt64) * 31 + (rM (bCk Q k)).toInt64
def dgRp (A : HS) (j q : Nat) : Int32 := if mI A 247 j = -1 then -2 else rRepNow A j q
def dgGo (A : HS) (j r : Nat) : Int32 := mA A 35 r j
def dgTa (A : HS) (nr j : Nat) (d : Int64) : Int64 := dgF (dgGo A j) nr (dgF (dgRp A j) 12 (dgF (rTalkNow A j) 8 d))
def dgRe (A : HS) (nt k : Nat) (d : Int64) : Int64 := dgF (rReaNow A nt k) 5 d
def dgLa (A : HS) (nt k : Nat) (d : Int64) : Int64 := (d * 31 + (rGone A nt (nI k) 16).toInt64) * 31 + FP.d2l (FP.dmul 4634204016564240384 (rMean A nt (nI k)))
def dgTo (A : HS) (nt k : Nat) : Int32 := rFirst A (nI k) nt
def dgDi (A : HS) (ns nj nm nt : Nat) (d : Int64) : Int64 := dgG (dgMo A) nm (dgG (dgSt A ns nj nt) ns d)
/-- desk, dial and room, the best shift, talks, readers, lands, topics -/
def dgA (A : HS) (ns nj nm nr nt g : Nat) (c : Int32) : Int64 := dgF (dgTo A nt) 16 (dgG (dgLa A nt) 6 (dgG (dgRe A nt) nr (dgG (dgTa A nr) nt (dgG (dgBs (bQ A ns nj nm (nI (g % 24)))) 3 (dgDi A ns nj nm nt (dgF (rDesk A ns nj nm nr nt c) 19 58269))))))
def dgAll (A : HS) (ns nj nm nr nt g : Nat) (c : Int32) : Int64 := ((dgA A ns nj nm nr nt g c * 31 + (nI (bG (bQ A ns nj nm (nI (g % 24))) 3 nF nF)).toInt64) * 31 + (wsN A nt nr g).toInt64) * 31 + 1
section DGE
variable {f : Nat → Int32} {g : Nat → Int64 → Int64} {n k j q r ns nj nm nr nt : Nat} {d : Int64} {A : HS} {Q : Nat → Nat → Nat} {c : Int32}
theorem dgF_0 : dgF f 0 d = d := rfl
theorem dgF_s : dgF f (n + 1) d = dgF f n d * 31 + (f n).toInt64 := rfl
theorem dgG_0 : dgG g 0 d = d := rfl
theorem dgG_s : dgG g (n + 1) d = g n (dgG g n d) := rfl
theorem dgSt_e : dgSt A ns nj nt k d = dgF (rStaNow A ns nj nt k) 9 d := rfl
theorem dgMo_e : dgMo A k d = dgF (rMonNow A k) 9 d := rfl
theorem dgBs_e : dgBs Q k d = (d * 31 + (rS (bCk Q k)).toInt64) * 31 + (rM (bCk Q k)).toInt64 := rfl
theorem dgRp_e : dgRp A j q = if mI A 247 j = -1 then -2 else rRepNow A j q := rfl
theorem dgGo_e : dgGo A j r = mA A 35 r j := rfl
theorem dgTa_e : dgTa A nr j d = dgF (dgGo A j) nr (dgF (dgRp A j) 12 (dgF (rTalkNow A j) 8 d)) := rfl
theorem dgRe_e : dgRe A nt k d = dgF (rReaNow A nt k) 5 d := rfl
theorem dgLa_e : dgLa A nt k d = (d * 31 + (rGone A nt (nI k) 16).toInt64) * 31 + FP.d2l (FP.dmul 4634204016564240384 (rMean A nt (nI k))) := rfl
theorem dgTo_e : dgTo A nt k = rFirst A (nI k) nt := rfl
theorem dgDi_e : dgDi A ns nj nm nt d = dgG (dgMo A) nm (dgG (dgSt A ns nj nt) ns d) := rfl
theorem dgA_e : dgA A ns nj nm nr nt n c = dgF (dgTo A nt) 16 (dgG (dgLa A nt) 6 (dgG (dgRe A nt) nr (dgG (dgTa A nr) nt (dgG (dgBs (bQ A ns nj nm (nI (n % 24)))) 3 (dgDi A ns nj nm nt (dgF (rDesk A ns nj nm nr nt c) 19 58269)))))) := rfl
theorem dgAll_e : dgAll A ns nj nm nr nt n c = ((dgA A ns nj nm nr nt n c * 31 + (nI (bG (bQ A ns nj nm (nI (n % 24))) 3 nF nF)).toInt64) * 31 + (wsN A nt nr n).toInt64) * 31 + 1 := rfl
end DGE
theorem rMean_n2 {A : HS} {nt : Nat} {a : Int32} : FP.Core.dIsNaN (rMean A nt a) = false := by
  unfold rMean
  by_cases g : rCnt (rMqP A a) nt = 0
  · rw [if_pos g]; decide
  · rw [if_neg g]; exact nan_div _ g

abbrev rm_a_X10_withDial : Room := { frames := 5, cells := 0, slots := 0, locals := 111 }
set_option maxHeartbeats 4000000 in
set_option maxRecDepth 100000 in
theorem a_X10_withDial {s0 : State} {l : Launch} {D : va_G} {cy : Nat → ClassId} (G : Gl s0 l D cy) (S : HS) (ea ns nj nm nt nr nc : Nat) (h : CI ea S ns nj nm nt nr nc) (A : HS) (hA : RK S A ns nj nm nt nr nc) (g0 : Nat) (hg : mI S 164 0 = nI g0) (hg7 : g0 ≤ 720) (hA7 : mI A 257 0 = nI g0) (d : Int64) : Ctr s0 l D cy yX10_withDial cX10_withDial 7 (some .long) rm_a_X10_withDial S [.ref (gG S 10 0), .long d] (PU S (some (.long (dgDi A ns nj nm nt d)))) := by
  refine pro "CavershamShift" G rfl rfl (Nat.le_of_ble_eq_true rfl) (fun p e s m below meth c ls X w hnm hl => ?_)
  have hx := X.1
  have hb := X.2.1
  have hown := X.2.2.2.1
  have hts := X.2.2.2.2.1
  have hl : lv_has ls 7 [(0, .ref (gG S 10 0)), (1, .long d)] := hl
  refine lv_lload_n hx hb dX10_withDial_0 rfl (lv_at hl 1 rfl) ?_
  refine lv_lstore_n (lv' := [(3, .long d), (0, .ref (gG S 10 0)), (1, .long d)]) hx hb dX10_withDial_1 rfl hl (by decide) rfl (fun ls hl => ?_)
  refine lv_iconst (v := 0) hx hb dX10_withDial_2 (by decide) ?_
  refine lv_istore (lv' := [(5, .int 0), (3, .long d), (0, .ref (gG S 10 0)), (1, .long d)]) hx hb dX10_withDial_3 hl (by decide) rfl (fun ls hl => ?_)
  have L5 : ∀ (N : Nat) (k5 : Nat) (v5 : Int64) (H : Heap) (locs : List Loc) (ls : Array Slot), ns - k5 < N → (k5 ≤ ns) → (v5 = dgG (dgSt A ns nj nt) k5 d) → Wd s0 D cy S s.heap H locs → lv_has ls 7 [(0, .ref (gG S 10 0)), (1, .long d), (3, .long v5), (5, .int (nI k5))] → W p l e rm_a_X10_withDial s m ([.ref (gG S 10 0), .long d] : List Value).toArray below meth c H locs 0 0 (MQ below (GQ s0 D cy (PU S (some (.long (dgDi A ns nj nm nt d))))) ([.ref (gG S 10 0), .long d] : List Value).toArray s rm_a_X10_withDial.cells rm_a_X10_withDial.slots (A0 s0)) (F0 m 5 ls []) := by
    intro N
    induction N with
    | zero => intros; omega
    | succ N ih5 =>
      intro k5 v5 H locs ls hmu hk_k5 hv5 w hl
      refine lv_iload hx hb dX10_withDial_5 (lv_at hl 3 rfl) ?_
      refine lv_aload_n hx hb dX10_withDial_7 rfl (lv_at hl 0 rfl) ?_
      refine g_10_0 (S := S) (x := (some (gG S 0 0))) X w h.v10 wF_X10_12 (h.f160) dX10_withDial_8 ?_
      refine g_0_0 (S := S) (x := (some (gG S 17 0))) X w h.v0 wF_X10_62 (h.f0) dX10_withDial_11 ?_
      refine cV (S := S) (nA := 0) (As := []) (rest := [.int (nI k5)]) X w hl h.l_st.1 (m_size G S ea 0 ns h.l_st) wY_Jx4a65c_size_8abf5 wM_X10_66 wIn_Jx4a65c_size_8abf5 wSe_Jx4a65c_Jx4a65c_size_8abf5 wI_Jx4a65c (by decide) rfl (by decide +kernel) rfl rfl dX10_withDial_14 ⟨by decide, by decide⟩ (Nat.le_of_ble_eq_true rfl) (⟨Nat.le_of_ble_eq_true rfl, Nat.le_of_ble_eq_true rfl⟩) (fun v1 S1 H locs hp w => ?_)
      obtain ⟨rfl, rfl⟩ := hp
      refine lv_icmp_ge (tgt := 69) hx hb dX10_withDial_17 (by decide) (fun hs_k5 => ?_) (fun hs_k5 => ?_)
      · have hge_k5 : ns ≤ k5 := by
          have hb1 := h.b_st
          exact (nI_leI (by omega) (by omega)).mp hs_k5
        have hv5e : v5 = dgG (dgMo A) 0 (dgG (dgSt A ns nj nt) ns d) := by rw [hv5, show k5 = ns by omega, dgG_0]
        refine lv_iconst (v := 0) hx hb dX10_withDial_69 (by decide) ?_
        refine lv_istore (lv' := [(5, .int 0), (0, .ref (gG S 10 0)), (1, .long d), (3, .long v5)]) hx hb dX10_withDial_70 hl (by decide) rfl (fun ls hl => ?_)
        have L72 : ∀ (N : Nat) (k72 : Nat) (v72 : Int64) (H : Heap) (locs : List Loc) (ls : Array Slot), nm - k72 < N → (k72 ≤ nm) → (v72 = dgG (dgMo A) k72 (dgG (dgSt A ns nj nt) ns d)) → Wd s0 D cy S s.heap H locs → lv_has ls 7 [(0, .ref (gG S 10 0)), (1, .long d), (3, .long v72), (5, .int (nI k72))] → W p l e rm_a_X10_withDial s m ([.ref (gG S 10 0), .long d] : List Value).toArray below meth c H locs 0 0 (MQ below (GQ s0 D cy (PU S (some (.long (dgDi A ns nj nm nt d))))) ([.ref (gG S 10 0), .long d] : List Value).toArray s rm_a_X10_withDial.cells rm_a_X10_withDial.slots (A0 s0)) (F0 m 72 ls []) := by
          intro N
          induction N with
          | zero => intros; omega
          | succ N ih72 =>
            intro k72 v72 H locs ls hmu hk_k72 hv72 w hl
            refine lv_iload hx hb dX10_withDial_72 (lv_at hl 3 rfl) ?_
            refine lv_aload_n hx hb dX10_withDial_74 rfl (lv_at hl 0 rfl) ?_
            refine g_10_1 (S := S) (x := (some (gG S 7 0))) X w h.v10 wF_X10_21 (h.f161) dX10_withDial_75 ?_
            refine g_7_1 (S := S) (x := (some (gG S 17 2))) X w h.v7 wF_X10_124 (h.f113) dX10_withDial_78 ?_
            refine cV (S := S) (nA := 0) (As := []) (rest := [.int (nI k72)]) X w hl h.l_mo.1 (m_size G S ea 2 nm h.l_mo) wY_Jx4a65c_size_8abf5 wM_X10_66 wIn_Jx4a65c_size_8abf5 wSe_Jx4a65c_Jx4a65c_size_8abf5 wI_Jx4a65c (by decide) rfl (by decide +kernel) rfl rfl dX10_withDial_81 ⟨by decide, by decide⟩ (Nat.le_of_ble_eq_true rfl) (⟨Nat.le_of_ble_eq_true rfl, Nat.le_of_ble_eq_true rfl⟩) (fun v2 S1 H locs hp w => ?_)
            obtain ⟨rfl, rfl⟩ := hp
            refine lv_icmp_ge (tgt := 136) hx hb dX10_withDial_84 (by decide) (fun hs_k72 => ?_) (fun hs_k72 => ?_)
            · have hge_k72 : nm ≤ k72 := by
                have hb1 := h.b_mo
                exact (nI_leI (by omega) (by omega)).mp hs_k72
              have hv72e : v72 = dgDi A ns nj nm nt d := by rw [hv72, show k72 = nm by omega, dgDi_e]
              refine lv_lload_n hx hb dX10_withDial_136 rfl (lv_at hl 2 rfl) ?_
              exact rL X w rfl dX10_withDial_137 (by decide) (by decide) (pu_l (by first | exact hv72e | exact hv72e.symm))
            · have hlt_k72 : k72 < nm := by
                have hb1 := h.b_mo
                exact Nat.lt_of_not_le (fun z => hs_k72 ((nI_leI (by omega) (by omega)).mpr z))
              refine lv_iconst (v := 0) hx hb dX10_withDial_87 (by decide) ?_
              refine lv_istore (lv' := [(6, .int 0), (0, .ref (gG S 10 0)), (1, .long d), (3, .long v72), (5, .int (nI k72))]) hx hb dX10_withDial_88 hl (by decide) rfl (fun ls hl => ?_)
              have L90 : ∀ (N : Nat) (k90 : Nat) (v90 : Int64) (H : Heap) (locs : List Loc) (ls : Array Slot), 9 - k90 < N → (k90 ≤ 9) → (v90 = dgF (rMonNow A k72) k90 v72) → Wd s0 D cy S s.heap H locs → lv_has ls 7 [(0, .ref (gG S 10 0)), (1, .long d), (3, .long v90), (5, .int (nI k72)), (6, .int (nI k90))] → W p l e rm_a_X10_withDial s m ([.ref (gG S 10 0), .long d] : List Value).toArray below meth c H locs 0 0 (MQ below (GQ s0 D cy (PU S (some (.long (dgDi A ns nj nm nt d))))) ([.ref (gG S 10 0), .long d] : List Value).toArray s rm_a_X10_withDial.cells rm_a_X10_withDial.slots (A0 s0)) (F0 m 90 ls []) := by
                intro N
                induction N with
                | zero => intros; omega
                | succ N ih90 =>
                  intro k90 v90 H locs ls hmu hk_k90 hv90 w hl
                  refine lv_iload hx hb dX10_withDial_90 (lv_at hl 4 rfl) ?_
                  refine lv_bipush (v := 9) hx hb dX10_withDial_92 (by decide) ?_
                  refine lv_icmp_ge (tgt := 130) hx hb dX10_withDial_94 (by decide) (fun hz_k90 => ?_) (fun hz_k90 => ?_)
                  · have hge_k90 : 9 ≤ k90 := (nI_leI (a := 9) (b := k90) (by decide) (by omega)).mp hz_k90
                    have hv72n : v90 = dgG (dgMo A) (k72 + 1) (dgG (dgSt A ns nj nt) ns d) := by rw [hv90, show k90 = 9 by omega, hv72, dgG_s (n := k72), dgMo_e]
                    refine lv_iinc (v := nI (k72 + 1)) (lv' := [(5, .int (nI (k72 + 1))), (0, .ref (gG S 10 0)), (1, .long d), (3, .long v90), (6, .int (nI k90))]) hx hb dX10_withDial_130 hl (k := 3) rfl (nI_1 _) (by decide) rfl (fun ls hl => ?_)
                    refine lv_goto (tgt := 72) hx hb dX10_withDial_133 (by decide) ?_
                    exact ih72 (k72 + 1) v90 _ _ _ (by omega) (by omega) (hv72n) w (lv_sub hl [1, 2, 3, 0] rfl)
                  · have hlt_k90 : k90 < 9 := Nat.lt_of_not_le (fun z => hz_k90 ((nI_leI (a := 9) (b := k90) (by decide) (by omega)).mpr z))
                    refine lv_lload_n hx hb dX10_withDial_97 rfl (lv_at hl 2 rfl) ?_
                    refine lv_aload_n hx hb dX10_withDial_98 rfl (lv_at hl 0 rfl) ?_
                    refine lv_aload_n hx hb dX10_withDial_99 rfl (lv_at hl 0 rfl) ?_
                    refine g_10_1 (S := S) (x := (some (gG S 7 0))) X w h.v10 wF_X10_21 (h.f161) dX10_withDial_100 ?_
                    refine g_7_1 (S := S) (x := (some (gG S 17 2))) X w h.v7 wF_X10_124 (h.f113) dX10_withDial_103 ?_
                    refine lv_iload hx hb dX10_withDial_106 (lv_at hl 3 rfl) ?_
                    refine cV (S := S) (nA := 1) (As := [.int (nI k72)]) (rest := [.ref (gG S 10 0), .long v90]) X w hl h.l_mo.1 (m_get G S ea 2 k72 nm (some (gG S 3 k72)) h.l_mo hlt_k72 (h.e_mo k72 hlt_k72).1) wY_Jx4a65c_get_915e3 wM_X10_417 wIn_Jx4a65c_get_915e3 wSe_Jx4a65c_Jx4a65c_get_915e3 wI_Jx4a65c (by decide) rfl (by decide +kernel) rfl rfl dX10_withDial_108 ⟨by decide, by decide⟩ (Nat.le_of_ble_eq_true rfl) (⟨Nat.le_of_ble_eq_true rfl, Nat.le_of_ble_eq_true rfl⟩) (fun v3 S1 H locs hp w => ?_)
                    obtain ⟨rfl, rfl⟩ := hp
                    refine ckC (S := S) (t := 3) X w (h.e_mo k72 hlt_k72).2 (by decide) rfl wC_X10_129 dX10_withDial_111 ?_
                    refine lv_iload hx hb dX10_withDial_114 (lv_at hl 4 rfl) ?_
                    refine cV (S := S) (nA := 2) (As := [.ref (gG S 3 k72), .int (nI k90)]) (rest := [.long v90]) X w hl h.v10 (a_X10_monitorFact G S ea ns nj nm nt nr nc h A hA g0 (hg) (hg7) (hA7) k72 k90 hlt_k72 hlt_k90) wY_X10_monitorFact wM_X10_255 wIn_X10_monitorFact wSe_X10_X10_monitorFact wI_X10 (by decide) rfl (by decide +kernel) rfl rfl dX10_withDial_116 ⟨by decide, by decide⟩ (Nat.le_of_ble_eq_true rfl) (⟨Nat.le_of_ble_eq_true rfl, Nat.le_of_ble_eq_true rfl⟩) (fun v4 S1 H locs hp w => ?_)
                    obtain ⟨rfl, rfl⟩ := hp
                    refine lv_i2l hx hb dX10_withDial_119 rfl ?_
                    refine cS (S := S) (nA := 2) (As := [.long v90, .long ((rMonNow A k72 k90).toInt64)]) (rest := []) X w hl (m_X10_mixed G S ea ns nj nm nt nr nc h v90 ((rMonNow A k72 k90).toInt64)) wY_X10_mixed wM_X10_392 wSt_X10_mixed wI_X10 (by decide +kernel) rfl rfl dX10_withDial_120 ⟨by decide, by decide⟩ (Nat.le_of_ble_eq_true rfl) (⟨Nat.le_of_ble_eq_true rfl, Nat.le_of_ble_eq_true rfl⟩) (fun v5 S1 H locs hp w => ?_)
                    obtain ⟨rfl, rfl⟩ := hp
                    have hv90n : v90 * 31 + (rMonNow A k72 k90).toInt64 = dgF (rMonNow A k72) (k90 + 1) v72 := by rw [hv90, dgF_s (n := k90)]
                    refine lv_lstore_n (lv' := [(3, .long (v90 * 31 + ((rMonNow A k72 k90).toInt64))), (0, .ref (gG S 10 0)), (1, .long d), (5, .int (nI k72)), (6, .int (nI k90))]) hx hb dX10_withDial_123 rfl hl (by decide) rfl (fun ls hl => ?_)
                    refine lv_iinc (v := nI (k90 + 1)) (lv' := [(6, .int (nI (k90 + 1))), (3, .long (v90 * 31 + ((rMonNow A k72 k90).toInt64))), (0, .ref (gG S 10 0)), (1, .long d), (5, .int (nI k72))]) hx hb dX10_withDial_124 hl (k := 4) rfl (nI_1 _) (by decide) rfl (fun ls hl => ?_)
                    refine lv_goto (tgt := 90) hx hb dX10_withDial_127 (by decide) ?_
                    exact ih90 (k90 + 1) (v90 * 31 + ((rMonNow A k72 k90).toInt64)) _ _ _ (by omega) (by omega) (hv90n) w (lv_sub hl [2, 3, 1, 4, 0] rfl)
              exact L90 _ 0 v72 _ _ _ (Nat.lt_succ_self _) (by omega) (by first | exact dgF_0.symm | exact dgG_0.symm) w (lv_sub hl [1, 2, 3, 4, 0] rfl)
        exact L72 _ 0 v5 _ _ _ (Nat.lt_succ_self _) (by omega) (hv5e) w (lv_sub hl [1, 2, 3, 0] rfl)
      · have hlt_k5 : k5 < ns := by
          have hb1 := h.b_st
          exact Nat.lt_of_not_le (fun z => hs_k5 ((nI_leI (by omega) (by omega)).mpr z))
        refine lv_iconst (v := 0) hx hb dX10_withDial_20 (by decide) ?_
        refine lv_istore (lv' := [(6, .int 0), (0, .ref (gG S 10 0)), (1, .long d), (3, .long v5), (5, .int (nI k5))]) hx hb dX10_withDial_21 hl (by decide) rfl (fun ls hl => ?_)
        have L23 : ∀ (N : Nat) (k23 : Nat) (v23 : Int64) (H : Heap) (locs : List Loc) (ls : Array Slot), 9 - k23 < N → (k23 ≤ 9) → (v23 = dgF (rStaNow A ns nj nt k5) k23 v5) → Wd s0 D cy S s.heap H locs → lv_has ls 7 [(0, .ref (gG S 10 0)), (1, .long d), (3, .long v23), (5, .int (nI k5)), (6, .int (nI k23))] → W p l e rm_a_X10_withDial s m ([.ref (gG S 10 0), .long d] : List Value).toArray below meth c H locs 0 0 (MQ below (GQ s0 D cy (PU S (some (.long (dgDi A ns nj nm nt d))))) ([.ref (gG S 10 0), .long d] : List Value).toArray s rm_a_X10_withDial.cells rm_a_X10_withDial.slots (A0 s0)) (F0 m 23 ls []) := by
          intro N
          induction N with
          | zero => intros; omega
          | succ N ih23 =>
            intro k23 v23 H locs ls hmu hk_k23 hv23 w hl
            refine lv_iload hx hb dX10_withDial_23 (lv_at hl 4 rfl) ?_
            refine lv_bipush (v := 9) hx hb dX10_withDial_25 (by decide) ?_
            refine lv_icmp_ge (tgt := 63) hx hb dX10_withDial_27 (by decide) (fun hz_k23 => ?_) (fun hz_k23 => ?_)
            · have hge_k23 : 9 ≤ k23 := (nI_leI (a := 9) (b := k23) (by decide) (by omega)).mp hz_k23
              have hv5n : v23 = dgG (dgSt A ns nj nt) (k5 + 1) d := by rw [hv23, show k23 = 9 by omega, hv5, dgG_s (n := k5), dgSt_e]
              refine lv_iinc (v := nI (k5 + 1)) (lv' := [(5, .int (nI (k5 + 1))), (0, .ref (gG S 10 0)), (1, .long d), (3, .long v23), (6, .int (nI k23))]) hx hb dX10_withDial_63 hl (k := 3) rfl (nI_1 _) (by decide) rfl (fun ls hl => ?_)
              refine lv_goto (tgt := 5) hx hb dX10_withDial_66 (by decide) ?_
              exact ih5 (k5 + 1) v23 _ _ _ (by omega) (by omega) (hv5n) w (lv_sub hl [1, 2, 3, 0] rfl)
            · have hlt_k23 : k23 < 9 := Nat.lt_of_not_le (fun z => hz_k23 ((nI_leI (a := 9) (b := k23) (by decide) (by omega)).mpr z))
              refine lv_lload_n hx hb dX10_withDial_30 rfl (lv_at hl 2 rfl) ?_
              refine lv_aload_n hx hb dX10_withDial_31 rfl (lv_at hl 0 rfl) ?_
              refine lv_aload_n hx hb dX10_withDial_32 rfl (lv_at hl 0 rfl) ?_
              refine g_10_0 (S := S) (x := (some (gG S 0 0))) X w h.v10 wF_X10_12 (h.f160) dX10_withDial_33 ?_
              refine g_0_0 (S := S) (x := (some (gG S 17 0))) X w h.v0 wF_X10_62 (h.f0) dX10_withDial_36 ?_
              refine lv_iload hx hb dX10_withDial_39 (lv_at hl 3 rfl) ?_
              refine cV (S := S) (nA := 1) (As := [.int (nI k5)]) (rest := [.ref (gG S 10 0), .long v23]) X w hl h.l_st.1 (m_get G S ea 0 k5 ns (some (gG S 8 k5)) h.l_st hlt_k5 (h.e_st k5 hlt_k5).1) wY_Jx4a65c_get_915e3 wM_X10_417 wIn_Jx4a65c_get_915e3 wSe_Jx4a65c_Jx4a65c_get_915e3 wI_Jx4a65c (by decide) rfl (by decide +kernel) rfl rfl dX10_withDial_41 ⟨by decide, by decide⟩ (Nat.le_of_ble_eq_true rfl) (⟨Nat.le_of_ble_eq_true rfl, Nat.le_of_ble_eq_true rfl⟩) (fun v6 S1 H locs hp w => ?_)
              obtain ⟨rfl, rfl⟩ := hp
              refine ckC (S := S) (t := 8) X w (h.e_st k5 hlt_k5).2 (by decide) rfl wC_X10_77 dX10_withDial_44 ?_
              refine lv_iload hx hb dX10_withDial_47 (lv_at hl 4 rfl) ?_
              refine cV (S := S) (nA := 2) (As := [.ref (gG S 8 k5), .int (nI k23)]) (rest := [.long v23]) X w hl h.v10 (a_X10_stationFact G S ea ns nj nm nt nr nc h A hA g0 (hg) (hg7) (hA7) k5 k23 hlt_k5 hlt_k23) wY_X10_stationFact wM_X10_246 wIn_X10_stationFact wSe_X10_X10_stationFact wI_X10 (by decide) rfl (by decide +kernel) rfl rfl dX10_withDial_49 ⟨by decide, by decide⟩ (Nat.le_of_ble_eq_true rfl) (⟨Nat.le_of_ble_eq_true rfl, Nat.le_of_ble_eq_true rfl⟩) (fun v7 S1 H locs hp w => ?_)
              obtain ⟨rfl, rfl⟩ := hp
              refine lv_i2l hx hb dX10_withDial_52 rfl ?_
              refine cS (S := S) (nA := 2) (As := [.long v23, .long ((rStaNow A ns nj nt k5 k23).toInt64)]) (rest := []) X w hl (m_X10_mixed G S ea ns nj nm nt nr nc h v23 ((rStaNow A ns nj nt k5 k23).toInt64)) wY_X10_mixed wM_X10_392 wSt_X10_mixed wI_X10 (by decide +kernel) rfl rfl dX10_withDial_53 ⟨by decide, by decide⟩ (Nat.le_of_ble_eq_true rfl) (⟨Nat.le_of_ble_eq_true rfl, Nat.le_of_ble_eq_true rfl⟩) (fun v8 S1 H locs hp w => ?_)
              obtain ⟨rfl, rfl⟩ := hp
              have hv23n : v23 * 31 + (rStaNow A ns nj nt k5 k23).toInt64 = dgF (rStaNow A ns nj nt k5) (k23 + 1) v5 := by rw [hv23, dgF_s (n := k23)]
              refine lv_lstore_n (lv' := [(3, .long (v23 * 31 + ((rStaNow A ns nj nt k5 k23).toInt64))), (0, .ref (gG S 10 0)), (1, .long d), (5, .int (nI k5)), (6, .int (nI k23))]) hx hb dX10_withDial_56 rfl hl (by decide) rfl (fun ls hl => ?_)
              refine lv_iinc (v := nI (k23 + 1)) (lv' := [(6, .int (nI (k23 + 1))), (3, .long (v23 * 31 + ((rStaNow A ns nj nt k5 k23).toInt64))), (0, .ref (gG S 10 0)), (1, .long d), (5, .int (nI k5))]) hx hb dX10_withDial_57 hl (k := 4) rfl (nI_1 _) (by decide) rfl (fun ls hl => ?_)
              refine lv_goto (tgt := 23) hx hb dX10_withDial_60 (by decide) ?_
              exact ih23 (k23 + 1) (v23 * 31 + ((rStaNow A ns nj nt k5 k23).toInt64)) _ _ _ (by omega) (by omega) (hv23n) w (lv_sub hl [2, 3, 1, 4, 0] rfl)
        exact L23 _ 0 v5 _ _ _ (Nat.lt_succ_self _) (by omega) (by first | exact dgF_0.symm | exact dgG_0.symm) w (lv_sub hl [1, 2, 3, 4, 0] rfl)
  exact L5 _ 0 d _ _ _ (Nat.lt_succ_self _) (by omega) (by first | exact dgF_0.symm | exact dgG_0.symm) w (lv_sub hl [2, 3, 1, 0] rfl)

abbrev rm_a_X10_withTalks : Room := { frames := 3, cells := 0, slots := 0, locals := 65 }
set_option maxHeartbeats 4000000 in
set_option maxRecDepth 100000 in
theorem a_X10_withTalks {s0 : State} {l : Launch} {D : va_G} {cy : Nat → ClassId} (G : Gl s0 l D cy) (S : HS) (ea ns nj nm nt nr nc : Nat) (h : CI ea S ns nj nm nt nr nc) (A : HS) (hA : RK S A ns nj nm nt nr nc) (g0 : Nat) (hg : mI S 164 0 = nI g0) (hg7 : g0 ≤ 720) (hA7 : mI A 257 0 = nI g0) (d : Int64) : Ctr s0 l D cy yX10_withTalks cX10_withTalks 8 (some .long) rm_a_X10_withTalks S [.ref (gG S 10 0), .long d] (PU S (some (.long (dgG (dgTa A nr) nt d)))) := by
  refine pro "CavershamShift" G rfl rfl (Nat.le_of_ble_eq_true rfl) (fun p e s m below meth c ls X w hnm hl => ?_)
  have hx := X.1
  have hb := X.2.1
  have hown := X.2.2.2.1
  have hts := X.2.2.2.2.1
  have hl : lv_has ls 8 [(0, .ref (gG S 10 0)), (1, .long d)] := hl
  refine lv_lload_n hx hb dX10_withTalks_0 rfl (lv_at hl 1 rfl) ?_
  refine lv_lstore_n (lv' := [(3, .long d), (0, .ref (gG S 10 0)), (1, .long d)]) hx hb dX10_withTalks_1 rfl hl (by decide) rfl (fun ls hl => ?_)
  refine lv_iconst (v := 0) hx hb dX10_withTalks_2 (by decide) ?_
  refine lv_istore (lv' := [(5, .int 0), (3, .long d), (0, .ref (gG S 10 0)), (1, .long d)]) hx hb dX10_withTalks_3 hl (by decide) rfl (fun ls hl => ?_)
  have L5 : ∀ (N : Nat) (k5 : Nat) (v5 : Int64) (H : Heap) (locs : List Loc) (ls : Array Slot), nt - k5 < N → (k5 ≤ nt) → (v5 = dgG (dgTa A nr) k5 d) → Wd s0 D cy S s.heap H locs → lv_has ls 8 [(0, .ref (gG S 10 0)), (1, .long d), (3, .long v5), (5, .int (nI k5))] → W p l e rm_a_X10_withTalks s m ([.ref (gG S 10 0), .long d] : List Value).toArray below meth c H locs 0 0 (MQ below (GQ s0 D cy (PU S (some (.long (dgG (dgTa A nr) nt d))))) ([.ref (gG S 10 0), .long d] : List Value).toArray s rm_a_X10_withTalks.cells rm_a_X10_withTalks.slots (A0 s0)) (F0 m 5 ls []) := by
    intro N
    induction N with
    | zero => intros; omega
    | succ N ih5 =>
      intro k5 v5 H locs ls hmu hk_k5 hv5 w hl
      refine lv_iload hx hb dX10_withTalks_5 (lv_at hl 3 rfl) ?_
      refine lv_aload_n hx hb dX10_withTalks_7 rfl (lv_at hl 0 rfl) ?_
      refine g_10_2 (S := S) (x := (some (gG S 4 0))) X w h.v10 wF_X10_28 (h.f162) dX10_withTalks_8 ?_
      refine g_4_0 (S := S) (x := (some (gG S 17 3))) X w h.v4 wF_X10_162 (h.f64) dX10_withTalks_11 ?_
      refine cV (S := S) (nA := 0) (As := []) (rest := [.int (nI k5)]) X w hl h.l_ta.1 (m_size G S ea 3 nt h.l_ta) wY_Jx4a65c_size_8abf5 wM_X10_66 wIn_Jx4a65c_size_8abf5 wSe_Jx4a65c_Jx4a65c_size_8abf5 wI_Jx4a65c (by decide) rfl (by decide +kernel) rfl rfl dX10_withTalks_14 ⟨by decide, by decide⟩ (Nat.le_of_ble_eq_true rfl) (⟨Nat.le_of_ble_eq_true rfl, Nat.le_of_ble_eq_true rfl⟩) (fun v1 S1 H locs hp w => ?_)
      obtain ⟨rfl, rfl⟩ := hp
      refine lv_icmp_ge (tgt := 153) hx hb dX10_withTalks_17 (by decide) (fun hs_k5 => ?_) (fun hs_k5 => ?_)
      · have hge_k5 : nt ≤ k5 := by
          have hb1 := h.b_ta
          exact (nI_leI (by omega) (by omega)).mp hs_k5
        have hv5e : v5 = dgG (dgTa A nr) nt d := by rw [hv5, show k5 = nt by omega]
        refine lv_lload_n hx hb dX10_withTalks_153 rfl (lv_at hl 2 rfl) ?_
        exact rL X w rfl dX10_withTalks_154 (by decide) (by decide) (pu_l (by first | exact hv5e | exact hv5e.symm))
      · have hlt_k5 : k5 < nt := by
          have hb1 := h.b_ta
          exact Nat.lt_of_not_le (fun z => hs_k5 ((nI_leI (by omega) (by omega)).mpr z))
        refine lv_aload_n hx hb dX10_withTalks_20 rfl (lv_at hl 0 rfl) ?_
        refine g_10_2 (S := S) (x := (some (gG S 4 0))) X w h.v10 wF_X10_28 (h.f162) dX10_withTalks_21 ?_
        refine g_4_0 (S := S) (x := (some (gG S 17 3))) X w h.v4 wF_X10_162 (h.f64) dX10_withTalks_24 ?_
        refine lv_iload hx hb dX10_withTalks_27 (lv_at hl 3 rfl) ?_
        refine cV (S := S) (nA := 1) (As := [.int (nI k5)]) (rest := []) X w hl h.l_ta.1 (m_get G S ea 3 k5 nt (some (gG S 9 k5)) h.l_ta hlt_k5 (h.e_ta k5 hlt_k5).1) wY_Jx4a65c_get_915e3 wM_X10_417 wIn_Jx4a65c_get_915e3 wSe_Jx4a65c_Jx4a65c_get_915e3 wI_Jx4a65c (by decide) rfl (by decide +kernel) rfl rfl dX10_withTalks_29 ⟨by decide, by decide⟩ (Nat.le_of_ble_eq_true rfl) (⟨Nat.le_of_ble_eq_true rfl, Nat.le_of_ble_eq_true rfl⟩) (fun v2 S1 H locs hp w => ?_)
        obtain ⟨rfl, rfl⟩ := hp
        refine ckC (S := S) (t := 9) X w (h.e_ta k5 hlt_k5).2 (by decide) rfl wC_X10_177 dX10_withTalks_32 ?_
        refine lv_astore (lv' := [(6, .ref (gG S 9 k5)), (0, .ref (gG S 10 0)), (1, .long d), (3, .long v5), (5, .int (nI k5))]) hx hb dX10_withTalks_35 hl (by decide) rfl (fun ls hl => ?_)
        refine lv_iconst (v := 0) hx hb dX10_withTalks_37 (by decide) ?_
        refine lv_istore (lv' := [(7, .int 0), (6, .ref (gG S 9 k5)), (0, .ref (gG S 10 0)), (1, .long d), (3, .long v5), (5, .int (nI k5))]) hx hb dX10_withTalks_38 hl (by decide) rfl (fun ls hl => ?_)
        have L40 : ∀ (N : Nat) (k40 : Nat) (v40 : Int64) (H : Heap) (locs : List Loc) (ls : Array Slot), 8 - k40 < N → (k40 ≤ 8) → (v40 = dgF (rTalkNow A k5) k40 v5) → Wd s0 D cy S s.heap H locs → lv_has ls 8 [(0, .ref (gG S 10 0)), (1, .long d), (3, .long v40), (5, .int (nI k5)), (6, .ref (gG S 9 k5)), (7, .int (nI k40))] → W p l e rm_a_X10_withTalks s m ([.ref (gG S 10 0), .long d] : List Value).toArray below meth c H locs 0 0 (MQ below (GQ s0 D cy (PU S (some (.long (dgG (dgTa A nr) nt d))))) ([.ref (gG S 10 0), .long d] : List Value).toArray s rm_a_X10_withTalks.cells rm_a_X10_withTalks.slots (A0 s0)) (F0 m 40 ls []) := by
          intro N
          induction N with
          | zero => intros; omega
          | succ N ih40 =>
            intro k40 v40 H locs ls hmu hk_k40 hv40 w hl
            refine lv_iload hx hb dX10_withTalks_40 (lv_at hl 5 rfl) ?_
            refine lv_bipush (v := 8) hx hb dX10_withTalks_42 (by decide) ?_
            refine lv_icmp_ge (tgt := 67) hx hb dX10_withTalks_44 (by decide) (fun hz_k40 => ?_) (fun hz_k40 => ?_)
            · have hge_k40 : 8 ≤ k40 := (nI_leI (a := 8) (b := k40) (by decide) (by omega)).mp hz_k40
              have hv40e : v40 = dgF (dgRp A k5) 0 (dgF (rTalkNow A k5) 8 v5) := by rw [hv40, show k40 = 8 by omega, dgF_0]
              refine lv_iconst (v := 0) hx hb dX10_withTalks_67 (by decide) ?_
              refine lv_istore (lv' := [(7, .int 0), (0, .ref (gG S 10 0)), (1, .long d), (3, .long v40), (5, .int (nI k5)), (6, .ref (gG S 9 k5))]) hx hb dX10_withTalks_68 hl (by decide) rfl (fun ls hl => ?_)
              have L70 : ∀ (N : Nat) (k70 : Nat) (v70 : Int64) (H : Heap) (locs : List Loc) (ls : Array Slot), 12 - k70 < N → (k70 ≤ 12) → (v70 = dgF (dgRp A k5) k70 (dgF (rTalkNow A k5) 8 v5)) → Wd s0 D cy S s.heap H locs → lv_has ls 8 [(0, .ref (gG S 10 0)), (1, .long d), (3, .long v70), (5, .int (nI k5)), (6, .ref (gG S 9 k5)), (7, .int (nI k70))] → W p l e rm_a_X10_withTalks s m ([.ref (gG S 10 0), .long d] : List Value).toArray below meth c H locs 0 0 (MQ below (GQ s0 D cy (PU S (some (.long (dgG (dgTa A nr) nt d))))) ([.ref (gG S 10 0), .long d] : List Value).toArray s rm_a_X10_withTalks.cells rm_a_X10_withTalks.slots (A0 s0)) (F0 m 70 ls []) := by
                intro N
                induction N with
                | zero => intros; omega
                | succ N ih70 =>
                  intro k70 v70 H locs ls hmu hk_k70 hv70 w hl
                  refine lv_iload hx hb dX10_withTalks_70 (lv_at hl 5 rfl) ?_
                  refine lv_bipush (v := 12) hx hb dX10_withTalks_72 (by decide) ?_
                  refine lv_icmp_ge (tgt := 97) hx hb dX10_withTalks_74 (by decide) (fun hz_k70 => ?_) (fun hz_k70 => ?_)
                  · have hge_k70 : 12 ≤ k70 := (nI_leI (a := 12) (b := k70) (by decide) (by omega)).mp hz_k70
                    have hv70e : v70 = dgF (dgGo A k5) 0 (dgF (dgRp A k5) 12 (dgF (rTalkNow A k5) 8 v5)) := by rw [hv70, show k70 = 12 by omega, dgF_0]
                    refine lv_iconst (v := 0) hx hb dX10_withTalks_97 (by decide) ?_
                    refine lv_istore (lv' := [(7, .int 0), (0, .ref (gG S 10 0)), (1, .long d), (3, .long v70), (5, .int (nI k5)), (6, .ref (gG S 9 k5))]) hx hb dX10_withTalks_98 hl (by decide) rfl (fun ls hl => ?_)
                    have L100 : ∀ (N : Nat) (k100 : Nat) (v100 : Int64) (H : Heap) (locs : List Loc) (ls : Array Slot), nr - k100 < N → (k100 ≤ nr) → (v100 = dgF (dgGo A k5) k100 (dgF (dgRp A k5) 12 (dgF (rTalkNow A k5) 8 v5))) → Wd s0 D cy S s.heap H locs → lv_has ls 8 [(0, .ref (gG S 10 0)), (1, .long d), (3, .long v100), (5, .int (nI k5)), (6, .ref (gG S 9 k5)), (7, .int (nI k100))] → W p l e rm_a_X10_withTalks s m ([.ref (gG S 10 0), .long d] : List Value).toArray below meth c H locs 0 0 (MQ below (GQ s0 D cy (PU S (some (.long (dgG (dgTa A nr) nt d))))) ([.ref (gG S 10 0), .long d] : List Value).toArray s rm_a_X10_withTalks.cells rm_a_X10_withTalks.slots (A0 s0)) (F0 m 100 ls []) := by
                      intro N
                      induction N with
                      | zero => intros; omega
                      | succ N ih100 =>
                        intro k100 v100 H locs ls hmu hk_k100 hv100 w hl
                        refine lv_iload hx hb dX10_withTalks_100 (lv_at hl 5 rfl) ?_
                        refine lv_aload_n hx hb dX10_withTalks_102 rfl (lv_at hl 0 rfl) ?_
                        refine g_10_2 (S := S) (x := (some (gG S 4 0))) X w h.v10 wF_X10_28 (h.f162) dX10_withTalks_103 ?_
                        refine g_4_1 (S := S) (x := (some (gG S 17 4))) X w h.v4 wF_X10_207 (h.f65) dX10_withTalks_106 ?_
                        refine cV (S := S) (nA := 0) (As := []) (rest := [.int (nI k100)]) X w hl h.l_re.1 (m_size G S ea 4 nr h.l_re) wY_Jx4a65c_size_8abf5 wM_X10_66 wIn_Jx4a65c_size_8abf5 wSe_Jx4a65c_Jx4a65c_size_8abf5 wI_Jx4a65c (by decide) rfl (by decide +kernel) rfl rfl dX10_withTalks_109 ⟨by decide, by decide⟩ (Nat.le_of_ble_eq_true rfl) (⟨Nat.le_of_ble_eq_true rfl, Nat.le_of_ble_eq_true rfl⟩) (fun v3 S1 H locs hp w => ?_)
                        obtain ⟨rfl, rfl⟩ := hp
                        refine lv_icmp_ge (tgt := 147) hx hb dX10_withTalks_112 (by decide) (fun hs_k100 => ?_) (fun hs_k100 => ?_)
                        · have hge_k100 : nr ≤ k100 := by
                            have hb1 := h.b_re
                            exact (nI_leI (by omega) (by omega)).mp hs_k100
                          have hv5n : v100 = dgG (dgTa A nr) (k5 + 1) d := by rw [hv100, show k100 = nr by omega, hv5, dgG_s (n := k5), dgTa_e]
                          refine lv_iinc (v := nI (k5 + 1)) (lv' := [(5, .int (nI (k5 + 1))), (0, .ref (gG S 10 0)), (1, .long d), (3, .long v100), (6, .ref (gG S 9 k5)), (7, .int (nI k100))]) hx hb dX10_withTalks_147 hl (k := 3) rfl (nI_1 _) (by decide) rfl (fun ls hl => ?_)
                          refine lv_goto (tgt := 5) hx hb dX10_withTalks_150 (by decide) ?_
                          exact ih5 (k5 + 1) v100 _ _ _ (by omega) (by omega) (hv5n) w (lv_sub hl [1, 2, 3, 0] rfl)
                        · have hlt_k100 : k100 < nr := by
                            have hb1 := h.b_re
                            exact Nat.lt_of_not_le (fun z => hs_k100 ((nI_leI (by omega) (by omega)).mpr z))
                          refine lv_lload_n hx hb dX10_withTalks_115 rfl (lv_at hl 2 rfl) ?_
                          refine lv_aload hx hb dX10_withTalks_116 (lv_at hl 4 rfl) ?_
                          refine lv_aload_n hx hb dX10_withTalks_118 rfl (lv_at hl 0 rfl) ?_
                          refine g_10_2 (S := S) (x := (some (gG S 4 0))) X w h.v10 wF_X10_28 (h.f162) dX10_withTalks_119 ?_
                          refine g_4_1 (S := S) (x := (some (gG S 17 4))) X w h.v4 wF_X10_207 (h.f65) dX10_withTalks_122 ?_
                          refine lv_iload hx hb dX10_withTalks_125 (lv_at hl 5 rfl) ?_
                          refine cV (S := S) (nA := 1) (As := [.int (nI k100)]) (rest := [.ref (gG S 9 k5), .long v100]) X w hl h.l_re.1 (m_get G S ea 4 k100 nr (some (gG S 5 k100)) h.l_re hlt_k100 (h.e_re k100 hlt_k100).1) wY_Jx4a65c_get_915e3 wM_X10_417 wIn_Jx4a65c_get_915e3 wSe_Jx4a65c_Jx4a65c_get_915e3 wI_Jx4a65c (by decide) rfl (by decide +kernel) rfl rfl dX10_withTalks_127 ⟨by decide, by decide⟩ (Nat.le_of_ble_eq_true rfl) (⟨Nat.le_of_ble_eq_true rfl, Nat.le_of_ble_eq_true rfl⟩) (fun v4 S1 H locs hp w => ?_)
                          obtain ⟨rfl, rfl⟩ := hp
                          refine ckC (S := S) (t := 5) X w (h.e_re k100 hlt_k100).2 (by decide) rfl wC_X10_212 dX10_withTalks_130 ?_
                          refine cV (S := S) (nA := 1) (As := [.ref (gG S 5 k100)]) (rest := [.long v100]) X w hl (h.e_ta k5 hlt_k5).2 (a_X9_reached G S ea ns nj nm nt nr nc h A hA k5 hlt_k5 k100 hlt_k100) wY_X9_reached wM_X10_277 wIn_X9_reached wSe_X9_X9_reached wI_X9 (by decide) rfl (by decide +kernel) rfl rfl dX10_withTalks_133 ⟨by decide, by decide⟩ (Nat.le_of_ble_eq_true rfl) (⟨Nat.le_of_ble_eq_true rfl, Nat.le_of_ble_eq_true rfl⟩) (fun v5 S1 H locs hp w => ?_)
                          obtain ⟨rfl, rfl⟩ := hp
                          refine lv_i2l hx hb dX10_withTalks_136 rfl ?_
                          refine cS (S := S) (nA := 2) (As := [.long v100, .long ((mA A 35 k100 k5).toInt64)]) (rest := []) X w hl (m_X10_mixed G S ea ns nj nm nt nr nc h v100 ((mA A 35 k100 k5).toInt64)) wY_X10_mixed wM_X10_392 wSt_X10_mixed wI_X10 (by decide +kernel) rfl rfl dX10_withTalks_137 ⟨by decide, by decide⟩ (Nat.le_of_ble_eq_true rfl) (⟨Nat.le_of_ble_eq_true rfl, Nat.le_of_ble_eq_true rfl⟩) (fun v6 S1 H locs hp w => ?_)
                          obtain ⟨rfl, rfl⟩ := hp
                          have hv100n : v100 * 31 + (mA A 35 k100 k5).toInt64 = dgF (dgGo A k5) (k100 + 1) (dgF (dgRp A k5) 12 (dgF (rTalkNow A k5) 8 v5)) := by rw [hv100, dgF_s (n := k100), dgGo_e]
                          refine lv_lstore_n (lv' := [(3, .long (v100 * 31 + ((mA A 35 k100 k5).toInt64))), (0, .ref (gG S 10 0)), (1, .long d), (5, .int (nI k5)), (6, .ref (gG S 9 k5)), (7, .int (nI k100))]) hx hb dX10_withTalks_140 rfl hl (by decide) rfl (fun ls hl => ?_)
                          refine lv_iinc (v := nI (k100 + 1)) (lv' := [(7, .int (nI (k100 + 1))), (3, .long (v100 * 31 + ((mA A 35 k100 k5).toInt64))), (0, .ref (gG S 10 0)), (1, .long d), (5, .int (nI k5)), (6, .ref (gG S 9 k5))]) hx hb dX10_withTalks_141 hl (k := 5) rfl (nI_1 _) (by decide) rfl (fun ls hl => ?_)
                          refine lv_goto (tgt := 100) hx hb dX10_withTalks_144 (by decide) ?_
                          exact ih100 (k100 + 1) (v100 * 31 + ((mA A 35 k100 k5).toInt64)) _ _ _ (by omega) (by omega) (hv100n) w (lv_sub hl [2, 3, 1, 4, 5, 0] rfl)
                    exact L100 _ 0 v70 _ _ _ (Nat.lt_succ_self _) (by omega) (hv70e) w (lv_sub hl [1, 2, 3, 4, 5, 0] rfl)
                  · have hlt_k70 : k70 < 12 := Nat.lt_of_not_le (fun z => hz_k70 ((nI_leI (a := 12) (b := k70) (by decide) (by omega)).mpr z))
                    refine lv_lload_n hx hb dX10_withTalks_77 rfl (lv_at hl 2 rfl) ?_
                    refine lv_aload_n hx hb dX10_withTalks_78 rfl (lv_at hl 0 rfl) ?_
                    refine lv_aload hx hb dX10_withTalks_79 (lv_at hl 4 rfl) ?_
                    refine lv_iload hx hb dX10_withTalks_81 (lv_at hl 5 rfl) ?_
                    refine cV (S := S) (nA := 2) (As := [.ref (gG S 9 k5), .int (nI k70)]) (rest := [.long v70]) X w hl h.v10 (a_X10_reportFact G S ea ns nj nm nt nr nc h A hA k5 hlt_k5 k70 hlt_k70) wY_X10_reportFact wM_X10_272 wIn_X10_reportFact wSe_X10_X10_reportFact wI_X10 (by decide) rfl (by decide +kernel) rfl rfl dX10_withTalks_83 ⟨by decide, by decide⟩ (Nat.le_of_ble_eq_true rfl) (⟨Nat.le_of_ble_eq_true rfl, Nat.le_of_ble_eq_true rfl⟩) (fun v7 S1 H locs hp w => ?_)
                    obtain ⟨rfl, rfl⟩ := hp
                    refine lv_i2l hx hb dX10_withTalks_86 rfl ?_
                    refine cS (S := S) (nA := 2) (As := [.long v70, .long ((if mI A 247 k5 = -1 then -2 else rRepNow A k5 k70).toInt64)]) (rest := []) X w hl (m_X10_mixed G S ea ns nj nm nt nr nc h v70 ((if mI A 247 k5 = -1 then -2 else rRepNow A k5 k70).toInt64)) wY_X10_mixed wM_X10_392 wSt_X10_mixed wI_X10 (by decide +kernel) rfl rfl dX10_withTalks_87 ⟨by decide, by decide⟩ (Nat.le_of_ble_eq_true rfl) (⟨Nat.le_of_ble_eq_true rfl, Nat.le_of_ble_eq_true rfl⟩) (fun v8 S1 H locs hp w => ?_)
                    obtain ⟨rfl, rfl⟩ := hp
                    have hv70n : v70 * 31 + (if mI A 247 k5 = -1 then -2 else rRepNow A k5 k70).toInt64 = dgF (dgRp A k5) (k70 + 1) (dgF (rTalkNow A k5) 8 v5) := by rw [hv70, dgF_s (n := k70), dgRp_e]
                    refine lv_lstore_n (lv' := [(3, .long (v70 * 31 + ((if mI A 247 k5 = -1 then -2 else rRepNow A k5 k70).toInt64))), (0, .ref (gG S 10 0)), (1, .long d), (5, .int (nI k5)), (6, .ref (gG S 9 k5)), (7, .int (nI k70))]) hx hb dX10_withTalks_90 rfl hl (by decide) rfl (fun ls hl => ?_)
                    refine lv_iinc (v := nI (k70 + 1)) (lv' := [(7, .int (nI (k70 + 1))), (3, .long (v70 * 31 + ((if mI A 247 k5 = -1 then -2 else rRepNow A k5 k70).toInt64))), (0, .ref (gG S 10 0)), (1, .long d), (5, .int (nI k5)), (6, .ref (gG S 9 k5))]) hx hb dX10_withTalks_91 hl (k := 5) rfl (nI_1 _) (by decide) rfl (fun ls hl => ?_)
                    refine lv_goto (tgt := 70) hx hb dX10_withTalks_94 (by decide) ?_
                    exact ih70 (k70 + 1) (v70 * 31 + ((if mI A 247 k5 = -1 then -2 else rRepNow A k5 k70).toInt64)) _ _ _ (by omega) (by omega) (hv70n) w (lv_sub hl [2, 3, 1, 4, 5, 0] rfl)
              exact L70 _ 0 v40 _ _ _ (Nat.lt_succ_self _) (by omega) (hv40e) w (lv_sub hl [1, 2, 3, 4, 5, 0] rfl)
            · have hlt_k40 : k40 < 8 := Nat.lt_of_not_le (fun z => hz_k40 ((nI_leI (a := 8) (b := k40) (by decide) (by omega)).mpr z))
              refine lv_lload_n hx hb dX10_withTalks_47 rfl (lv_at hl 2 rfl) ?_
              refine lv_aload_n hx hb dX10_withTalks_48 rfl (lv_at hl 0 rfl) ?_
              refine lv_aload hx hb dX10_withTalks_49 (lv_at hl 4 rfl) ?_
              refine lv_iload hx hb dX10_withTalks_51 (lv_at hl 5 rfl) ?_
              refine cV (S := S) (nA := 2) (As := [.ref (gG S 9 k5), .int (nI k40)]) (rest := [.long v40]) X w hl h.v10 (a_X10_talkFact G S ea ns nj nm nt nr nc h A hA g0 (hg) (hg7) (hA7) k5 k40 hlt_k5 hlt_k40) wY_X10_talkFact wM_X10_268 wIn_X10_talkFact wSe_X10_X10_talkFact wI_X10 (by decide) rfl (by decide +kernel) rfl rfl dX10_withTalks_53 ⟨by decide, by decide⟩ (Nat.le_of_ble_eq_true rfl) (⟨Nat.le_of_ble_eq_true rfl, Nat.le_of_ble_eq_true rfl⟩) (fun v9 S1 H locs hp w => ?_)
              obtain ⟨rfl, rfl⟩ := hp
              refine lv_i2l hx hb dX10_withTalks_56 rfl ?_
              refine cS (S := S) (nA := 2) (As := [.long v40, .long ((rTalkNow A k5 k40).toInt64)]) (rest := []) X w hl (m_X10_mixed G S ea ns nj nm nt nr nc h v40 ((rTalkNow A k5 k40).toInt64)) wY_X10_mixed wM_X10_392 wSt_X10_mixed wI_X10 (by decide +kernel) rfl rfl dX10_withTalks_57 ⟨by decide, by decide⟩ (Nat.le_of_ble_eq_true rfl) (⟨Nat.le_of_ble_eq_true rfl, Nat.le_of_ble_eq_true rfl⟩) (fun v10 S1 H locs hp w => ?_)
              obtain ⟨rfl, rfl⟩ := hp
              have hv40n : v40 * 31 + (rTalkNow A k5 k40).toInt64 = dgF (rTalkNow A k5) (k40 + 1) v5 := by rw [hv40, dgF_s (n := k40)]
              refine lv_lstore_n (lv' := [(3, .long (v40 * 31 + ((rTalkNow A k5 k40).toInt64))), (0, .ref (gG S 10 0)), (1, .long d), (5, .int (nI k5)), (6, .ref (gG S 9 k5)), (7, .int (nI k40))]) hx hb dX10_withTalks_60 rfl hl (by decide) rfl (fun ls hl => ?_)
              refine lv_iinc (v := nI (k40 + 1)) (lv' := [(7, .int (nI (k40 + 1))), (3, .long (v40 * 31 + ((rTalkNow A k5 k40).toInt64))), (0, .ref (gG S 10 0)), (1, .long d), (5, .int (nI k5)), (6, .ref (gG S 9 k5))]) hx hb dX10_withTalks_61 hl (k := 5) rfl (nI_1 _) (by decide) rfl (fun ls hl => ?_)
              refine lv_goto (tgt := 40) hx hb dX10_withTalks_64 (by decide) ?_
              exact ih40 (k40 + 1) (v40 * 31 + ((rTalkNow A k5 k40).toInt64)) _ _ _ (by omega) (by omega) (hv40n) w (lv_sub hl [2, 3, 1, 4, 5, 0] rfl)
        exact L40 _ 0 v5 _ _ _ (Nat.lt_succ_self _) (by omega) (by first | exact dgF_0.symm | exact dgG_0.symm) w (lv_sub hl [2, 3, 4, 5, 1, 0] rfl)
  exact L5 _ 0 d _ _ _ (Nat.lt_succ_self _) (by omega) (by first | exact dgF_0.symm | exact dgG_0.symm) w (lv_sub hl [2, 3, 1, 0] rfl)

abbrev rm_a_X10_withReaders : Room := { frames := 5, cells := 0, slots := 0, locals := 110 }
set_option maxHeartbeats 4000000 in
set_option maxRecDepth 100000 in
theorem a_X10_withReaders {s0 : State} {l : Launch} {D : va_G} {cy : Nat → ClassId} (G : Gl s0 l D cy) (S : HS) (ea ns nj nm nt nr nc : Nat) (h : CI ea S ns nj nm nt nr nc) (A : HS) (hA : RK S A ns nj nm nt nr nc) (d : Int64) : Ctr s0 l D cy yX10_withReaders cX10_withReaders 7 (some .long) rm_a_X10_withReaders S [.ref (gG S 10 0), .long d] (PU S (some (.long (dgG (dgRe A nt) nr d)))) := by
  refine pro "CavershamShift" G rfl rfl (Nat.le_of_ble_eq_true rfl) (fun p e s m below meth c ls X w hnm hl => ?_)
  have hx := X.1
  have hb := X.2.1
  have hown := X.2.2.2.1
  have hts := X.2.2.2.2.1
  have hl : lv_has ls 7 [(0, .ref (gG S 10 0)), (1, .long d)] := hl
  refine lv_lload_n hx hb dX10_withReaders_0 rfl (lv_at hl 1 rfl) ?_
  refine lv_lstore_n (lv' := [(3, .long d), (0, .ref (gG S 10 0)), (1, .long d)]) hx hb dX10_withReaders_1 rfl hl (by decide) rfl (fun ls hl => ?_)
  refine lv_iconst (v := 0) hx hb dX10_withReaders_2 (by decide) ?_
  refine lv_istore (lv' := [(5, .int 0), (3, .long d), (0, .ref (gG S 10 0)), (1, .long d)]) hx hb dX10_withReaders_3 hl (by decide) rfl (fun ls hl => ?_)
  have L5 : ∀ (N : Nat) (k5 : Nat) (v5 : Int64) (H : Heap) (locs : List Loc) (ls : Array Slot), nr - k5 < N → (k5 ≤ nr) → (v5 = dgG (dgRe A nt) k5 d) → Wd s0 D cy S s.heap H locs → lv_has ls 7 [(0, .ref (gG S 10 0)), (1, .long d), (3, .long v5), (5, .int (nI k5))] → W p l e rm_a_X10_withReaders s m ([.ref (gG S 10 0), .long d] : List Value).toArray below meth c H locs 0 0 (MQ below (GQ s0 D cy (PU S (some (.long (dgG (dgRe A nt) nr d))))) ([.ref (gG S 10 0), .long d] : List Value).toArray s rm_a_X10_withReaders.cells rm_a_X10_withReaders.slots (A0 s0)) (F0 m 5 ls []) := by
    intro N
    induction N with
    | zero => intros; omega
    | succ N ih5 =>
      intro k5 v5 H locs ls hmu hk_k5 hv5 w hl
      refine lv_iload hx hb dX10_withReaders_5 (lv_at hl 3 rfl) ?_
      refine lv_aload_n hx hb dX10_withReaders_7 rfl (lv_at hl 0 rfl) ?_
      refine g_10_2 (S := S) (x := (some (gG S 4 0))) X w h.v10 wF_X10_28 (h.f162) dX10_withReaders_8 ?_
      refine g_4_1 (S := S) (x := (some (gG S 17 4))) X w h.v4 wF_X10_207 (h.f65) dX10_withReaders_11 ?_
      refine cV (S := S) (nA := 0) (As := []) (rest := [.int (nI k5)]) X w hl h.l_re.1 (m_size G S ea 4 nr h.l_re) wY_Jx4a65c_size_8abf5 wM_X10_66 wIn_Jx4a65c_size_8abf5 wSe_Jx4a65c_Jx4a65c_size_8abf5 wI_Jx4a65c (by decide) rfl (by decide +kernel) rfl rfl dX10_withReaders_14 ⟨by decide, by decide⟩ (Nat.le_of_ble_eq_true rfl) (⟨Nat.le_of_ble_eq_true rfl, Nat.le_of_ble_eq_true rfl⟩) (fun v1 S1 H locs hp w => ?_)
      obtain ⟨rfl, rfl⟩ := hp
      refine lv_icmp_ge (tgt := 68) hx hb dX10_withReaders_17 (by decide) (fun hs_k5 => ?_) (fun hs_k5 => ?_)
      · have hge_k5 : nr ≤ k5 := by
          have hb1 := h.b_re
          exact (nI_leI (by omega) (by omega)).mp hs_k5
        have hv5e : v5 = dgG (dgRe A nt) nr d := by rw [hv5, show k5 = nr by omega]
        refine lv_lload_n hx hb dX10_withReaders_68 rfl (lv_at hl 2 rfl) ?_
        exact rL X w rfl dX10_withReaders_69 (by decide) (by decide) (pu_l (by first | exact hv5e | exact hv5e.symm))
      · have hlt_k5 : k5 < nr := by
          have hb1 := h.b_re
          exact Nat.lt_of_not_le (fun z => hs_k5 ((nI_leI (by omega) (by omega)).mpr z))
        refine lv_iconst (v := 0) hx hb dX10_withReaders_20 (by decide) ?_
        refine lv_istore (lv' := [(6, .int 0), (0, .ref (gG S 10 0)), (1, .long d), (3, .long v5), (5, .int (nI k5))]) hx hb dX10_withReaders_21 hl (by decide) rfl (fun ls hl => ?_)
        have L23 : ∀ (N : Nat) (k23 : Nat) (v23 : Int64) (H : Heap) (locs : List Loc) (ls : Array Slot), 5 - k23 < N → (k23 ≤ 5) → (v23 = dgF (rReaNow A nt k5) k23 v5) → Wd s0 D cy S s.heap H locs → lv_has ls 7 [(0, .ref (gG S 10 0)), (1, .long d), (3, .long v23), (5, .int (nI k5)), (6, .int (nI k23))] → W p l e rm_a_X10_withReaders s m ([.ref (gG S 10 0), .long d] : List Value).toArray below meth c H locs 0 0 (MQ below (GQ s0 D cy (PU S (some (.long (dgG (dgRe A nt) nr d))))) ([.ref (gG S 10 0), .long d] : List Value).toArray s rm_a_X10_withReaders.cells rm_a_X10_withReaders.slots (A0 s0)) (F0 m 23 ls []) := by
          intro N
          induction N with
          | zero => intros; omega
          | succ N ih23 =>
            intro k23 v23 H locs ls hmu hk_k23 hv23 w hl
            refine lv_iload hx hb dX10_withReaders_23 (lv_at hl 4 rfl) ?_
            refine lv_iconst (v := 5) hx hb dX10_withReaders_25 (by decide) ?_
            refine lv_icmp_ge (tgt := 62) hx hb dX10_withReaders_26 (by decide) (fun hz_k23 => ?_) (fun hz_k23 => ?_)
            · have hge_k23 : 5 ≤ k23 := (nI_leI (a := 5) (b := k23) (by decide) (by omega)).mp hz_k23
              have hv5n : v23 = dgG (dgRe A nt) (k5 + 1) d := by rw [hv23, show k23 = 5 by omega, hv5, dgG_s (n := k5), dgRe_e]
              refine lv_iinc (v := nI (k5 + 1)) (lv' := [(5, .int (nI (k5 + 1))), (0, .ref (gG S 10 0)), (1, .long d), (3, .long v23), (6, .int (nI k23))]) hx hb dX10_withReaders_62 hl (k := 3) rfl (nI_1 _) (by decide) rfl (fun ls hl => ?_)
              refine lv_goto (tgt := 5) hx hb dX10_withReaders_65 (by decide) ?_
              exact ih5 (k5 + 1) v23 _ _ _ (by omega) (by omega) (hv5n) w (lv_sub hl [1, 2, 3, 0] rfl)
            · have hlt_k23 : k23 < 5 := Nat.lt_of_not_le (fun z => hz_k23 ((nI_leI (a := 5) (b := k23) (by decide) (by omega)).mpr z))
              refine lv_lload_n hx hb dX10_withReaders_29 rfl (lv_at hl 2 rfl) ?_
              refine lv_aload_n hx hb dX10_withReaders_30 rfl (lv_at hl 0 rfl) ?_
              refine lv_aload_n hx hb dX10_withReaders_31 rfl (lv_at hl 0 rfl) ?_
              refine g_10_2 (S := S) (x := (some (gG S 4 0))) X w h.v10 wF_X10_28 (h.f162) dX10_withReaders_32 ?_
              refine g_4_1 (S := S) (x := (some (gG S 17 4))) X w h.v4 wF_X10_207 (h.f65) dX10_withReaders_35 ?_
              refine lv_iload hx hb dX10_withReaders_38 (lv_at hl 3 rfl) ?_
              refine cV (S := S) (nA := 1) (As := [.int (nI k5)]) (rest := [.ref (gG S 10 0), .long v23]) X w hl h.l_re.1 (m_get G S ea 4 k5 nr (some (gG S 5 k5)) h.l_re hlt_k5 (h.e_re k5 hlt_k5).1) wY_Jx4a65c_get_915e3 wM_X10_417 wIn_Jx4a65c_get_915e3 wSe_Jx4a65c_Jx4a65c_get_915e3 wI_Jx4a65c (by decide) rfl (by decide +kernel) rfl rfl dX10_withReaders_40 ⟨by decide, by decide⟩ (Nat.le_of_ble_eq_true rfl) (⟨Nat.le_of_ble_eq_true rfl, Nat.le_of_ble_eq_true rfl⟩) (fun v2 S1 H locs hp w => ?_)
              obtain ⟨rfl, rfl⟩ := hp
              refine ckC (S := S) (t := 5) X w (h.e_re k5 hlt_k5).2 (by decide) rfl wC_X10_212 dX10_withReaders_43 ?_
              refine lv_iload hx hb dX10_withReaders_46 (lv_at hl 4 rfl) ?_
              refine cV (S := S) (nA := 2) (As := [.ref (gG S 5 k5), .int (nI k23)]) (rest := [.long v23]) X w hl h.v10 (a_X10_readerFact G S ea ns nj nm nt nr nc h A hA k5 k23 hlt_k5 hlt_k23) wY_X10_readerFact wM_X10_280 wIn_X10_readerFact wSe_X10_X10_readerFact wI_X10 (by decide) rfl (by decide +kernel) rfl rfl dX10_withReaders_48 ⟨by decide, by decide⟩ (Nat.le_of_ble_eq_true rfl) (⟨Nat.le_of_ble_eq_true rfl, Nat.le_of_ble_eq_true rfl⟩) (fun v3 S1 H locs hp w => ?_)
              obtain ⟨rfl, rfl⟩ := hp
              refine lv_i2l hx hb dX10_withReaders_51 rfl ?_
              refine cS (S := S) (nA := 2) (As := [.long v23, .long ((rReaNow A nt k5 k23).toInt64)]) (rest := []) X w hl (m_X10_mixed G S ea ns nj nm nt nr nc h v23 ((rReaNow A nt k5 k23).toInt64)) wY_X10_mixed wM_X10_392 wSt_X10_mixed wI_X10 (by decide +kernel) rfl rfl dX10_withReaders_52 ⟨by decide, by decide⟩ (Nat.le_of_ble_eq_true rfl) (⟨Nat.le_of_ble_eq_true rfl, Nat.le_of_ble_eq_true rfl⟩) (fun v4 S1 H locs hp w => ?_)
              obtain ⟨rfl, rfl⟩ := hp
              have hv23n : v23 * 31 + (rReaNow A nt k5 k23).toInt64 = dgF (rReaNow A nt k5) (k23 + 1) v5 := by rw [hv23, dgF_s (n := k23)]
              refine lv_lstore_n (lv' := [(3, .long (v23 * 31 + ((rReaNow A nt k5 k23).toInt64))), (0, .ref (gG S 10 0)), (1, .long d), (5, .int (nI k5)), (6, .int (nI k23))]) hx hb dX10_withReaders_55 rfl hl (by decide) rfl (fun ls hl => ?_)
              refine lv_iinc (v := nI (k23 + 1)) (lv' := [(6, .int (nI (k23 + 1))), (3, .long (v23 * 31 + ((rReaNow A nt k5 k23).toInt64))), (0, .ref (gG S 10 0)), (1, .long d), (5, .int (nI k5))]) hx hb dX10_withReaders_56 hl (k := 4) rfl (nI_1 _) (by decide) rfl (fun ls hl => ?_)
              refine lv_goto (tgt := 23) hx hb dX10_withReaders_59 (by decide) ?_
              exact ih23 (k23 + 1) (v23 * 31 + ((rReaNow A nt k5 k23).toInt64)) _ _ _ (by omega) (by omega) (hv23n) w (lv_sub hl [2, 3, 1, 4, 0] rfl)
        exact L23 _ 0 v5 _ _ _ (Nat.lt_succ_self _) (by omega) (by first | exact dgF_0.symm | exact dgG_0.symm) w (lv_sub hl [1, 2, 3, 4, 0] rfl)
  exact L5 _ 0 d _ _ _ (Nat.lt_succ_self _) (by omega) (by first | exact dgF_0.symm | exact dgG_0.symm) w (lv_sub hl [2, 3, 1, 0] rfl)

abbrev rm_e_X10_withBestShift : Room := { frames := 7, cells := 0, slots := 0, locals := 164 }
set_option maxHeartbeats 4000000 in
set_option maxRecDepth 100000 in
theorem e_X10_withBestShift {s0 : State} {l : Launch} {D : va_G} {cy : Nat → ClassId} (G : Gl s0 l D cy) (S : HS) (ea ns nj nm nt nr nc : Nat) (h : CI ea S ns nj nm nt nr nc) (A : HS) (hA : RK S A ns nj nm nt nr nc) (g0 : Nat) (hg : mI S 164 0 = nI g0) (hg7 : g0 ≤ 720) (hA7 : mI A 257 0 = nI g0) (d : Int64) (a0 b0 c0 : Nat → Int32) : Ctr s0 l D cy yX10_withBestShift cX10_withBestShift 6 (some .long) rm_e_X10_withBestShift (scr S a0 b0 c0) [.ref (gG S 10 0), .long d] (fun v S' => some (.long (dgG (dgBs (bQ A ns nj nm (nI (g0 % 24)))) 3 d)) = v ∧ ∃ f g h9, S' = scr S f g h9) := by
  refine pro "CavershamShift" G rfl rfl (Nat.le_of_ble_eq_true rfl) (fun p e s m below meth c ls X w hnm hl => ?_)
  have hx := X.1
  have hb := X.2.1
  have hown := X.2.2.2.1
  have hts := X.2.2.2.2.1
  have hl : lv_has ls 6 [(0, .ref (gG S 10 0)), (1, .long d)] := hl
  have h0 := h
  have hA0 := hA
  have h : CI ea (scr S a0 b0 c0) ns nj nm nt nr nc := h0.scr _ _ _
  have hA : RK (scr S a0 b0 c0) A ns nj nm nt nr nc := hA0.scr
  refine lv_lload_n hx hb dX10_withBestShift_0 rfl (lv_at hl 1 rfl) ?_
  refine lv_lstore_n (lv' := [(3, .long d), (0, .ref (gG S 10 0)), (1, .long d)]) hx hb dX10_withBestShift_1 rfl hl (by decide) rfl (fun ls hl => ?_)
  refine lv_aload_n hx hb dX10_withBestShift_2 rfl (lv_at hl 1 rfl) ?_
  refine g_10_3 (S := (scr S a0 b0 c0)) (x := (some (gG (scr S a0 b0 c0) 2 0))) X w h.v10 wF_X10_37 (h.f163) dX10_withBestShift_3 ?_
  refine lv_aload_n hx hb dX10_withBestShift_6 rfl (lv_at hl 1 rfl) ?_
  refine cV (S := (scr S a0 b0 c0)) (nA := 0) (As := []) (rest := [.ref (gG (scr S a0 b0 c0) 2 0)]) X w hl h.v10 (m_X10_hourOfDay G (scr S a0 b0 c0) ea ns nj nm nt nr nc h ) wY_X10_hourOfDay wM_X10_411 wIn_X10_hourOfDay wSe_X10_X10_hourOfDay wI_X10 (by decide) rfl (by decide +kernel) rfl rfl dX10_withBestShift_7 ⟨by decide, by decide⟩ (Nat.le_of_ble_eq_true rfl) (⟨Nat.le_of_ble_eq_true rfl, Nat.le_of_ble_eq_true rfl⟩) (fun v1 S1 H locs hp w => ?_)
  obtain ⟨rfl, rfl⟩ := hp
  refine lv_topi (fun z2 ez2 => ?_)
  obtain rfl : z2 = (nI (g0 % 24)) := ez2.trans (hod hg (by omega))
  refine cV (S := (scr S a0 b0 c0)) (nA := 1) (As := [.int (nI (g0 % 24))]) (rest := []) X w hl h.v2 (e_X2_choose G S ea ns nj nm nt nr nc h0 A hA0 (nI (g0 % 24)) a0 b0 c0) wY_X2_choose wM_X10_362 wIn_X2_choose wSe_X2_X2_choose wI_X2 (by decide) rfl (by decide +kernel) rfl rfl dX10_withBestShift_10 ⟨by decide, by decide⟩ (Nat.le_of_ble_eq_true rfl) (⟨Nat.le_of_ble_eq_true rfl, Nat.le_of_ble_eq_true rfl⟩) (fun v4 S1 H locs hp w => ?_)
  obtain ⟨rfl, fq3, gq3, q3, -, hrow9, rfl⟩ := hp
  have h : CI ea (scr S fq3 gq3 q3) ns nj nm nt nr nc := h0.scr _ _ _
  have hA : RK (scr S fq3 gq3 q3) A ns nj nm nt nr nc := hA0.scr
  refine lv_iconst (v := 0) hx hb dX10_withBestShift_13 (by decide) ?_
  refine lv_istore (lv' := [(5, .int 0), (3, .long d), (0, .ref (gG S 10 0)), (1, .long d)]) hx hb dX10_withBestShift_14 hl (by decide) rfl (fun ls hl => ?_)
  have L16 : ∀ (N : Nat) (k16 : Nat) (v16 : Int64) (qa16 : Nat → Int32) (qb16 : Nat → Int32) (qc16 : Nat → Int32) (H : Heap) (locs : List Loc) (ls : Array Slot), 3 - k16 < N → (k16 ≤ 3) → (v16 = dgG (dgBs (bQ A ns nj nm (nI (g0 % 24)))) k16 d) → (∀ j, j < 3 → qc16 j = rC (bCk (bQ A ns nj nm (nI (g0 % 24))) j)) → Wd s0 D cy (scr S qa16 qb16 qc16) s.heap H locs → lv_has ls 6 [(0, .ref (gG S 10 0)), (1, .long d), (3, .long v16), (5, .int (nI k16))] → W p l e rm_e_X10_withBestShift s m ([.ref (gG S 10 0), .long d] : List Value).toArray below meth c H locs 0 0 (MQ below (GQ s0 D cy (fun v S' => some (.long (dgG (dgBs (bQ A ns nj nm (nI (g0 % 24)))) 3 d)) = v ∧ ∃ f g h9, S' = scr S f g h9)) ([.ref (gG S 10 0), .long d] : List Value).toArray s rm_e_X10_withBestShift.cells rm_e_X10_withBestShift.slots (A0 s0)) (F0 m 16 ls []) := by
    intro N
    induction N with
    | zero => intros; omega
    | succ N ih16 =>
      intro k16 v16 qa16 qb16 qc16 H locs ls hmu hk_k16 hv16 hrow9 w hl
      have h : CI ea (scr S qa16 qb16 qc16) ns nj nm nt nr nc := h0.scr _ _ _
      have hA : RK (scr S qa16 qb16 qc16) A ns nj nm nt nr nc := hA0.scr
      refine lv_iload hx hb dX10_withBestShift_16 (lv_at hl 3 rfl) ?_
      refine lv_iconst (v := 3) hx hb dX10_withBestShift_18 (by decide) ?_
      refine lv_icmp_ge (tgt := 58) hx hb dX10_withBestShift_19 (by decide) (fun hz_k16 => ?_) (fun hz_k16 => ?_)
      · have hge_k16 : 3 ≤ k16 := (nI_leI (a := 3) (b := k16) (by decide) (by omega)).mp hz_k16
        have hv16e : v16 = dgG (dgBs (bQ A ns nj nm (nI (g0 % 24)))) 3 d := by rw [hv16, show k16 = 3 by omega]
        refine lv_lload_n hx hb dX10_withBestShift_58 rfl (lv_at hl 2 rfl) ?_
        exact rL X w rfl dX10_withBestShift_59 (by decide) (by decide) (⟨congrArg (fun x => some (Value.long x)) hv16e.symm, _, _, _, rfl⟩)
      · have hlt_k16 : k16 < 3 := Nat.lt_of_not_le (fun z => hz_k16 ((nI_leI (a := 3) (b := k16) (by decide) (by omega)).mpr z))
        refine lv_lload_n hx hb dX10_withBestShift_22 rfl (lv_at hl 2 rfl) ?_
        refine lv_aload_n hx hb dX10_withBestShift_23 rfl (lv_at hl 0 rfl) ?_
        refine g_10_3 (S := (scr S qa16 qb16 qc16)) (x := (some (gG (scr S qa16 qb16 qc16) 2 0))) X w h.v10 wF_X10_37 (h.f163) dX10_withBestShift_24 ?_
        refine lv_iload hx hb dX10_withBestShift_27 (lv_at hl 3 rfl) ?_
        refine cV (S := (scr S qa16 qb16 qc16)) (nA := 1) (As := [.int (nI k16)]) (rest := [.long v16]) X w hl h.v2 (e_X2_stationAtSet G S ea ns nj nm nt nr nc h0 A hA0 k16 (bCk (bQ A ns nj nm (nI (g0 % 24))) k16) hlt_k16 qa16 qb16 qc16 (hrow9 k16 hlt_k16)) wY_X2_stationAtSet wM_X10_369 wIn_X2_stationAtSet wSe_X2_X2_stationAtSet wI_X2 (by decide) rfl (by decide +kernel) rfl rfl dX10_withBestShift_29 ⟨by decide, by decide⟩ (Nat.le_of_ble_eq_true rfl) (⟨Nat.le_of_ble_eq_true rfl, Nat.le_of_ble_eq_true rfl⟩) (fun v6 S1 H locs hp w => ?_)
        obtain ⟨rfl, rfl⟩ := hp
        refine lv_i2l hx hb dX10_withBestShift_32 rfl ?_
        refine cS (S := (scr S qa16 qb16 qc16)) (nA := 2) (As := [.long v16, .long ((rS (bCk (bQ A ns nj nm (nI (g0 % 24))) k16)).toInt64)]) (rest := []) X w hl (m_X10_mixed G (scr S qa16 qb16 qc16) ea ns nj nm nt nr nc h v16 ((rS (bCk (bQ A ns nj nm (nI (g0 % 24))) k16)).toInt64)) wY_X10_mixed wM_X10_392 wSt_X10_mixed wI_X10 (by decide +kernel) rfl rfl dX10_withBestShift_33 ⟨by decide, by decide⟩ (Nat.le_of_ble_eq_true rfl) (⟨Nat.le_of_ble_eq_true rfl, Nat.le_of_ble_eq_true rfl⟩) (fun v7 S1 H locs hp w => ?_)
        obtain ⟨rfl, rfl⟩ := hp
        refine lv_lstore_n (lv' := [(3, .long (v16 * 31 + ((rS (bCk (bQ A ns nj nm (nI (g0 % 24))) k16)).toInt64))), (0, .ref (gG S 10 0)), (1, .long d), (5, .int (nI k16))]) hx hb dX10_withBestShift_36 rfl hl (by decide) rfl (fun ls hl => ?_)
        refine lv_lload_n hx hb dX10_withBestShift_37 rfl (lv_at hl 0 rfl) ?_
        refine lv_aload_n hx hb dX10_withBestShift_38 rfl (lv_at hl 1 rfl) ?_
        refine g_10_3 (S := (scr S qa16 qb16 qc16)) (x := (some (gG (scr S qa16 qb16 qc16) 2 0))) X w h.v10 wF_X10_37 (h.f163) dX10_withBestShift_39 ?_
        refine lv_iload hx hb dX10_withBestShift_42 (lv_at hl 3 rfl) ?_
        refine cV (S := (scr S qa16 qb16 qc16)) (nA := 1) (As := [.int (nI k16)]) (rest := [.long (v16 * 31 + ((rS (bCk (bQ A ns nj nm (nI (g0 % 24))) k16)).toInt64))]) X w hl h.v2 (e_X2_monitorAtSet G S ea ns nj nm nt nr nc h0 A hA0 k16 (bCk (bQ A ns nj nm (nI (g0 % 24))) k16) hlt_k16 qa16 qb16 qc16 (hrow9 k16 hlt_k16)) wY_X2_monitorAtSet wM_X10_366 wIn_X2_monitorAtSet wSe_X2_X2_monitorAtSet wI_X2 (by decide) rfl (by decide +kernel) rfl rfl dX10_withBestShift_44 ⟨by decide, by decide⟩ (Nat.le_of_ble_eq_true rfl) (⟨Nat.le_of_ble_eq_true rfl, Nat.le_of_ble_eq_true rfl⟩) (fun v9 S1 H locs hp w => ?_)
        obtain ⟨rfl, rfl⟩ := hp
        refine lv_i2l hx hb dX10_withBestShift_47 rfl ?_
        refine cS (S := (scr S qa16 qb16 qc16)) (nA := 2) (As := [.long (v16 * 31 + ((rS (bCk (bQ A ns nj nm (nI (g0 % 24))) k16)).toInt64)), .long ((rM (bCk (bQ A ns nj nm (nI (g0 % 24))) k16)).toInt64)]) (rest := []) X w hl (m_X10_mixed G (scr S qa16 qb16 qc16) ea ns nj nm nt nr nc h (v16 * 31 + ((rS (bCk (bQ A ns nj nm (nI (g0 % 24))) k16)).toInt64)) ((rM (bCk (bQ A ns nj nm (nI (g0 % 24))) k16)).toInt64)) wY_X10_mixed wM_X10_392 wSt_X10_mixed wI_X10 (by decide +kernel) rfl rfl dX10_withBestShift_48 ⟨by decide, by decide⟩ (Nat.le_of_ble_eq_true rfl) (⟨Nat.le_of_ble_eq_true rfl, Nat.le_of_ble_eq_true rfl⟩) (fun v10 S1 H locs hp w => ?_)
        obtain ⟨rfl, rfl⟩ := hp
        have hv16n : (v16 * 31 + (rS (bCk (bQ A ns nj nm (nI (g0 % 24))) k16)).toInt64) * 31 + (rM (bCk (bQ A ns nj nm (nI (g0 % 24))) k16)).toInt64 = dgG (dgBs (bQ A ns nj nm (nI (g0 % 24)))) (k16 + 1) d := by rw [hv16, dgG_s (n := k16), dgBs_e]
        refine lv_lstore_n (lv' := [(3, .long ((v16 * 31 + ((rS (bCk (bQ A ns nj nm (nI (g0 % 24))) k16)).toInt64)) * 31 + ((rM (bCk (bQ A ns nj nm (nI (g0 % 24))) k16)).toInt64))), (0, .ref (gG S 10 0)), (1, .long d), (5, .int (nI k16))]) hx hb dX10_withBestShift_51 rfl hl (by decide) rfl (fun ls hl => ?_)
        refine lv_iinc (v := nI (k16 + 1)) (lv' := [(5, .int (nI (k16 + 1))), (3, .long ((v16 * 31 + ((rS (bCk (bQ A ns nj nm (nI (g0 % 24))) k16)).toInt64)) * 31 + ((rM (bCk (bQ A ns nj nm (nI (g0 % 24))) k16)).toInt64))), (0, .ref (gG S 10 0)), (1, .long d)]) hx hb dX10_withBestShift_52 hl (k := 3) rfl (nI_1 _) (by decide) rfl (fun ls hl => ?_)
        refine lv_goto (tgt := 16) hx hb dX10_withBestShift_55 (by decide) ?_
        exact ih16 (k16 + 1) ((v16 * 31 + ((rS (bCk (bQ A ns nj nm (nI (g0 % 24))) k16)).toInt64)) * 31 + ((rM (bCk (bQ A ns nj nm (nI (g0 % 24))) k16)).toInt64)) qa16 qb16 qc16 _ _ _ (by omega) (by omega) (hv16n) (hrow9) w (lv_sub hl [2, 3, 1, 0] rfl)
  exact L16 _ 0 d fq3 gq3 q3 _ _ _ (Nat.lt_succ_self _) (by omega) (by first | exact dgF_0.symm | exact dgG_0.symm) (hrow9) w (lv_sub hl [2, 3, 1, 0] rfl)

abbrev rm_e_X10_digest : Room := { frames := 8, cells := 0, slots := 0, locals := 189 }
set_option maxHeartbeats 4000000 in
set_option maxRecDepth 100000 in
theorem e_X10_digest {s0 : State} {l : Launch} {D : va_G} {cy : Nat → ClassId} (G : Gl s0 l D cy) (S : HS) (ea ns nj nm nt nr nc : Nat) (h : CI ea S ns nj nm nt nr nc) (A : HS) (hA : RK S A ns nj nm nt nr nc) (g0 : Nat) (hg : mI S 164 0 = nI g0) (hg7 : g0 ≤ 720) (hA7 : mI A 257 0 = nI g0) (hds : DS A nt) (hst : STR A nt) (a0 b0 c0 : Nat → Int32) : Ctr s0 l D cy yX10_digest cX10_digest 4 (some .long) rm_e_X10_digest (scr S a0 b0 c0) [.ref (gG S 10 0)] (fun v S' => some (.long (dgAll A ns nj nm nr nt g0 (mI S 165 0))) = v ∧ ∃ f g h9, S' = scr S f g h9) := by
  refine pro "CavershamShift" G rfl rfl (Nat.le_of_ble_eq_true rfl) (fun p e s m below meth c ls X w hnm hl => ?_)
  have hx := X.1
  have hb := X.2.1
  have hown := X.2.2.2.1
  have hts := X.2.2.2.2.1
  have hl : lv_has ls 4 [(0, .ref (gG S 10 0))] := hl
  have h0 := h
  have hA0 := hA
  have h : CI ea (scr S a0 b0 c0) ns nj nm nt nr nc := h0.scr _ _ _
  have hA : RK (scr S a0 b0 c0) A ns nj nm nt nr nc := hA0.scr
  refine lv_ldc2 hx hb hown (hts _ wK_X10_390) dX10_digest_0 ?_
  refine lv_lstore_n (lv' := [(1, .long 58269), (0, .ref (gG S 10 0))]) hx hb dX10_digest_3 rfl hl (by decide) rfl (fun ls hl => ?_)
  refine lv_iconst (v := 0) hx hb dX10_digest_4 (by decide) ?_
  refine lv_istore_n (lv' := [(3, .int 0), (1, .long 58269), (0, .ref (gG S 10 0))]) hx hb dX10_digest_5 rfl hl (by decide) rfl (fun ls hl => ?_)
  have L6 : ∀ (N : Nat) (k6 : Nat) (v6 : Int64) (H : Heap) (locs : List Loc) (ls : Array Slot), 19 - k6 < N → (k6 ≤ 19) → (v6 = dgF (rDesk A ns nj nm nr nt (mI S 165 0)) k6 58269) → Wd s0 D cy (scr S a0 b0 c0) s.heap H locs → lv_has ls 4 [(0, .ref (gG S 10 0)), (1, .long v6), (3, .int (nI k6))] → W p l e rm_e_X10_digest s m ([.ref (gG S 10 0)] : List Value).toArray below meth c H locs 0 0 (MQ below (GQ s0 D cy (fun v S' => some (.long (dgAll A ns nj nm nr nt g0 (mI S 165 0))) = v ∧ ∃ f g h9, S' = scr S f g h9)) ([.ref (gG S 10 0)] : List Value).toArray s rm_e_X10_digest.cells rm_e_X10_digest.slots (A0 s0)) (F0 m 6 ls []) := by
    intro N
    induction N with
    | zero => intros; omega
    | succ N ih6 =>
      intro k6 v6 H locs ls hmu hk_k6 hv6 w hl
      have h : CI ea (scr S a0 b0 c0) ns nj nm nt nr nc := h0.scr _ _ _
      have hA : RK (scr S a0 b0 c0) A ns nj nm nt nr nc := hA0.scr
      refine lv_iload_n hx hb dX10_digest_6 rfl (lv_at hl 2 rfl) ?_
      refine lv_bipush (v := 19) hx hb dX10_digest_7 (by decide) ?_
      refine lv_icmp_ge (tgt := 29) hx hb dX10_digest_9 (by decide) (fun hz_k6 => ?_) (fun hz_k6 => ?_)
      · have hge_k6 : 19 ≤ k6 := (nI_leI (a := 19) (b := k6) (by decide) (by omega)).mp hz_k6
        have hv6e : v6 = dgF (rDesk A ns nj nm nr nt (mI S 165 0)) 19 58269 := by rw [hv6, show k6 = 19 by omega]
        refine lv_aload_n hx hb dX10_digest_29 rfl (lv_at hl 0 rfl) ?_
        refine lv_lload_n hx hb dX10_digest_30 rfl (lv_at hl 1 rfl) ?_
        refine cV (S := (scr S a0 b0 c0)) (nA := 1) (As := [.long v6]) (rest := []) X w hl h.v10 (a_X10_withDial G (scr S a0 b0 c0) ea ns nj nm nt nr nc h A hA g0 hg hg7 hA7 v6) wY_X10_withDial wM_X10_396 wIn_X10_withDial wSe_X10_X10_withDial wI_X10 (by decide) rfl (by decide +kernel) rfl rfl dX10_digest_31 ⟨by decide, by decide⟩ (Nat.le_of_ble_eq_true rfl) (⟨Nat.le_of_ble_eq_true rfl, Nat.le_of_ble_eq_true rfl⟩) (fun v1 S1 H locs hp w => ?_)
        obtain ⟨rfl, rfl⟩ := hp
        refine lv_lstore_n (lv' := [(1, .long (dgDi A ns nj nm nt v6)), (0, .ref (gG S 10 0)), (3, .int (nI k6))]) hx hb dX10_digest_34 rfl hl (by decide) rfl (fun ls hl => ?_)
        refine lv_aload_n hx hb dX10_digest_35 rfl (lv_at hl 1 rfl) ?_
        refine lv_lload_n hx hb dX10_digest_36 rfl (lv_at hl 0 rfl) ?_
        refine cV (S := (scr S a0 b0 c0)) (nA := 1) (As := [.long (dgDi A ns nj nm nt v6)]) (rest := []) X w hl h.v10 (e_X10_withBestShift G S ea ns nj nm nt nr nc h0 A hA0 g0 hg hg7 hA7 (dgDi A ns nj nm nt v6) a0 b0 c0) wY_X10_withBestShift wM_X10_400 wIn_X10_withBestShift wSe_X10_X10_withBestShift wI_X10 (by decide) rfl (by decide +kernel) rfl rfl dX10_digest_37 ⟨by decide, by decide⟩ (Nat.le_of_ble_eq_true rfl) (⟨Nat.le_of_ble_eq_true rfl, Nat.le_of_ble_eq_true rfl⟩) (fun v3 S1 H locs hp w => ?_)
        obtain ⟨rfl, fq2, gq2, q2, rfl⟩ := hp
        have h : CI ea (scr S fq2 gq2 q2) ns nj nm nt nr nc := h0.scr _ _ _
        have hA : RK (scr S fq2 gq2 q2) A ns nj nm nt nr nc := hA0.scr
        refine lv_lstore_n (lv' := [(1, .long (dgG (dgBs (bQ A ns nj nm (nI (g0 % 24)))) 3 (dgDi A ns nj nm nt v6))), (0, .ref (gG S 10 0)), (3, .int (nI k6))]) hx hb dX10_digest_40 rfl hl (by decide) rfl (fun ls hl => ?_)
        refine lv_aload_n hx hb dX10_digest_41 rfl (lv_at hl 1 rfl) ?_
        refine lv_lload_n hx hb dX10_digest_42 rfl (lv_at hl 0 rfl) ?_
        refine cV (S := (scr S fq2 gq2 q2)) (nA := 1) (As := [.long (dgG (dgBs (bQ A ns nj nm (nI (g0 % 24)))) 3 (dgDi A ns nj nm nt v6))]) (rest := []) X w hl h.v10 (a_X10_withTalks G (scr S fq2 gq2 q2) ea ns nj nm nt nr nc h A hA g0 hg hg7 hA7 (dgG (dgBs (bQ A ns nj nm (nI (g0 % 24)))) 3 (dgDi A ns nj nm nt v6))) wY_X10_withTalks wM_X10_403 wIn_X10_withTalks wSe_X10_X10_withTalks wI_X10 (by decide) rfl (by decide +kernel) rfl rfl dX10_digest_43 ⟨by decide, by decide⟩ (Nat.le_of_ble_eq_true rfl) (⟨Nat.le_of_ble_eq_true rfl, Nat.le_of_ble_eq_true rfl⟩) (fun v4 S1 H locs hp w => ?_)
        obtain ⟨rfl, rfl⟩ := hp
        refine lv_lstore_n (lv' := [(1, .long (dgG (dgTa A nr) nt (dgG (dgBs (bQ A ns nj nm (nI (g0 % 24)))) 3 (dgDi A ns nj nm nt v6)))), (0, .ref (gG S 10 0)), (3, .int (nI k6))]) hx hb dX10_digest_46 rfl hl (by decide) rfl (fun ls hl => ?_)
        refine lv_aload_n hx hb dX10_digest_47 rfl (lv_at hl 1 rfl) ?_
        refine lv_lload_n hx hb dX10_digest_48 rfl (lv_at hl 0 rfl) ?_
        refine cV (S := (scr S fq2 gq2 q2)) (nA := 1) (As := [.long (dgG (dgTa A nr) nt (dgG (dgBs (bQ A ns nj nm (nI (g0 % 24)))) 3 (dgDi A ns nj nm nt v6)))]) (rest := []) X w hl h.v10 (a_X10_withReaders G (scr S fq2 gq2 q2) ea ns nj nm nt nr nc h A hA (dgG (dgTa A nr) nt (dgG (dgBs (bQ A ns nj nm (nI (g0 % 24)))) 3 (dgDi A ns nj nm nt v6)))) wY_X10_withReaders wM_X10_406 wIn_X10_withReaders wSe_X10_X10_withReaders wI_X10 (by decide) rfl (by decide +kernel) rfl rfl dX10_digest_49 ⟨by decide, by decide⟩ (Nat.le_of_ble_eq_true rfl) (⟨Nat.le_of_ble_eq_true rfl, Nat.le_of_ble_eq_true rfl⟩) (fun v5 S1 H locs hp w => ?_)
        obtain ⟨rfl, rfl⟩ := hp
        have hv55i : dgG (dgRe A nt) nr (dgG (dgTa A nr) nt (dgG (dgBs (bQ A ns nj nm (nI (g0 % 24)))) 3 (dgDi A ns nj nm nt v6))) = dgG (dgLa A nt) 0 (dgG (dgRe A nt) nr (dgG (dgTa A nr) nt (dgG (dgBs (bQ A ns nj nm (nI (g0 % 24)))) 3 (dgDi A ns nj nm nt (dgF (rDesk A ns nj nm nr nt (mI S 165 0)) 19 58269))))) := by rw [hv6e, dgG_0]
        refine lv_lstore_n (lv' := [(1, .long (dgG (dgRe A nt) nr (dgG (dgTa A nr) nt (dgG (dgBs (bQ A ns nj nm (nI (g0 % 24)))) 3 (dgDi A ns nj nm nt v6))))), (0, .ref (gG S 10 0)), (3, .int (nI k6))]) hx hb dX10_digest_52 rfl hl (by decide) rfl (fun ls hl => ?_)
        refine lv_iconst (v := 0) hx hb dX10_digest_53 (by decide) ?_
        refine lv_istore_n (lv' := [(3, .int 0), (1, .long (dgG (dgRe A nt) nr (dgG (dgTa A nr) nt (dgG (dgBs (bQ A ns nj nm (nI (g0 % 24)))) 3 (dgDi A ns nj nm nt v6))))), (0, .ref (gG S 10 0))]) hx hb dX10_digest_54 rfl hl (by decide) rfl (fun ls hl => ?_)
        have L55 : ∀ (N : Nat) (k55 : Nat) (v55 : Int64) (qa55 : Nat → Int32) (qb55 : Nat → Int32) (qc55 : Nat → Int32) (H : Heap) (locs : List Loc) (ls : Array Slot), 6 - k55 < N → (k55 ≤ 6) → (v55 = dgG (dgLa A nt) k55 (dgG (dgRe A nt) nr (dgG (dgTa A nr) nt (dgG (dgBs (bQ A ns nj nm (nI (g0 % 24)))) 3 (dgDi A ns nj nm nt (dgF (rDesk A ns nj nm nr nt (mI S 165 0)) 19 58269)))))) → Wd s0 D cy (scr S qa55 qb55 qc55) s.heap H locs → lv_has ls 4 [(0, .ref (gG S 10 0)), (1, .long v55), (3, .int (nI k55))] → W p l e rm_e_X10_digest s m ([.ref (gG S 10 0)] : List Value).toArray below meth c H locs 0 0 (MQ below (GQ s0 D cy (fun v S' => some (.long (dgAll A ns nj nm nr nt g0 (mI S 165 0))) = v ∧ ∃ f g h9, S' = scr S f g h9)) ([.ref (gG S 10 0)] : List Value).toArray s rm_e_X10_digest.cells rm_e_X10_digest.slots (A0 s0)) (F0 m 55 ls []) := by
          intro N
          induction N with
          | zero => intros; omega
          | succ N ih55 =>
            intro k55 v55 qa55 qb55 qc55 H locs ls hmu hk_k55 hv55 w hl
            have h : CI ea (scr S qa55 qb55 qc55) ns nj nm nt nr nc := h0.scr _ _ _
            have hA : RK (scr S qa55 qb55 qc55) A ns nj nm nt nr nc := hA0.scr
            refine lv_iload_n hx hb dX10_digest_55 rfl (lv_at hl 2 rfl) ?_
            refine lv_bipush (v := 6) hx hb dX10_digest_56 (by decide) ?_
            refine lv_icmp_ge (tgt := 103) hx hb dX10_digest_58 (by decide) (fun hz_k55 => ?_) (fun hz_k55 => ?_)
            · have hge_k55 : 6 ≤ k55 := (nI_leI (a := 6) (b := k55) (by decide) (by omega)).mp hz_k55
              have hv105i : v55 = dgF (dgTo A nt) 0 (dgG (dgLa A nt) 6 (dgG (dgRe A nt) nr (dgG (dgTa A nr) nt (dgG (dgBs (bQ A ns nj nm (nI (g0 % 24)))) 3 (dgDi A ns nj nm nt (dgF (rDesk A ns nj nm nr nt (mI S 165 0)) 19 58269)))))) := by rw [hv55, show k55 = 6 by omega, dgF_0]
              refine lv_iconst (v := 0) hx hb dX10_digest_103 (by decide) ?_
              refine lv_istore_n (lv' := [(3, .int 0), (0, .ref (gG S 10 0)), (1, .long v55)]) hx hb dX10_digest_104 rfl hl (by decide) rfl (fun ls hl => ?_)
              have L105 : ∀ (N : Nat) (k105 : Nat) (v105 : Int64) (qa105 : Nat → Int32) (qb105 : Nat → Int32) (qc105 : Nat → Int32) (H : Heap) (locs : List Loc) (ls : Array Slot), 16 - k105 < N → (k105 ≤ 16) → (v105 = dgF (dgTo A nt) k105 (dgG (dgLa A nt) 6 (dgG (dgRe A nt) nr (dgG (dgTa A nr) nt (dgG (dgBs (bQ A ns nj nm (nI (g0 % 24)))) 3 (dgDi A ns nj nm nt (dgF (rDesk A ns nj nm nr nt (mI S 165 0)) 19 58269))))))) → Wd s0 D cy (scr S qa105 qb105 qc105) s.heap H locs → lv_has ls 4 [(0, .ref (gG S 10 0)), (1, .long v105), (3, .int (nI k105))] → W p l e rm_e_X10_digest s m ([.ref (gG S 10 0)] : List Value).toArray below meth c H locs 0 0 (MQ below (GQ s0 D cy (fun v S' => some (.long (dgAll A ns nj nm nr nt g0 (mI S 165 0))) = v ∧ ∃ f g h9, S' = scr S f g h9)) ([.ref (gG S 10 0)] : List Value).toArray s rm_e_X10_digest.cells rm_e_X10_digest.slots (A0 s0)) (F0 m 105 ls []) := by
                intro N
                induction N with
                | zero => intros; omega
                | succ N ih105 =>
                  intro k105 v105 qa105 qb105 qc105 H locs ls hmu hk_k105 hv105 w hl
                  have h : CI ea (scr S qa105 qb105 qc105) ns nj nm nt nr nc := h0.scr _ _ _
                  have hA : RK (scr S qa105 qb105 qc105) A ns nj nm nt nr nc := hA0.scr
                  refine lv_iload_n hx hb dX10_digest_105 rfl (lv_at hl 2 rfl) ?_
                  refine lv_bipush (v := 16) hx hb dX10_digest_106 (by decide) ?_
                  refine lv_icmp_ge (tgt := 131) hx hb dX10_digest_108 (by decide) (fun hz_k105 => ?_) (fun hz_k105 => ?_)
                  · have hge_k105 : 16 ≤ k105 := (nI_leI (a := 16) (b := k105) (by decide) (by omega)).mp hz_k105
                    have hv105e : v105 = dgA A ns nj nm nr nt g0 (mI S 165 0) := by rw [hv105, show k105 = 16 by omega, dgA_e]
                    refine lv_lload_n hx hb dX10_digest_131 rfl (lv_at hl 1 rfl) ?_
                    refine lv_aload_n hx hb dX10_digest_132 rfl (lv_at hl 0 rfl) ?_
                    refine g_10_3 (S := (scr S qa105 qb105 qc105)) (x := (some (gG (scr S qa105 qb105 qc105) 2 0))) X w h.v10 wF_X10_37 (h.f163) dX10_digest_133 ?_
                    refine lv_aload_n hx hb dX10_digest_136 rfl (lv_at hl 0 rfl) ?_
                    refine cV (S := (scr S qa105 qb105 qc105)) (nA := 0) (As := []) (rest := [.ref (gG (scr S qa105 qb105 qc105) 2 0), .long v105]) X w hl h.v10 (m_X10_hourOfDay G (scr S qa105 qb105 qc105) ea ns nj nm nt nr nc h ) wY_X10_hourOfDay wM_X10_411 wIn_X10_hourOfDay wSe_X10_X10_hourOfDay wI_X10 (by decide) rfl (by decide +kernel) rfl rfl dX10_digest_137 ⟨by decide, by decide⟩ (Nat.le_of_ble_eq_true rfl) (⟨Nat.le_of_ble_eq_true rfl, Nat.le_of_ble_eq_true rfl⟩) (fun v6 S1 H locs hp w => ?_)
                    obtain ⟨rfl, rfl⟩ := hp
                    refine lv_topi (fun z7 ez7 => ?_)
                    obtain rfl : z7 = (nI (g0 % 24)) := ez7.trans (hod hg (by omega))
                    refine cV (S := (scr S qa105 qb105 qc105)) (nA := 1) (As := [.int (nI (g0 % 24))]) (rest := [.long v105]) X w hl h.v2 (e_X2_greatestSum G S ea ns nj nm nt nr nc h0 A hA0 (nI (g0 % 24)) qa105 qb105 qc105) wY_X2_greatestSum wM_X10_359 wIn_X2_greatestSum wSe_X2_X2_greatestSum wI_X2 (by decide) rfl (by decide +kernel) rfl rfl dX10_digest_140 ⟨by decide, by decide⟩ (Nat.le_of_ble_eq_true rfl) (⟨Nat.le_of_ble_eq_true rfl, Nat.le_of_ble_eq_true rfl⟩) (fun v9 S1 H locs hp w => ?_)
                    obtain ⟨rfl, fq8, gq8, rfl⟩ := hp
                    have h : CI ea (scr S fq8 gq8 qc105) ns nj nm nt nr nc := h0.scr _ _ _
                    have hA : RK (scr S fq8 gq8 qc105) A ns nj nm nt nr nc := hA0.scr
                    refine lv_i2l hx hb dX10_digest_143 rfl ?_
                    refine cS (S := (scr S fq8 gq8 qc105)) (nA := 2) (As := [.long v105, .long ((nI (bG (bQ A ns nj nm (nI (g0 % 24))) 3 nF nF)).toInt64)]) (rest := []) X w hl (m_X10_mixed G (scr S fq8 gq8 qc105) ea ns nj nm nt nr nc h v105 ((nI (bG (bQ A ns nj nm (nI (g0 % 24))) 3 nF nF)).toInt64)) wY_X10_mixed wM_X10_392 wSt_X10_mixed wI_X10 (by decide +kernel) rfl rfl dX10_digest_144 ⟨by decide, by decide⟩ (Nat.le_of_ble_eq_true rfl) (⟨Nat.le_of_ble_eq_true rfl, Nat.le_of_ble_eq_true rfl⟩) (fun v10 S1 H locs hp w => ?_)
                    obtain ⟨rfl, rfl⟩ := hp
                    refine lv_lstore_n (lv' := [(1, .long (v105 * 31 + ((nI (bG (bQ A ns nj nm (nI (g0 % 24))) 3 nF nF)).toInt64))), (0, .ref (gG S 10 0)), (3, .int (nI k105))]) hx hb dX10_digest_147 rfl hl (by decide) rfl (fun ls hl => ?_)
                    refine lv_lload_n hx hb dX10_digest_148 rfl (lv_at hl 0 rfl) ?_
                    refine lv_aload_n hx hb dX10_digest_149 rfl (lv_at hl 1 rfl) ?_
                    refine g_10_2 (S := (scr S fq8 gq8 qc105)) (x := (some (gG (scr S fq8 gq8 qc105) 4 0))) X w h.v10 wF_X10_28 (h.f162) dX10_digest_150 ?_
                    refine lv_aload_n hx hb dX10_digest_153 rfl (lv_at hl 1 rfl) ?_
                    refine g_10_4 (S := (scr S fq8 gq8 qc105)) (x := (nI g0)) X w h.v10 wF_X10_41 (hg) dX10_digest_154 ?_
                    refine cV (S := (scr S fq8 gq8 qc105)) (nA := 1) (As := [.int (nI g0)]) (rest := [.long (v105 * 31 + ((nI (bG (bQ A ns nj nm (nI (g0 % 24))) 3 nF nF)).toInt64))]) X w hl h.v4 (a_X4_countToSend G (scr S fq8 gq8 qc105) ea ns nj nm nt nr nc h A hA g0 (hg7)) wY_X4_countToSend wM_X10_380 wIn_X4_countToSend wSe_X4_X4_countToSend wI_X4 (by decide) rfl (by decide +kernel) rfl rfl dX10_digest_157 ⟨by decide, by decide⟩ (Nat.le_of_ble_eq_true rfl) (⟨Nat.le_of_ble_eq_true rfl, Nat.le_of_ble_eq_true rfl⟩) (fun v11 S1 H locs hp w => ?_)
                    obtain ⟨rfl, rfl⟩ := hp
                    refine lv_i2l hx hb dX10_digest_160 rfl ?_
                    refine cS (S := (scr S fq8 gq8 qc105)) (nA := 2) (As := [.long (v105 * 31 + ((nI (bG (bQ A ns nj nm (nI (g0 % 24))) 3 nF nF)).toInt64)), .long ((wsN A nt nr g0).toInt64)]) (rest := []) X w hl (m_X10_mixed G (scr S fq8 gq8 qc105) ea ns nj nm nt nr nc h (v105 * 31 + ((nI (bG (bQ A ns nj nm (nI (g0 % 24))) 3 nF nF)).toInt64)) ((wsN A nt nr g0).toInt64)) wY_X10_mixed wM_X10_392 wSt_X10_mixed wI_X10 (by decide +kernel) rfl rfl dX10_digest_161 ⟨by decide, by decide⟩ (Nat.le_of_ble_eq_true rfl) (⟨Nat.le_of_ble_eq_true rfl, Nat.le_of_ble_eq_true rfl⟩) (fun v12 S1 H locs hp w => ?_)
                    obtain ⟨rfl, rfl⟩ := hp
                    refine lv_lstore_n (lv' := [(1, .long ((v105 * 31 + ((nI (bG (bQ A ns nj nm (nI (g0 % 24))) 3 nF nF)).toInt64)) * 31 + ((wsN A nt nr g0).toInt64))), (0, .ref (gG S 10 0)), (3, .int (nI k105))]) hx hb dX10_digest_164 rfl hl (by decide) rfl (fun ls hl => ?_)
                    refine lv_lload_n hx hb dX10_digest_165 rfl (lv_at hl 0 rfl) ?_
                    refine lv_aload_n hx hb dX10_digest_166 rfl (lv_at hl 1 rfl) ?_
                    refine cV (S := (scr S fq8 gq8 qc105)) (nA := 0) (As := []) (rest := [.long ((v105 * 31 + ((nI (bG (bQ A ns nj nm (nI (g0 % 24))) 3 nF nF)).toInt64)) * 31 + ((wsN A nt nr g0).toInt64))]) X w hl h.v10 (a_X10_isSound G (scr S fq8 gq8 qc105) ea ns nj nm nt nr nc h A hA hst) wY_X10_isSound wM_X10_414 wIn_X10_isSound wSe_X10_X10_isSound wI_X10 (by decide) rfl (by decide +kernel) rfl rfl dX10_digest_167 ⟨by decide, by decide⟩ (Nat.le_of_ble_eq_true rfl) (⟨Nat.le_of_ble_eq_true rfl, Nat.le_of_ble_eq_true rfl⟩) (fun v13 S1 H locs hp w => ?_)
                    obtain ⟨rfl, rfl⟩ := hp
                    refine lv_if_eq (tgt := 177) hx hb dX10_digest_170 (by decide) (fun h170 => ?_) (fun h170 => ?_)
                    · exact absurd h170 (by decide)
                    · refine lv_lconst (v := 1) hx hb dX10_digest_173 (by decide) ?_
                      refine lv_goto (tgt := 178) hx hb dX10_digest_174 (by decide) ?_
                      refine cS (S := (scr S fq8 gq8 qc105)) (nA := 2) (As := [.long ((v105 * 31 + ((nI (bG (bQ A ns nj nm (nI (g0 % 24))) 3 nF nF)).toInt64)) * 31 + ((wsN A nt nr g0).toInt64)), .long 1]) (rest := []) X w hl (m_X10_mixed G (scr S fq8 gq8 qc105) ea ns nj nm nt nr nc h ((v105 * 31 + ((nI (bG (bQ A ns nj nm (nI (g0 % 24))) 3 nF nF)).toInt64)) * 31 + ((wsN A nt nr g0).toInt64)) 1) wY_X10_mixed wM_X10_392 wSt_X10_mixed wI_X10 (by decide +kernel) rfl rfl dX10_digest_178 ⟨by decide, by decide⟩ (Nat.le_of_ble_eq_true rfl) (⟨Nat.le_of_ble_eq_true rfl, Nat.le_of_ble_eq_true rfl⟩) (fun v14 S1 H locs hp w => ?_)
                      obtain ⟨rfl, rfl⟩ := hp
                      exact rL X w rfl dX10_digest_181 (by decide) (by decide) (⟨by rw [hv105e, dgAll_e], _, _, _, rfl⟩)
                  · have hlt_k105 : k105 < 16 := Nat.lt_of_not_le (fun z => hz_k105 ((nI_leI (a := 16) (b := k105) (by decide) (by omega)).mpr z))
                    refine lv_lload_n hx hb dX10_digest_111 rfl (lv_at hl 1 rfl) ?_
                    refine lv_aload_n hx hb dX10_digest_112 rfl (lv_at hl 0 rfl) ?_
                    refine g_10_2 (S := (scr S qa105 qb105 qc105)) (x := (some (gG (scr S qa105 qb105 qc105) 4 0))) X w h.v10 wF_X10_28 (h.f162) dX10_digest_113 ?_
                    refine lv_iload_n hx hb dX10_digest_116 rfl (lv_at hl 2 rfl) ?_
                    refine cV (S := (scr S qa105 qb105 qc105)) (nA := 1) (As := [.int (nI k105)]) (rest := [.long v105]) X w hl h.v4 (a_X4_firstSentOn G (scr S qa105 qb105 qc105) ea ns nj nm nt nr nc h A hA (nI k105)) wY_X4_firstSentOn wM_X10_300 wIn_X4_firstSentOn wSe_X4_X4_firstSentOn wI_X4 (by decide) rfl (by decide +kernel) rfl rfl dX10_digest_117 ⟨by decide, by decide⟩ (Nat.le_of_ble_eq_true rfl) (⟨Nat.le_of_ble_eq_true rfl, Nat.le_of_ble_eq_true rfl⟩) (fun v15 S1 H locs hp w => ?_)
                    obtain ⟨rfl, rfl⟩ := hp
                    refine lv_i2l hx hb dX10_digest_120 rfl ?_
                    refine cS (S := (scr S qa105 qb105 qc105)) (nA := 2) (As := [.long v105, .long ((rFirst A (nI k105) nt).toInt64)]) (rest := []) X w hl (m_X10_mixed G (scr S qa105 qb105 qc105) ea ns nj nm nt nr nc h v105 ((rFirst A (nI k105) nt).toInt64)) wY_X10_mixed wM_X10_392 wSt_X10_mixed wI_X10 (by decide +kernel) rfl rfl dX10_digest_121 ⟨by decide, by decide⟩ (Nat.le_of_ble_eq_true rfl) (⟨Nat.le_of_ble_eq_true rfl, Nat.le_of_ble_eq_true rfl⟩) (fun v16 S1 H locs hp w => ?_)
                    obtain ⟨rfl, rfl⟩ := hp
                    have hv105n : v105 * 31 + (rFirst A (nI k105) nt).toInt64 = dgF (dgTo A nt) (k105 + 1) (dgG (dgLa A nt) 6 (dgG (dgRe A nt) nr (dgG (dgTa A nr) nt (dgG (dgBs (bQ A ns nj nm (nI (g0 % 24)))) 3 (dgDi A ns nj nm nt (dgF (rDesk A ns nj nm nr nt (mI S 165 0)) 19 58269)))))) := by rw [hv105, dgF_s (n := k105), dgTo_e]
                    refine lv_lstore_n (lv' := [(1, .long (v105 * 31 + ((rFirst A (nI k105) nt).toInt64))), (0, .ref (gG S 10 0)), (3, .int (nI k105))]) hx hb dX10_digest_124 rfl hl (by decide) rfl (fun ls hl => ?_)
                    refine lv_iinc (v := nI (k105 + 1)) (lv' := [(3, .int (nI (k105 + 1))), (1, .long (v105 * 31 + ((rFirst A (nI k105) nt).toInt64))), (0, .ref (gG S 10 0))]) hx hb dX10_digest_125 hl (k := 2) rfl (nI_1 _) (by decide) rfl (fun ls hl => ?_)
                    refine lv_goto (tgt := 105) hx hb dX10_digest_128 (by decide) ?_
                    exact ih105 (k105 + 1) (v105 * 31 + ((rFirst A (nI k105) nt).toInt64)) qa105 qb105 qc105 _ _ _ (by omega) (by omega) (hv105n) w (lv_sub hl [2, 1, 0] rfl)
              exact L105 _ 0 v55 qa55 qb55 qc55 _ _ _ (Nat.lt_succ_self _) (by omega) (hv105i) w (lv_sub hl [1, 2, 0] rfl)
            · have hlt_k55 : k55 < 6 := Nat.lt_of_not_le (fun z => hz_k55 ((nI_leI (a := 6) (b := k55) (by decide) (by omega)).mpr z))
              refine lv_lload_n hx hb dX10_digest_61 rfl (lv_at hl 1 rfl) ?_
              refine lv_aload_n hx hb dX10_digest_62 rfl (lv_at hl 0 rfl) ?_
              refine g_10_2 (S := (scr S qa55 qb55 qc55)) (x := (some (gG (scr S qa55 qb55 qc55) 4 0))) X w h.v10 wF_X10_28 (h.f162) dX10_digest_63 ?_
              refine lv_iload_n hx hb dX10_digest_66 rfl (lv_at hl 2 rfl) ?_
              refine lv_aload_n hx hb dX10_digest_67 rfl (lv_at hl 0 rfl) ?_
              refine cV (S := (scr S qa55 qb55 qc55)) (nA := 0) (As := []) (rest := [.int (nI k55), .ref (gG (scr S qa55 qb55 qc55) 4 0), .long v55]) X w hl h.v10 (m_X10_day G (scr S qa55 qb55 qc55) ea ns nj nm nt nr nc h ) wY_X10_day wM_X10_292 wIn_X10_day wSe_X10_X10_day wI_X10 (by decide) rfl (by decide +kernel) rfl rfl dX10_digest_68 ⟨by decide, by decide⟩ (Nat.le_of_ble_eq_true rfl) (⟨Nat.le_of_ble_eq_true rfl, Nat.le_of_ble_eq_true rfl⟩) (fun v17 S1 H locs hp w => ?_)
              obtain ⟨rfl, rfl⟩ := hp
              refine lv_topi (fun z18 ez18 => ?_)
              obtain rfl : z18 = (mI A 257 0 / 24) := ez18.trans (by show mI S 164 0 / 24 = _; rw [hg, hA7])
              refine cV (S := (scr S qa55 qb55 qc55)) (nA := 2) (As := [.int (nI k55), .int (mI A 257 0 / 24)]) (rest := [.long v55]) X w hl h.v4 (a_X4_goneFrom G (scr S qa55 qb55 qc55) ea ns nj nm nt nr nc h A hA g0 (hg) (hg7) (hA7) (nI k55)) wY_X4_goneFrom wM_X10_295 wIn_X4_goneFrom wSe_X4_X4_goneFrom wI_X4 (by decide) rfl (by decide +kernel) rfl rfl dX10_digest_71 ⟨by decide, by decide⟩ (Nat.le_of_ble_eq_true rfl) (⟨Nat.le_of_ble_eq_true rfl, Nat.le_of_ble_eq_true rfl⟩) (fun v19 S1 H locs hp w => ?_)
              obtain ⟨rfl, rfl⟩ := hp
              refine lv_i2l hx hb dX10_digest_74 rfl ?_
              refine cS (S := (scr S qa55 qb55 qc55)) (nA := 2) (As := [.long v55, .long ((rGone A nt (nI k55) 16).toInt64)]) (rest := []) X w hl (m_X10_mixed G (scr S qa55 qb55 qc55) ea ns nj nm nt nr nc h v55 ((rGone A nt (nI k55) 16).toInt64)) wY_X10_mixed wM_X10_392 wSt_X10_mixed wI_X10 (by decide +kernel) rfl rfl dX10_digest_75 ⟨by decide, by decide⟩ (Nat.le_of_ble_eq_true rfl) (⟨Nat.le_of_ble_eq_true rfl, Nat.le_of_ble_eq_true rfl⟩) (fun v20 S1 H locs hp w => ?_)
              obtain ⟨rfl, rfl⟩ := hp
              refine lv_lstore_n (lv' := [(1, .long (v55 * 31 + ((rGone A nt (nI k55) 16).toInt64))), (0, .ref (gG S 10 0)), (3, .int (nI k55))]) hx hb dX10_digest_78 rfl hl (by decide) rfl (fun ls hl => ?_)
              refine lv_lload_n hx hb dX10_digest_79 rfl (lv_at hl 0 rfl) ?_
              refine lv_ldc2d hx hb hown (hts _ wK_X10_409) dX10_digest_80 ?_
              refine lv_aload_n hx hb dX10_digest_83 rfl (lv_at hl 1 rfl) ?_
              refine g_10_2 (S := (scr S qa55 qb55 qc55)) (x := (some (gG (scr S qa55 qb55 qc55) 4 0))) X w h.v10 wF_X10_28 (h.f162) dX10_digest_84 ?_
              refine lv_iload_n hx hb dX10_digest_87 rfl (lv_at hl 2 rfl) ?_
              refine cV (S := (scr S qa55 qb55 qc55)) (nA := 1) (As := [.int (nI k55)]) (rest := [.double 4634204016564240384, .long (v55 * 31 + ((rGone A nt (nI k55) 16).toInt64))]) X w hl h.v4 (a_X4_meanQuality G (scr S qa55 qb55 qc55) ea ns nj nm nt nr nc h A hA (nI k55)) wY_X4_meanQuality wM_X10_304 wIn_X4_meanQuality wSe_X4_X4_meanQuality wI_X4 (by decide) rfl (by decide +kernel) rfl rfl dX10_digest_88 ⟨by decide, by decide⟩ (Nat.le_of_ble_eq_true rfl) (⟨Nat.le_of_ble_eq_true rfl, Nat.le_of_ble_eq_true rfl⟩) (fun v21 S1 H locs hp w => ?_)
              obtain ⟨rfl, rfl⟩ := hp
              refine lv_dmul hx hb dX10_digest_91 (n64_of (nan_mul rMean_n2)) ?_
              refine lv_d2l hx hb dX10_digest_92 ?_
              refine cS (S := (scr S qa55 qb55 qc55)) (nA := 2) (As := [.long (v55 * 31 + ((rGone A nt (nI k55) 16).toInt64)), .long (FP.d2l (FP.dmul 4634204016564240384 (rMean A nt (nI k55))))]) (rest := []) X w hl (m_X10_mixed G (scr S qa55 qb55 qc55) ea ns nj nm nt nr nc h (v55 * 31 + ((rGone A nt (nI k55) 16).toInt64)) (FP.d2l (FP.dmul 4634204016564240384 (rMean A nt (nI k55))))) wY_X10_mixed wM_X10_392 wSt_X10_mixed wI_X10 (by decide +kernel) rfl rfl dX10_digest_93 ⟨by decide, by decide⟩ (Nat.le_of_ble_eq_true rfl) (⟨Nat.le_of_ble_eq_true rfl, Nat.le_of_ble_eq_true rfl⟩) (fun v22 S1 H locs hp w => ?_)
              obtain ⟨rfl, rfl⟩ := hp
              have hv55n : (v55 * 31 + (rGone A nt (nI k55) 16).toInt64) * 31 + FP.d2l (FP.dmul 4634204016564240384 (rMean A nt (nI k55))) = dgG (dgLa A nt) (k55 + 1) (dgG (dgRe A nt) nr (dgG (dgTa A nr) nt (dgG (dgBs (bQ A ns nj nm (nI (g0 % 24)))) 3 (dgDi A ns nj nm nt (dgF (rDesk A ns nj nm nr nt (mI S 165 0)) 19 58269))))) := by rw [hv55, dgG_s (n := k55), dgLa_e]
              refine lv_lstore_n (lv' := [(1, .long ((v55 * 31 + ((rGone A nt (nI k55) 16).toInt64)) * 31 + (FP.d2l (FP.dmul 4634204016564240384 (rMean A nt (nI k55)))))), (0, .ref (gG S 10 0)), (3, .int (nI k55))]) hx hb dX10_digest_96 rfl hl (by decide) rfl (fun ls hl => ?_)
              refine lv_iinc (v := nI (k55 + 1)) (lv' := [(3, .int (nI (k55 + 1))), (1, .long ((v55 * 31 + ((rGone A nt (nI k55) 16).toInt64)) * 31 + (FP.d2l (FP.dmul 4634204016564240384 (rMean A nt (nI k55)))))), (0, .ref (gG S 10 0))]) hx hb dX10_digest_97 hl (k := 2) rfl (nI_1 _) (by decide) rfl (fun ls hl => ?_)
              refine lv_goto (tgt := 55) hx hb dX10_digest_100 (by decide) ?_
              exact ih55 (k55 + 1) ((v55 * 31 + ((rGone A nt (nI k55) 16).toInt64)) * 31 + (FP.d2l (FP.dmul 4634204016564240384 (rMean A nt (nI k55))))) qa55 qb55 qc55 _ _ _ (by omega) (by omega) (hv55n) w (lv_sub hl [2, 1, 0] rfl)
        exact L55 _ 0 (dgG (dgRe A nt) nr (dgG (dgTa A nr) nt (dgG (dgBs (bQ A ns nj nm (nI (g0 % 24)))) 3 (dgDi A ns nj nm nt v6)))) fq2 gq2 q2 _ _ _ (Nat.lt_succ_self _) (by omega) (hv55i) w (lv_sub hl [2, 1, 0] rfl)
      · have hlt_k6 : k6 < 19 := Nat.lt_of_not_le (fun z => hz_k6 ((nI_leI (a := 19) (b := k6) (by decide) (by omega)).mpr z))
        refine lv_lload_n hx hb dX10_digest_12 rfl (lv_at hl 1 rfl) ?_
        refine lv_aload_n hx hb dX10_digest_13 rfl (lv_at hl 0 rfl) ?_
        refine lv_iload_n hx hb dX10_digest_14 rfl (lv_at hl 2 rfl) ?_
        refine cV (S := (scr S a0 b0 c0)) (nA := 1) (As := [.int (nI k6)]) (rest := [.long v6]) X w hl h.v10 (a_X10_deskFact G (scr S a0 b0 c0) ea ns nj nm nt nr nc h A hA g0 (hg) (hg7) (hA7) (hds) k6 hlt_k6) wY_X10_deskFact wM_X10_308 wIn_X10_deskFact wSe_X10_X10_deskFact wI_X10 (by decide) rfl (by decide +kernel) rfl rfl dX10_digest_15 ⟨by decide, by decide⟩ (Nat.le_of_ble_eq_true rfl) (⟨Nat.le_of_ble_eq_true rfl, Nat.le_of_ble_eq_true rfl⟩) (fun v23 S1 H locs hp w => ?_)
        obtain ⟨rfl, rfl⟩ := hp
        refine lv_i2l hx hb dX10_digest_18 rfl ?_
        refine cS (S := (scr S a0 b0 c0)) (nA := 2) (As := [.long v6, .long ((rDesk A ns nj nm nr nt (mI S 165 0) k6).toInt64)]) (rest := []) X w hl (m_X10_mixed G (scr S a0 b0 c0) ea ns nj nm nt nr nc h v6 ((rDesk A ns nj nm nr nt (mI S 165 0) k6).toInt64)) wY_X10_mixed wM_X10_392 wSt_X10_mixed wI_X10 (by decide +kernel) rfl rfl dX10_digest_19 ⟨by decide, by decide⟩ (Nat.le_of_ble_eq_true rfl) (⟨Nat.le_of_ble_eq_true rfl, Nat.le_of_ble_eq_true rfl⟩) (fun v24 S1 H locs hp w => ?_)
        obtain ⟨rfl, rfl⟩ := hp
        have hv6n : v6 * 31 + (rDesk A ns nj nm nr nt (mI S 165 0) k6).toInt64 = dgF (rDesk A ns nj nm nr nt (mI S 165 0)) (k6 + 1) 58269 := by rw [hv6, dgF_s (n := k6)]
        refine lv_lstore_n (lv' := [(1, .long (v6 * 31 + ((rDesk A ns nj nm nr nt (mI S 165 0) k6).toInt64))), (0, .ref (gG S 10 0)), (3, .int (nI k6))]) hx hb dX10_digest_22 rfl hl (by decide) rfl (fun ls hl => ?_)
        refine lv_iinc (v := nI (k6 + 1)) (lv' := [(3, .int (nI (k6 + 1))), (1, .long (v6 * 31 + ((rDesk A ns nj nm nr nt (mI S 165 0) k6).toInt64))), (0, .ref (gG S 10 0))]) hx hb dX10_digest_23 hl (k := 2) rfl (nI_1 _) (by decide) rfl (fun ls hl => ?_)
        refine lv_goto (tgt := 6) hx hb dX10_digest_26 (by decide) ?_
        exact ih6 (k6 + 1) (v6 * 31 + ((rDesk A ns nj nm nr nt (mI S 165 0) k6).toInt64)) _ _ _ (by omega) (by omega) (hv6n) w (lv_sub hl [2, 1, 0] rfl)
  exact L6 _ 0 58269 _ _ _ (Nat.lt_succ_self _) (by omega) (by first | exact dgF_0.symm | exact dgG_0.symm) w (lv_sub hl [2, 1, 0] rfl)

theorem q_X10_digest {s0 : State} {l : Launch} {D : va_G} {cy : Nat → ClassId} (G : Gl s0 l D cy) (S : HS) (ea ns nj nm nt nr nc : Nat) (h : CI ea S ns nj nm nt nr nc) (A : HS) (hA : RK S A ns nj nm nt nr nc) (g0 : Nat) (hg : mI S 164 0 = nI g0) (hg7 : g0 ≤ 720) (hA7 : mI A 257 0 = nI g0) (hds : DS A nt) (hst : STR A nt) : Ctr s0 l D cy yX10_digest cX10_digest 4 (some .long) rm_e_X10_digest S [.ref (gG S 10 0)] (fun v S' => some (.long (dgAll A ns nj nm nr nt g0 (mI S 165 0))) = v ∧ ∃ f g h9, S' = scr S f g h9) := by
  have z9 := e_X10_digest G S ea ns nj nm nt nr nc h A hA g0 hg hg7 hA7 hds hst (mA S 32 2) (mA S 32 3) (mA S 32 4)
  rw [scr_id] at z9
  exact z9