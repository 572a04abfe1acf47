def hvH (t i : Nat) : Bool := hvQ t i || (t == 40 && i == 0)
def hiHr (f i : Nat) : Bool := f == 257 || hiQ f i
theorem q12 {S T : HS} (k : Kq hvQ hiQ hrQ S T) : Kq hvH hiHr hrQ S T := k.le (fun t i h => (Bool.or_eq_false_iff.mp h).1) (fun t i h => (Bool.or_eq_false_iff.mp h).2) (fun t i h => h)
theorem q1V {t i : Nat} (h : hvQ t i = true) : refV t i = true := by
  have z : ((t = 17 ∨ t = 30) ∧ i = 11) ∨ t = 35 := by simpa [hvQ] using h
  rcases z with ⟨rfl | rfl, rfl⟩ | rfl <;> rfl
theorem q1I {f i : Nat} (e : hiQ f i = true) : refI f i = true := by
    have z : (246 ≤ f ∧ f ≤ 255) ∨ f / 16 = 12 ∨ f = 258 ∨ f = 261 ∨ ((f = 272 ∨ f = 274) ∧ i = 11) := by simpa [hiQ, Nat.ble_eq] using e
    have e1 : (f == 260 || (f == 257 || f == 259)) = false := by
      have h5 : f ≠ 260 := by omega
      have h4 : f ≠ 257 := by omega
      have h3 : f ≠ 259 := by omega
      simp [h5, h4, h3]
    have e2 : refX f = false := refX_f (by omega)
    unfold refI
    rw [e1, e2]
    rcases z with z | z | rfl | rfl | ⟨rfl | rfl, rfl⟩
    · rw [show f / 16 = 15 by omega]; rfl
    · rw [z]; rfl
    · rfl
    · rfl
    · rfl
    · rfl
theorem q1R {f i : Nat} (e : hrQ f i = true) : refR f i = true := by
    have z : f = 267 ∨ (f = 273 ∧ i = 11) := by simpa [hrQ] using e
    rcases z with rfl | ⟨rfl, rfl⟩ <;> rfl
theorem q2k {S T : HS} (k : Kq hvH hiHr hrQ S T) : KeepRP S T := k.le (fun t i => ff_of fun e => by
    rcases Bool.or_eq_true_iff.mp e with e | e
    · exact q1V e
    · have z : t = 40 ∧ i = 0 := by simpa using e
      rw [z.1]; rfl) (fun f i => ff_of fun e => by
    rcases Bool.or_eq_true_iff.mp e with e | e
    · have z : f = 257 := by simpa using e
      rw [z]; rfl
    · exact refP_of (q1I e)) (fun f i => ff_of q1R)
def hiHp (f i : Nat) : Bool := f == 256 || hiHr f i
theorem q2p {S T : HS} (k : Kq hvH hiHr hrQ S T) : Kq hvH hiHp hrQ S T := k.le (fun t i h => h) (fun t i h => (Bool.or_eq_false_iff.mp h).2) (fun t i h => h)
theorem qpk {S T : HS} (k : Kq hvH hiHp hrQ S T) : KeepRP S T := k.le (fun t i => ff_of fun e => by
    rcases Bool.or_eq_true_iff.mp e with e | e
    · exact q1V e
    · have z : t = 40 ∧ i = 0 := by simpa using e
      rw [z.1]; rfl) (fun f i => ff_of fun e => by
    rcases Bool.or_eq_true_iff.mp e with e | e
    · have z : f = 256 := by simpa using e
      rw [z]; rfl
    rcases Bool.or_eq_true_iff.mp e with e | e
    · have z : f = 257 := by simpa using e
      rw [z]; rfl
    · exact refP_of (q1I e)) (fun f i => ff_of q1R)
/-- without the temporary row of the hour -/
def dr40 (S : HS) : HS := sDrop S (fun t i => t = 40 ∧ i = 0)
theorem R39_d40 {S : HS} : R39 (dr40 S) = R39 S := by
  unfold R39
  have e1 : (fun t' i' => if t' < 39 then vV (dr40 S) t' i' else True) = (fun t' i' => if t' < 39 then vV S t' i' else True) := by
    funext t' i'
    by_cases z : t' < 39
    · rw [if_pos z, if_pos z]
      exact propext ⟨fun y => y.1, fun y => ⟨y, fun e => by omega⟩⟩
    · rw [if_neg z, if_neg z]
  rw [e1]; rfl
theorem RI.d40 {ea : Nat} {S : HS} {ns nj nm nt nr nq : Nat} (h : RI ea S ns nj nm nt nr nq) : RI ea (dr40 S) ns nj nm nt nr nq := by
  rw [← RI_39, R39_d40, RI_39]; exact h
theorem Wd.d40 {s0 : State} {D : va_G} {cy : Nat → ClassId} {S : HS} {H0 H : Heap} {locs : List Loc} (w : Wd s0 D cy S H0 H locs) : Wd s0 D cy (dr40 S) H0 H locs := by
  obtain ⟨⟨⟨ws, hP, hD, hm⟩, inj⟩, hS⟩ := w
  exact ⟨⟨⟨ws, hP, hD, fun t i h => hm t i h.1⟩, fun t i t' i' h h' => inj t i t' i' h.1 h'.1⟩, hS⟩
theorem Kq.d40 {S T : HS} (k : Kq hvH hiHr hrQ S T) : Kq hvH hiHr hrQ S (dr40 T) := ⟨fun t i h => by
  obtain ⟨k1, k2, k3, k4, k5⟩ := k.1 t i h
  refine ⟨?_, k2, k3, k4, k5⟩
  rw [← k1]
  exact propext ⟨fun y => y.1, fun y => ⟨y, fun e => by rw [e.1, e.2] at h; exact absurd h (by decide)⟩⟩, k.2⟩
def wq (S : HS) (nt : Nat) : Nat := cntB (fun k => decide (mI S 247 k = 0)) nt
theorem wq_s {S T : HS} {nt b : Nat} (hb : b < nt) (h0 : mI S 247 b = 0) (e : ∀ i, mI T 247 i = if i = b then 1 else mI S 247 i) : wq T nt + 1 ≤ wq S nt := by
  refine cntB_lt nt (fun k _ z => ?_) b hb ?_ (decide_eq_true h0)
  · have z1 := of_decide_eq_true z
    rw [e] at z1
    by_cases c : k = b
    · rw [if_pos c] at z1; exact absurd z1 (by decide)
    · rw [if_neg c] at z1; exact decide_eq_true z1
  · show decide (mI T 247 b = 0) = false
    rw [e, if_pos rfl]; rfl

theorem hq40y {s0 : State} {S : HS} {nq nt b : Nat} (q : QI s0 S nq nt) (ht : nt ≤ 40) (hb : b < nt) (hz : mI S 253 b = 0) : nq + 1 ≤ 40 := by
  have h1 := cntB_lt (p := fun j => decide (mI S 253 j ≠ 0)) (q := fun _ => true) nt (fun _ _ _ => rfl) b hb (by simp [hz]) rfl
  have h2 := q.2
  have h3 := cntB_le (fun _ => true) nt
  omega

theorem dX16_hour_0 : decode cX16_hour 0 = .ok (.iconst 0, 1) := by decide +kernel
theorem dX16_hour_1 : decode cX16_hour 1 = .ok (.istore_n 1, 1) := by decide +kernel
theorem dX16_hour_2 : decode cX16_hour 2 = .ok (.iload_n 1, 1) := by decide +kernel
theorem dX16_hour_3 : decode cX16_hour 3 = .ok (.aload_n 0, 1) := by decide +kernel
theorem dX16_hour_4 : decode cX16_hour 4 = .ok (.getfield 26, 3) := by decide +kernel
theorem dX16_hour_7 : decode cX16_hour 7 = .ok (.invokeinterface 73 1, 5) := by decide +kernel
theorem dX16_hour_12 : decode cX16_hour 12 = .ok (.if_icmp .ge 49, 3) := by decide +kernel
theorem dX16_hour_15 : decode cX16_hour 15 = .ok (.aload_n 0, 1) := by decide +kernel
theorem dX16_hour_16 : decode cX16_hour 16 = .ok (.getfield 26, 3) := by decide +kernel
theorem dX16_hour_19 : decode cX16_hour 19 = .ok (.iload_n 1, 1) := by decide +kernel
theorem dX16_hour_20 : decode cX16_hour 20 = .ok (.invokeinterface 46 2, 5) := by decide +kernel
theorem dX16_hour_25 : decode cX16_hour 25 = .ok (.checkcast 105, 3) := by decide +kernel
theorem dX16_hour_28 : decode cX16_hour 28 = .ok (.getfield 112, 3) := by decide +kernel
theorem dX16_hour_31 : decode cX16_hour 31 = .ok (.aload_n 0, 1) := by decide +kernel
theorem dX16_hour_32 : decode cX16_hour 32 = .ok (.getfield 125, 3) := by decide +kernel
theorem dX16_hour_35 : decode cX16_hour 35 = .ok (.if_icmp .ne 20, 3) := by decide +kernel
theorem dX16_hour_38 : decode cX16_hour 38 = .ok (.aload_n 0, 1) := by decide +kernel
theorem dX16_hour_39 : decode cX16_hour 39 = .ok (.aload_n 0, 1) := by decide +kernel
theorem dX16_hour_40 : decode cX16_hour 40 = .ok (.getfield 26, 3) := by decide +kernel
theorem dX16_hour_43 : decode cX16_hour 43 = .ok (.iload_n 1, 1) := by decide +kernel
theorem dX16_hour_44 : decode cX16_hour 44 = .ok (.invokeinterface 46 2, 5) := by decide +kernel
theorem dX16_hour_49 : decode cX16_hour 49 = .ok (.checkcast 105, 3) := by decide +kernel
theorem dX16_hour_52 : decode cX16_hour 52 = .ok (.invokevirtual 204, 3) := by decide +kernel
theorem dX16_hour_55 : decode cX16_hour 55 = .ok (.iinc 1 1, 3) := by decide +kernel
theorem dX16_hour_58 : decode cX16_hour 58 = .ok (.goto (-56), 3) := by decide +kernel
theorem dX16_hour_61 : decode cX16_hour 61 = .ok (.iconst 0, 1) := by decide +kernel
theorem dX16_hour_62 : decode cX16_hour 62 = .ok (.istore_n 1, 1) := by decide +kernel
theorem dX16_hour_63 : decode cX16_hour 63 = .ok (.iload_n 1, 1) := by decide +kernel
theorem dX16_hour_64 : decode cX16_hour 64 = .ok (.aload_n 0, 1) := by decide +kernel
theorem dX16_hour_65 : decode cX16_hour 65 = .ok (.getfield 23, 3) := by decide +kernel
theorem dX16_hour_68 : decode cX16_hour 68 = .ok (.invokeinterface 73 1, 5) := by decide +kernel
theorem dX16_hour_73 : decode cX16_hour 73 = .ok (.if_icmp .ge 88, 3) := by decide +kernel
theorem dX16_hour_76 : decode cX16_hour 76 = .ok (.aload_n 0, 1) := by decide +kernel
theorem dX16_hour_77 : decode cX16_hour 77 = .ok (.iload_n 1, 1) := by decide +kernel
theorem dX16_hour_78 : decode cX16_hour 78 = .ok (.aload_n 0, 1) := by decide +kernel
theorem dX16_hour_79 : decode cX16_hour 79 = .ok (.getfield 125, 3) := by decide +kernel
theorem dX16_hour_82 : decode cX16_hour 82 = .ok (.bipush 24, 2) := by decide +kernel
theorem dX16_hour_84 : decode cX16_hour 84 = .ok (.irem, 1) := by decide +kernel
theorem dX16_hour_85 : decode cX16_hour 85 = .ok (.invokevirtual 208, 3) := by decide +kernel
theorem dX16_hour_88 : decode cX16_hour 88 = .ok (.iconst (-1), 1) := by decide +kernel
theorem dX16_hour_89 : decode cX16_hour 89 = .ok (.if_icmp .eq 7, 3) := by decide +kernel
theorem dX16_hour_92 : decode cX16_hour 92 = .ok (.iconst 1, 1) := by decide +kernel
theorem dX16_hour_93 : decode cX16_hour 93 = .ok (.goto 4, 3) := by decide +kernel
theorem dX16_hour_96 : decode cX16_hour 96 = .ok (.iconst 0, 1) := by decide +kernel
theorem dX16_hour_97 : decode cX16_hour 97 = .ok (.istore_n 2, 1) := by decide +kernel
theorem dX16_hour_98 : decode cX16_hour 98 = .ok (.aload_n 0, 1) := by decide +kernel
theorem dX16_hour_99 : decode cX16_hour 99 = .ok (.getfield 23, 3) := by decide +kernel
theorem dX16_hour_102 : decode cX16_hour 102 = .ok (.iload_n 1, 1) := by decide +kernel
theorem dX16_hour_103 : decode cX16_hour 103 = .ok (.invokeinterface 46 2, 5) := by decide +kernel
theorem dX16_hour_108 : decode cX16_hour 108 = .ok (.checkcast 93, 3) := by decide +kernel
theorem dX16_hour_111 : decode cX16_hour 111 = .ok (.astore_n 3, 1) := by decide +kernel
theorem dX16_hour_112 : decode cX16_hour 112 = .ok (.aload_n 3, 1) := by decide +kernel
theorem dX16_hour_113 : decode cX16_hour 113 = .ok (.aload_n 3, 1) := by decide +kernel
theorem dX16_hour_114 : decode cX16_hour 114 = .ok (.getfield 101, 3) := by decide +kernel
theorem dX16_hour_117 : decode cX16_hour 117 = .ok (.iload_n 2, 1) := by decide +kernel
theorem dX16_hour_118 : decode cX16_hour 118 = .ok (.ifCond .eq 7, 3) := by decide +kernel
theorem dX16_hour_121 : decode cX16_hour 121 = .ok (.iconst 3, 1) := by decide +kernel
theorem dX16_hour_122 : decode cX16_hour 122 = .ok (.goto 5, 3) := by decide +kernel
theorem dX16_hour_125 : decode cX16_hour 125 = .ok (.bipush (-2), 2) := by decide +kernel
theorem dX16_hour_127 : decode cX16_hour 127 = .ok (.iadd, 1) := by decide +kernel
theorem dX16_hour_128 : decode cX16_hour 128 = .ok (.iconst 0, 1) := by decide +kernel
theorem dX16_hour_129 : decode cX16_hour 129 = .ok (.bipush 40, 2) := by decide +kernel
theorem dX16_hour_131 : decode cX16_hour 131 = .ok (.invokestatic 89, 3) := by decide +kernel
theorem dX16_hour_134 : decode cX16_hour 134 = .ok (.putfield 101, 3) := by decide +kernel
theorem dX16_hour_137 : decode cX16_hour 137 = .ok (.aload_n 3, 1) := by decide +kernel
theorem dX16_hour_138 : decode cX16_hour 138 = .ok (.dup, 1) := by decide +kernel
theorem dX16_hour_139 : decode cX16_hour 139 = .ok (.getfield 211, 3) := by decide +kernel
theorem dX16_hour_142 : decode cX16_hour 142 = .ok (.iload_n 2, 1) := by decide +kernel
theorem dX16_hour_143 : decode cX16_hour 143 = .ok (.ifCond .eq 7, 3) := by decide +kernel
theorem dX16_hour_146 : decode cX16_hour 146 = .ok (.iconst 1, 1) := by decide +kernel
theorem dX16_hour_147 : decode cX16_hour 147 = .ok (.goto 4, 3) := by decide +kernel
theorem dX16_hour_150 : decode cX16_hour 150 = .ok (.iconst 0, 1) := by decide +kernel
theorem dX16_hour_151 : decode cX16_hour 151 = .ok (.iadd, 1) := by decide +kernel
theorem dX16_hour_152 : decode cX16_hour 152 = .ok (.putfield 211, 3) := by decide +kernel
theorem dX16_hour_155 : decode cX16_hour 155 = .ok (.iinc 1 1, 3) := by decide +kernel
theorem dX16_hour_158 : decode cX16_hour 158 = .ok (.goto (-95), 3) := by decide +kernel
theorem dX16_hour_161 : decode cX16_hour 161 = .ok (.iconst 0, 1) := by decide +kernel
theorem dX16_hour_162 : decode cX16_hour 162 = .ok (.istore_n 1, 1) := by decide +kernel
theorem dX16_hour_163 : decode cX16_hour 163 = .ok (.iload_n 1, 1) := by decide +kernel
theorem dX16_hour_164 : decode cX16_hour 164 = .ok (.aload_n 0, 1) := by decide +kernel
theorem dX16_hour_165 : decode cX16_hour 165 = .ok (.getfield 26, 3) := by decide +kernel
theorem dX16_hour_168 : decode cX16_hour 168 = .ok (.invokeinterface 73 1, 5) := by decide +kernel
theorem dX16_hour_173 : decode cX16_hour 173 = .ok (.if_icmp .ge 46, 3) := by decide +kernel
theorem dX16_hour_176 : decode cX16_hour 176 = .ok (.aload_n 0, 1) := by decide +kernel
theorem dX16_hour_177 : decode cX16_hour 177 = .ok (.aload_n 0, 1) := by decide +kernel
theorem dX16_hour_178 : decode cX16_hour 178 = .ok (.getfield 26, 3) := by decide +kernel
theorem dX16_hour_181 : decode cX16_hour 181 = .ok (.iload_n 1, 1) := by decide +kernel
theorem dX16_hour_182 : decode cX16_hour 182 = .ok (.invokeinterface 46 2, 5) := by decide +kernel
theorem dX16_hour_187 : decode cX16_hour 187 = .ok (.checkcast 105, 3) := by decide +kernel
theorem dX16_hour_190 : decode cX16_hour 190 = .ok (.invokevirtual 147, 3) := by decide +kernel
theorem dX16_hour_193 : decode cX16_hour 193 = .ok (.ifCond .eq 20, 3) := by decide +kernel
theorem dX16_hour_196 : decode cX16_hour 196 = .ok (.aload_n 0, 1) := by decide +kernel
theorem dX16_hour_197 : decode cX16_hour 197 = .ok (.getfield 26, 3) := by decide +kernel
theorem dX16_hour_200 : decode cX16_hour 200 = .ok (.iload_n 1, 1) := by decide +kernel
theorem dX16_hour_201 : decode cX16_hour 201 = .ok (.invokeinterface 46 2, 5) := by decide +kernel
theorem dX16_hour_206 : decode cX16_hour 206 = .ok (.checkcast 105, 3) := by decide +kernel
theorem dX16_hour_209 : decode cX16_hour 209 = .ok (.iconst 2, 1) := by decide +kernel
theorem dX16_hour_210 : decode cX16_hour 210 = .ok (.putfield 144, 3) := by decide +kernel
theorem dX16_hour_213 : decode cX16_hour 213 = .ok (.iinc 1 1, 3) := by decide +kernel
theorem dX16_hour_216 : decode cX16_hour 216 = .ok (.goto (-53), 3) := by decide +kernel
theorem dX16_hour_219 : decode cX16_hour 219 = .ok (.aload_n 0, 1) := by decide +kernel
theorem dX16_hour_220 : decode cX16_hour 220 = .ok (.invokevirtual 214, 3) := by decide +kernel
theorem dX16_hour_223 : decode cX16_hour 223 = .ok (.aload_n 0, 1) := by decide +kernel
theorem dX16_hour_224 : decode cX16_hour 224 = .ok (.getfield 26, 3) := by decide +kernel
theorem dX16_hour_227 : decode cX16_hour 227 = .ok (.invokeinterface 73 1, 5) := by decide +kernel
theorem dX16_hour_232 : decode cX16_hour 232 = .ok (.newarray .boolean, 2) := by decide +kernel
theorem dX16_hour_234 : decode cX16_hour 234 = .ok (.astore_n 1, 1) := by decide +kernel
theorem dX16_hour_235 : decode cX16_hour 235 = .ok (.aload_n 0, 1) := by decide +kernel
theorem dX16_hour_236 : decode cX16_hour 236 = .ok (.aload_n 0, 1) := by decide +kernel
theorem dX16_hour_237 : decode cX16_hour 237 = .ok (.getfield 7, 3) := by decide +kernel
theorem dX16_hour_240 : decode cX16_hour 240 = .ok (.aload_n 1, 1) := by decide +kernel
theorem dX16_hour_241 : decode cX16_hour 241 = .ok (.invokevirtual 217, 3) := by decide +kernel
theorem dX16_hour_244 : decode cX16_hour 244 = .ok (.istore_n 2, 1) := by decide +kernel
theorem dX16_hour_245 : decode cX16_hour 245 = .ok (.iload_n 2, 1) := by decide +kernel
theorem dX16_hour_246 : decode cX16_hour 246 = .ok (.iconst (-1), 1) := by decide +kernel
theorem dX16_hour_247 : decode cX16_hour 247 = .ok (.if_icmp .eq 25, 3) := by decide +kernel
theorem dX16_hour_250 : decode cX16_hour 250 = .ok (.aload_n 0, 1) := by decide +kernel
theorem dX16_hour_251 : decode cX16_hour 251 = .ok (.iload_n 2, 1) := by decide +kernel
theorem dX16_hour_252 : decode cX16_hour 252 = .ok (.invokevirtual 221, 3) := by decide +kernel
theorem dX16_hour_255 : decode cX16_hour 255 = .ok (.aload_n 1, 1) := by decide +kernel
theorem dX16_hour_256 : decode cX16_hour 256 = .ok (.iload_n 2, 1) := by decide +kernel
theorem dX16_hour_257 : decode cX16_hour 257 = .ok (.iconst 1, 1) := by decide +kernel
theorem dX16_hour_258 : decode cX16_hour 258 = .ok (.bastore, 1) := by decide +kernel
theorem dX16_hour_259 : decode cX16_hour 259 = .ok (.aload_n 0, 1) := by decide +kernel
theorem dX16_hour_260 : decode cX16_hour 260 = .ok (.aload_n 0, 1) := by decide +kernel
theorem dX16_hour_261 : decode cX16_hour 261 = .ok (.getfield 7, 3) := by decide +kernel
theorem dX16_hour_264 : decode cX16_hour 264 = .ok (.aload_n 1, 1) := by decide +kernel
theorem dX16_hour_265 : decode cX16_hour 265 = .ok (.invokevirtual 217, 3) := by decide +kernel
theorem dX16_hour_268 : decode cX16_hour 268 = .ok (.istore_n 2, 1) := by decide +kernel
theorem dX16_hour_269 : decode cX16_hour 269 = .ok (.goto (-24), 3) := by decide +kernel
theorem dX16_hour_272 : decode cX16_hour 272 = .ok (.aload_n 0, 1) := by decide +kernel
theorem dX16_hour_273 : decode cX16_hour 273 = .ok (.dup, 1) := by decide +kernel
theorem dX16_hour_274 : decode cX16_hour 274 = .ok (.getfield 125, 3) := by decide +kernel
theorem dX16_hour_277 : decode cX16_hour 277 = .ok (.iconst 1, 1) := by decide +kernel
theorem dX16_hour_278 : decode cX16_hour 278 = .ok (.iadd, 1) := by decide +kernel
theorem dX16_hour_279 : decode cX16_hour 279 = .ok (.putfield 125, 3) := by decide +kernel
theorem dX16_hour_282 : decode cX16_hour 282 = .ok (.aload_n 0, 1) := by decide +kernel
theorem dX16_hour_283 : decode cX16_hour 283 = .ok (.getfield 125, 3) := by decide +kernel
theorem dX16_hour_286 : decode cX16_hour 286 = .ok (.bipush 24, 2) := by decide +kernel
theorem dX16_hour_288 : decode cX16_hour 288 = .ok (.irem, 1) := by decide +kernel
theorem dX16_hour_289 : decode cX16_hour 289 = .ok (.ifCond .ne 10, 3) := by decide +kernel
theorem dX16_hour_292 : decode cX16_hour 292 = .ok (.aload_n 0, 1) := by decide +kernel
theorem dX16_hour_293 : decode cX16_hour 293 = .ok (.sipush 600, 3) := by decide +kernel
theorem dX16_hour_296 : decode cX16_hour 296 = .ok (.putfield 7, 3) := by decide +kernel
theorem dX16_hour_299 : decode cX16_hour 299 = .ok (.return_, 1) := by decide +kernel
abbrev rm_m_X16_hour : Room := { frames := 9, cells := 12, slots := 455, locals := 236 }
set_option maxHeartbeats 4000000 in
set_option maxRecDepth 100000 in
theorem m_X16_hour {s0 : State} {l : Launch} {D : va_G} {cy : Nat → ClassId} (G : Gl s0 l D cy) (S : HS) (ea ns nj nm nt nr nq : Nat) (h : RI ea S ns nj nm nt nr nq) (hea : ea = eaOf s0) (hZ : ¬ vV S 17 12 ∧ ¬ vV S 30 12) (h40 : ¬ vV S 40 0) (hQ : QI s0 S nq nt) (hh7 : hN S < 720) : Ctr s0 l D cy yX16_hour cX16_hour 4 none rm_m_X16_hour S [.ref (gG S 16 0)] (fun v S' => none = v ∧ ∃ nq', RI ea S' ns nj nm nt nr nq' ∧ Kq hvH hiHr hrQ S S' ∧ QI s0 S' nq' nt ∧ ¬ vV S' 40 0 ∧ mI S' 257 0 = nI (hN S + 1)) := by
  refine pro "CavershamShiftModel" G rfl rfl (Nat.le_of_ble_eq_true rfl) (fun p e s m below meth c ls X w hnm hl => ?_)
  have hx := X.1
  have hb := X.2.1
  have hown := X.2.2.2.1
  have hts := X.2.2.2.2.1
  have hl : lv_has ls 4 [(0, .ref (gG S 16 0))] := hl
  have h0 := h
  have hK : Kq hvH hiHr hrQ S S := Kq.rf
  have e257 : mI S 257 0 = mI S 257 0 := rfl
  refine lv_iconst (v := 0) hx hb dX16_hour_0 (by decide) ?_
  refine lv_istore_n (lv' := [(1, .int 0), (0, .ref (gG S 16 0))]) hx hb dX16_hour_1 rfl hl (by decide) rfl (fun ls hl => ?_)
  have L2 : ∀ (N : Nat) (k2 : Nat) (T2 : HS) (H : Heap) (locs : List Loc) (ls : Array Slot), nt - k2 < N → (k2 ≤ nt) → (RI ea T2 ns nj nm nt nr nq) → (Kq hvH hiHr hrQ S T2) → (QI s0 T2 nq nt) → (mI T2 257 0 = mI S 257 0) → (¬ vV T2 40 0) → Wd s0 D cy T2 s.heap H locs → lv_has ls 4 [(1, .int (nI k2)), (0, .ref (gG S 16 0))] → W p l e rm_m_X16_hour s m ([.ref (gG S 16 0)] : List Value).toArray below meth c H locs (0) (0) (MQ below (GQ s0 D cy (fun v S' => none = v ∧ ∃ nq', RI ea S' ns nj nm nt nr nq' ∧ Kq hvH hiHr hrQ S S' ∧ QI s0 S' nq' nt ∧ ¬ vV S' 40 0 ∧ mI S' 257 0 = nI (hN S + 1))) ([.ref (gG S 16 0)] : List Value).toArray s rm_m_X16_hour.cells rm_m_X16_hour.slots (A0 s0)) (F0 m 2 ls []) := by
    intro N
    induction N with
    | zero => intros; omega
    | succ N ih2 =>
      intro k2 T2 H locs ls hmu hk_k2 h hK_T2 hQ e257 h40 w hl
      have hK := hK_T2
      refine lv_iload_n hx hb dX16_hour_2 rfl (lv_at hl 0 rfl) ?_
      refine lv_aload_n hx hb dX16_hour_3 rfl (lv_at hl 1 rfl) ?_
      refine rE0 ((rfl).trans ((hK_T2.G (t := 16) (i := 0) rfl)).symm) ?_
      refine g_16_9 (S := T2) (x := (some (gG T2 17 9))) X w h.v wF_X16_26 (h.f_ta) dX16_hour_4 ?_
      refine cF (S := T2) (t := 17) (nA := 0) (As := []) (rest := [.int (nI k2)]) X w hl h.l_ta.1 (m_size G T2 ea 9 nt h.l_ta) wY_Jx4a65c_size_8abf5 wM_X16_73 wIn_Jx4a65c_size_8abf5 wSe_Jx4a65c_Jx4a65c_size_8abf5_of_java_util_List_size___I wI_Jx4a65c fw_size (by decide) rfl (by decide +kernel) rfl rfl dX16_hour_7 ⟨by decide, by decide⟩ (Nat.le_of_ble_eq_true rfl) (⟨Nat.le_of_ble_eq_true rfl, Nat.le_of_ble_eq_true rfl⟩) (fun v1 S1 H locs hp w => ?_)
      obtain ⟨rfl, rfl⟩ := hp
      refine lv_icmp_ge (tgt := 61) hx hb dX16_hour_12 (by decide) (fun hc_k2 => ?_) (fun hc_k2 => ?_)
      · have hge_k2 : nt ≤ k2 := by
          have hb1 := h.b_ta
          exact (nI_leI (a := nt) (b := k2) (by omega) (by omega)).mp hc_k2
        refine lv_iconst (v := 0) hx hb dX16_hour_61 (by decide) ?_
        refine lv_istore_n (lv' := [(1, .int 0), (0, .ref (gG S 16 0))]) hx hb dX16_hour_62 rfl hl (by decide) rfl (fun ls hl => ?_)
        have L63 : ∀ (N : Nat) (k63 : Nat) (T63 : HS) (H : Heap) (locs : List Loc) (ls : Array Slot), nm - k63 < N → (k63 ≤ nm) → (RI ea T63 ns nj nm nt nr nq) → (Kq hvH hiHr hrQ S T63) → (QI s0 T63 nq nt) → (mI T63 257 0 = mI S 257 0) → (¬ vV T63 40 0) → Wd s0 D cy T63 s.heap H locs → lv_has ls 4 [(1, .int (nI k63)), (0, .ref (gG S 16 0))] → W p l e rm_m_X16_hour s m ([.ref (gG S 16 0)] : List Value).toArray below meth c H locs (0) (0) (MQ below (GQ s0 D cy (fun v S' => none = v ∧ ∃ nq', RI ea S' ns nj nm nt nr nq' ∧ Kq hvH hiHr hrQ S S' ∧ QI s0 S' nq' nt ∧ ¬ vV S' 40 0 ∧ mI S' 257 0 = nI (hN S + 1))) ([.ref (gG S 16 0)] : List Value).toArray s rm_m_X16_hour.cells rm_m_X16_hour.slots (A0 s0)) (F0 m 63 ls []) := by
          intro N
          induction N with
          | zero => intros; omega
          | succ N ih63 =>
            intro k63 T63 H locs ls hmu hk_k63 h hK_T63 hQ e257 h40 w hl
            have hK := hK_T63
            refine lv_iload_n hx hb dX16_hour_63 rfl (lv_at hl 0 rfl) ?_
            refine lv_aload_n hx hb dX16_hour_64 rfl (lv_at hl 1 rfl) ?_
            refine rE0 ((rfl).trans ((hK_T63.G (t := 16) (i := 0) rfl)).symm) ?_
            refine g_16_8 (S := T63) (x := (some (gG T63 17 8))) X w h.v wF_X16_23 (h.f_mo) dX16_hour_65 ?_
            refine cF (S := T63) (t := 17) (nA := 0) (As := []) (rest := [.int (nI k63)]) X w hl h.l_mo.1 (m_size G T63 ea 8 nm h.l_mo) wY_Jx4a65c_size_8abf5 wM_X16_73 wIn_Jx4a65c_size_8abf5 wSe_Jx4a65c_Jx4a65c_size_8abf5_of_java_util_List_size___I wI_Jx4a65c fw_size (by decide) rfl (by decide +kernel) rfl rfl dX16_hour_68 ⟨by decide, by decide⟩ (Nat.le_of_ble_eq_true rfl) (⟨Nat.le_of_ble_eq_true rfl, Nat.le_of_ble_eq_true rfl⟩) (fun v2 S1 H locs hp w => ?_)
            obtain ⟨rfl, rfl⟩ := hp
            refine lv_icmp_ge (tgt := 161) hx hb dX16_hour_73 (by decide) (fun hc_k63 => ?_) (fun hc_k63 => ?_)
            · have hge_k63 : nm ≤ k63 := by
                have hb1 := h.b_mo
                exact (nI_leI (a := nm) (b := k63) (by omega) (by omega)).mp hc_k63
              refine lv_iconst (v := 0) hx hb dX16_hour_161 (by decide) ?_
              refine lv_istore_n (lv' := [(1, .int 0), (0, .ref (gG S 16 0))]) hx hb dX16_hour_162 rfl hl (by decide) rfl (fun ls hl => ?_)
              have L163 : ∀ (N : Nat) (k163 : Nat) (T163 : HS) (H : Heap) (locs : List Loc) (ls : Array Slot), nt - k163 < N → (k163 ≤ nt) → (RI ea T163 ns nj nm nt nr nq) → (Kq hvH hiHr hrQ S T163) → (QI s0 T163 nq nt) → (mI T163 257 0 = mI S 257 0) → (¬ vV T163 40 0) → Wd s0 D cy T163 s.heap H locs → lv_has ls 4 [(1, .int (nI k163)), (0, .ref (gG S 16 0))] → W p l e rm_m_X16_hour s m ([.ref (gG S 16 0)] : List Value).toArray below meth c H locs (0) (0) (MQ below (GQ s0 D cy (fun v S' => none = v ∧ ∃ nq', RI ea S' ns nj nm nt nr nq' ∧ Kq hvH hiHr hrQ S S' ∧ QI s0 S' nq' nt ∧ ¬ vV S' 40 0 ∧ mI S' 257 0 = nI (hN S + 1))) ([.ref (gG S 16 0)] : List Value).toArray s rm_m_X16_hour.cells rm_m_X16_hour.slots (A0 s0)) (F0 m 163 ls []) := by
                intro N
                induction N with
                | zero => intros; omega
                | succ N ih163 =>
                  intro k163 T163 H locs ls hmu hk_k163 h hK_T163 hQ e257 h40 w hl
                  have hK := hK_T163
                  refine lv_iload_n hx hb dX16_hour_163 rfl (lv_at hl 0 rfl) ?_
                  refine lv_aload_n hx hb dX16_hour_164 rfl (lv_at hl 1 rfl) ?_
                  refine rE0 ((rfl).trans ((hK_T163.G (t := 16) (i := 0) rfl)).symm) ?_
                  refine g_16_9 (S := T163) (x := (some (gG T163 17 9))) X w h.v wF_X16_26 (h.f_ta) dX16_hour_165 ?_
                  refine cF (S := T163) (t := 17) (nA := 0) (As := []) (rest := [.int (nI k163)]) X w hl h.l_ta.1 (m_size G T163 ea 9 nt h.l_ta) wY_Jx4a65c_size_8abf5 wM_X16_73 wIn_Jx4a65c_size_8abf5 wSe_Jx4a65c_Jx4a65c_size_8abf5_of_java_util_List_size___I wI_Jx4a65c fw_size (by decide) rfl (by decide +kernel) rfl rfl dX16_hour_168 ⟨by decide, by decide⟩ (Nat.le_of_ble_eq_true rfl) (⟨Nat.le_of_ble_eq_true rfl, Nat.le_of_ble_eq_true rfl⟩) (fun v3 S1 H locs hp w => ?_)
                  obtain ⟨rfl, rfl⟩ := hp
                  refine lv_icmp_ge (tgt := 219) hx hb dX16_hour_173 (by decide) (fun hc_k163 => ?_) (fun hc_k163 => ?_)
                  · have hge_k163 : nt ≤ k163 := by
                      have hb1 := h.b_ta
                      exact (nI_leI (a := nt) (b := k163) (by omega) (by omega)).mp hc_k163
                    refine lv_aload_n hx hb dX16_hour_219 rfl (lv_at hl 1 rfl) ?_
                    refine rE0 ((rfl).trans ((hK_T163.G (t := 16) (i := 0) rfl)).symm) ?_
                    refine cV (S := T163) (nA := 0) (As := []) (rest := []) X w hl h.v (m_X16_correct G T163 ea ns nj nm nt nr nq h hea (by rw [show vV T163 17 12 = vV S 17 12 from hK.V rfl, show vV T163 30 12 = vV S 30 12 from hK.V rfl]; exact hZ) hQ) wY_X16_correct wM_X16_214 wIn_X16_correct wSe_X16_X16_correct wI_X16 (by decide) rfl (by decide +kernel) rfl rfl dX16_hour_220 ⟨by decide, by decide⟩ (Nat.le_of_ble_eq_true rfl) (⟨Nat.le_of_ble_eq_true rfl, Nat.le_of_ble_eq_true rfl⟩) (fun v7 U4 H locs hp w => ?_)
                    obtain ⟨rfl, nc5, h, hkU4, hQ, -⟩ := hp
                    have hK_U4 : Kq hvH hiHr hrQ S U4 := hK.tr (q12 hkU4)
                    have hK := hK_U4
                    have e257 : mI U4 257 0 = mI S 257 0 := (hkU4.I (f := 257) (i := 0) rfl).trans e257
                    have h40 : ¬ vV U4 40 0 := by rw [show vV U4 40 0 = vV T163 40 0 from hkU4.V rfl]; exact h40
                    refine lv_aload_n hx hb dX16_hour_223 rfl (lv_at hl 1 rfl) ?_
                    refine rE0 ((rfl).trans ((hK_U4.G (t := 16) (i := 0) rfl)).symm) ?_
                    refine g_16_9 (S := U4) (x := (some (gG U4 17 9))) X w h.v wF_X16_26 (h.f_ta) dX16_hour_224 ?_
                    refine cF (S := U4) (t := 17) (nA := 0) (As := []) (rest := []) X w hl h.l_ta.1 (m_size G U4 ea 9 nt h.l_ta) wY_Jx4a65c_size_8abf5 wM_X16_73 wIn_Jx4a65c_size_8abf5 wSe_Jx4a65c_Jx4a65c_size_8abf5_of_java_util_List_size___I wI_Jx4a65c fw_size (by decide) rfl (by decide +kernel) rfl rfl dX16_hour_227 ⟨by decide, by decide⟩ (Nat.le_of_ble_eq_true rfl) (⟨(show 6 + 0 ≤ 12 by omega), (show 209 + 0 ≤ 455 by omega)⟩) (fun v8 S1 H locs hp w => ?_)
                    obtain ⟨rfl, rfl⟩ := hp
                    refine nwI (S := U4) (atype := .boolean) (ty := .boolean) (n := nt) X w 40 0 h40 (by decide) rfl rfl (Or.inr (Or.inl ⟨rfl, rfl⟩)) wA_boolean rfl (by have := h.b_ta; omega) dX16_hour_232 (Nat.le_of_ble_eq_true rfl) (by show 209 + nt ≤ 455; have := h.b_ta; omega) (fun q4 S2 H hS2 w => ?_)
                    subst hS2
                    have h : RI ea (sArr U4 40 0 q4 nt) ns nj nm nt nr nc5 := h.arr (by decide)
                    have hK : Kq hvH hiHr hrQ S (sArr U4 40 0 q4 nt) := hK.arr rfl
                    have hQ : QI s0 (sArr U4 40 0 q4 nt) nc5 nt := ⟨hQ.1, hQ.2⟩
                    have h4V : vV (sArr U4 40 0 q4 nt) 40 0 := Or.inr ⟨rfl, rfl⟩
                    have h4N : mN (sArr U4 40 0 q4 nt) 40 0 = nt := rfl
                    have e257 : mI (sArr U4 40 0 q4 nt) 257 0 = mI S 257 0 := e257
                    refine W.widen (k := 7) (n := 249) (Nat.le_refl _) (show 209 + nt ≤ 249 by have := h.b_ta; omega) ?_
                    refine lv_astore_n (lv' := [(1, .ref (gG (sArr U4 40 0 q4 nt) 40 0)), (0, .ref (gG S 16 0))]) hx hb dX16_hour_234 rfl hl (by decide) rfl (fun ls hl => ?_)
                    refine lv_aload_n hx hb dX16_hour_235 rfl (lv_at hl 1 rfl) ?_
                    refine lv_aload_n hx hb dX16_hour_236 rfl (lv_at hl 1 rfl) ?_
                    refine rE0 ((rfl).trans ((hK_U4.G (t := 16) (i := 0) rfl)).symm) ?_
                    refine g_16_2 (S := (sArr U4 40 0 q4 nt)) (x := (mI (sArr U4 40 0 q4 nt) 258 0)) X w h.v wF_X16_7 (rfl) dX16_hour_237 ?_
                    refine lv_aload_n hx hb dX16_hour_240 rfl (lv_at hl 0 rfl) ?_
                    refine rE2 ((rfl).trans ((hK_U4.G (t := 16) (i := 0) rfl)).symm) ?_
                    refine cV (S := (sArr U4 40 0 q4 nt)) (nA := 2) (As := [.int (mI (sArr U4 40 0 q4 nt) 258 0), .ref (gG (sArr U4 40 0 q4 nt) 40 0)]) (rest := []) X w hl h.v (m_X16_next G (sArr U4 40 0 q4 nt) ea ns nj nm nt nr nc5 h (mI (sArr U4 40 0 q4 nt) 258 0) (h4V) (h4N)) wY_X16_next wM_X16_217 wIn_X16_next wSe_X16_X16_next wI_X16 (by decide) rfl (by decide +kernel) rfl rfl dX16_hour_241 ⟨by decide, by decide⟩ (Nat.le_of_ble_eq_true rfl) (⟨(show 7 + 0 ≤ 12 by omega), (show 249 + 0 ≤ 455 by omega)⟩) (fun v10 S1 H locs hp w => ?_)
                    obtain ⟨⟨x9, hB, rfl⟩, rfl⟩ := hp
                    refine lv_istore_n (lv' := [(2, .int x9), (1, .ref (gG (sArr U4 40 0 q4 nt) 40 0)), (0, .ref (gG S 16 0))]) hx hb dX16_hour_244 rfl hl (by decide) rfl (fun ls hl => ?_)
                    have L245 : ∀ (N : Nat) (x : Int32) (T245 : HS) (nc245 : Nat) (H : Heap) (locs : List Loc) (ls : Array Slot), wq T245 nt < N → (x = -1 ∨ ∃ b, b < nt ∧ mI T245 247 b = 0 ∧ mA T245 40 0 b = 0 ∧ x = nI b) → (RI ea T245 ns nj nm nt nr nc245) → (Kq hvH hiHr hrQ S T245) → (QI s0 T245 nc245 nt) → (mI T245 257 0 = mI S 257 0) → (gG T245 40 0 = q4) → (vV T245 40 0) → (mN T245 40 0 = nt) → Wd s0 D cy T245 s.heap H locs → lv_has ls 4 [(0, .ref (gG S 16 0)), (1, .ref (gG (sArr U4 40 0 q4 nt) 40 0)), (2, .int x)] → W p l e rm_m_X16_hour s m ([.ref (gG S 16 0)] : List Value).toArray below meth c H locs (7 + gC nc245) (249 + gL nc245) (MQ below (GQ s0 D cy (fun v S' => none = v ∧ ∃ nq', RI ea S' ns nj nm nt nr nq' ∧ Kq hvH hiHr hrQ S S' ∧ QI s0 S' nq' nt ∧ ¬ vV S' 40 0 ∧ mI S' 257 0 = nI (hN S + 1))) ([.ref (gG S 16 0)] : List Value).toArray s rm_m_X16_hour.cells rm_m_X16_hour.slots (A0 s0)) (F0 m 245 ls []) := by
                      intro N
                      induction N with
                      | zero => intros; omega
                      | succ N ih245 =>
                        intro x T245 nc245 H locs ls hmu hB h hK_T245 hQ e257 e40 h4V h4N w hl
                        have hK := hK_T245
                        have hgl := gCL nc245 (Nat.le_trans hQ.le h.b_ta)
                        refine lv_iload_n hx hb dX16_hour_245 rfl (lv_at hl 2 rfl) ?_
                        refine lv_iconst (v := (-1)) hx hb dX16_hour_246 (by decide) ?_
                        refine lv_icmp_eq (tgt := 272) hx hb dX16_hour_247 (by decide) (fun hbm => ?_) (fun hbm => ?_)
                        · refine lv_aload_n hx hb dX16_hour_272 rfl (lv_at hl 0 rfl) ?_
                          refine lv_dup hx hb dX16_hour_273 rfl ?_
                          refine rE0 ((rfl).trans ((hK_T245.G (t := 16) (i := 0) rfl)).symm) ?_
                          refine g_16_1 (S := T245) (x := (nI (hN S))) X w h.v wF_X16_125 (e257.trans h0.hNx.2) dX16_hour_274 ?_
                          refine lv_iconst (v := 1) hx hb dX16_hour_277 (by decide) ?_
                          refine lv_iadd hx hb dX16_hour_278 ?_
                          refine lv_topi (fun z11 ez11 => ?_)
                          obtain rfl : z11 = nI (hN S + 1) := ez11.trans (nI_1 _)
                          refine rE1 ((rfl).trans ((hK_T245.G (t := 16) (i := 0) rfl)).symm) ?_
                          refine p_16_1 (S := T245) (x := (nI (hN S + 1))) X w h.v wF_X16_125 dX16_hour_279 (fun H locs w => ?_)
                          have h : RI ea (sI T245 257 0 (nI (hN S + 1))) ns nj nm nt nr nc245 := h.s257 (by omega)
                          have hK : Kq hvH hiHr hrQ S (sI T245 257 0 (nI (hN S + 1))) := hK.sI rfl
                          refine lv_aload_n hx hb dX16_hour_282 rfl (lv_at hl 0 rfl) ?_
                          refine rE0 ((rfl).trans ((hK_T245.G (t := 16) (i := 0) rfl)).symm) ?_
                          refine g_16_1 (S := (sI T245 257 0 (nI (hN S + 1)))) (x := (nI (hN S + 1))) X w h.v wF_X16_125 (rfl) dX16_hour_283 ?_
                          refine lv_bipush (v := 24) hx hb dX16_hour_286 (by decide) ?_
                          refine lv_irem hx hb dX16_hour_288 (by decide) ?_
                          refine lv_if_ne (tgt := 299) hx hb dX16_hour_289 (by decide) (fun hc12 => ?_) (fun hc12 => ?_)
                          · have w := w.d40
                            have h : RI ea (dr40 (sI T245 257 0 (nI (hN S + 1)))) ns nj nm nt nr nc245 := h.d40
                            have hK : Kq hvH hiHr hrQ S (dr40 (sI T245 257 0 (nI (hN S + 1)))) := hK.d40
                            exact rV X w rfl dX16_hour_299 (show 7 + gC nc245 ≤ 12 by omega) (show 249 + gL nc245 ≤ 455 by omega) (⟨rfl, _, h, hK, ⟨hQ.1, hQ.2⟩, fun v => v.2 ⟨rfl, rfl⟩, rfl⟩)
                          · refine lv_aload_n hx hb dX16_hour_292 rfl (lv_at hl 0 rfl) ?_
                            refine lv_sipush (v := 600) hx hb dX16_hour_293 (by decide) ?_
                            refine rE1 ((rfl).trans ((hK_T245.G (t := 16) (i := 0) rfl)).symm) ?_
                            refine p_16_2 (S := (sI T245 257 0 (nI (hN S + 1)))) (x := 600) X w h.v wF_X16_7 dX16_hour_296 (fun H locs w => ?_)
                            have h : RI ea (sI (sI T245 257 0 (nI (hN S + 1))) 258 0 600) ns nj nm nt nr nc245 := h.stI (by decide)
                            have hK : Kq hvH hiHr hrQ S (sI (sI T245 257 0 (nI (hN S + 1))) 258 0 600) := hK.sI rfl
                            have w := w.d40
                            have h : RI ea (dr40 (sI (sI T245 257 0 (nI (hN S + 1))) 258 0 600)) ns nj nm nt nr nc245 := h.d40
                            have hK : Kq hvH hiHr hrQ S (dr40 (sI (sI T245 257 0 (nI (hN S + 1))) 258 0 600)) := hK.d40
                            exact rV X w rfl dX16_hour_299 (show 7 + gC nc245 ≤ 12 by omega) (show 249 + gL nc245 ≤ 455 by omega) (⟨rfl, _, h, hK, ⟨hQ.1, hQ.2⟩, fun v => v.2 ⟨rfl, rfl⟩, rfl⟩)
                        · obtain ⟨b, hlb, hsb, hpb, rfl⟩ := hB.resolve_left hbm
                          refine lv_aload_n hx hb dX16_hour_250 rfl (lv_at hl 0 rfl) ?_
                          refine lv_iload_n hx hb dX16_hour_251 rfl (lv_at hl 2 rfl) ?_
                          refine rE1 ((rfl).trans ((hK_T245.G (t := 16) (i := 0) rfl)).symm) ?_
                          by_cases hyes : rWrong 1 (mI T245 246 b) (mI T245 245 b) (mI T245 248 b) = true ∧ mI T245 253 b = 0
                          · have hgl2 : gC nc245 + addC nc245 ≤ 5 ∧ gL nc245 + addL nc245 ≤ 206 := gCL (nc245 + 1) (hq40y hQ h.b_ta hlb hyes.2)
                            refine cV (S := T245) (nA := 1) (As := [.int (nI b)]) (rest := []) X w hl h.v (m_X16_send_y G T245 ea ns nj nm nt nr nc245 h hea b hlb hQ hyes) wY_X16_send wM_X16_221 wIn_X16_send wSe_X16_X16_send wI_X16 (by decide) rfl (by decide +kernel) rfl rfl dX16_hour_252 ⟨Nat.le_of_ble_eq_true rfl, Nat.le_of_ble_eq_true rfl⟩ (Nat.le_of_ble_eq_true rfl) (⟨(show 7 + gC nc245 + addC nc245 ≤ 12 by have := (gCL (nc245 + 1) (hq40y hQ h.b_ta hlb hyes.2)).1; have e : gC (nc245 + 1) = gC nc245 + addC nc245 := rfl; omega), (show 249 + gL nc245 + addL nc245 ≤ 455 by have := (gCL (nc245 + 1) (hq40y hQ h.b_ta hlb hyes.2)).2; have e : gL (nc245 + 1) = gL nc245 + addL nc245 := rfl; omega)⟩) (fun v14 U13 H locs hp w => ?_)
                            obtain ⟨rfl, h, hkU13, hQ, e247⟩ := hp
                            have hK_U13 : Kq hvH hiHr hrQ S U13 := hK.tr (q12 hkU13)
                            have hK := hK_U13
                            have e257 : mI U13 257 0 = mI S 257 0 := (hkU13.I (f := 257) (i := 0) rfl).trans e257
                            have h4V : vV U13 40 0 := by rw [show vV U13 40 0 = vV T245 40 0 from hkU13.V rfl]; exact h4V
                            have h4N : mN U13 40 0 = nt := (hkU13.1 40 0 rfl).2.2.1.trans h4N
                            have e40 : gG U13 40 0 = q4 := (hkU13.G (t := 40) (i := 0) rfl).trans e40
                            have hdec : wq U13 nt + 1 ≤ wq T245 nt := wq_s hlb hsb e247
                            refine lv_aload_n hx hb dX16_hour_255 rfl (lv_at hl 1 rfl) ?_
                            refine lv_iload_n hx hb dX16_hour_256 rfl (lv_at hl 2 rfl) ?_
                            refine lv_iconst (v := 1) hx hb dX16_hour_257 (by decide) ?_
                            refine rE2 ((show gG (sArr U4 40 0 q4 nt) 40 0 = q4 from rfl).trans e40.symm) ?_
                            refine aStZ (S := U13) (t := 40) X w h4V (by decide) rfl rfl (Or.inr rfl) (by rw [h4N]; exact nI_vp hlb (by have := h.b_ta; omega)) dX16_hour_258 (fun H locs w => ?_)
                            have h : RI ea (sA U13 40 0 (upd (mA U13 40 0) (nI b).toNatClampNeg 1)) ns nj nm nt nr (nc245 + 1) := h.stA (by decide)
                            have hK : Kq hvH hiHr hrQ S (sA U13 40 0 (upd (mA U13 40 0) (nI b).toNatClampNeg 1)) := hK.sA rfl
                            have hdec : wq (sA U13 40 0 (upd (mA U13 40 0) (nI b).toNatClampNeg 1)) nt + 1 ≤ wq T245 nt := hdec
                            refine lv_aload_n hx hb dX16_hour_259 rfl (lv_at hl 0 rfl) ?_
                            refine lv_aload_n hx hb dX16_hour_260 rfl (lv_at hl 0 rfl) ?_
                            refine rE0 ((rfl).trans ((hK_U13.G (t := 16) (i := 0) rfl)).symm) ?_
                            refine g_16_2 (S := (sA U13 40 0 (upd (mA U13 40 0) (nI b).toNatClampNeg 1))) (x := (mI (sA U13 40 0 (upd (mA U13 40 0) (nI b).toNatClampNeg 1)) 258 0)) X w h.v wF_X16_7 (rfl) dX16_hour_261 ?_
                            refine lv_aload_n hx hb dX16_hour_264 rfl (lv_at hl 1 rfl) ?_
                            refine rE0 ((show gG (sArr U4 40 0 q4 nt) 40 0 = q4 from rfl).trans e40.symm) ?_
                            refine rE2 ((rfl).trans ((hK_U13.G (t := 16) (i := 0) rfl)).symm) ?_
                            refine cV (S := (sA U13 40 0 (upd (mA U13 40 0) (nI b).toNatClampNeg 1))) (nA := 2) (As := [.int (mI (sA U13 40 0 (upd (mA U13 40 0) (nI b).toNatClampNeg 1)) 258 0), .ref (gG (sA U13 40 0 (upd (mA U13 40 0) (nI b).toNatClampNeg 1)) 40 0)]) (rest := []) X w hl h.v (m_X16_next G (sA U13 40 0 (upd (mA U13 40 0) (nI b).toNatClampNeg 1)) ea ns nj nm nt nr (nc245 + 1) h (mI (sA U13 40 0 (upd (mA U13 40 0) (nI b).toNatClampNeg 1)) 258 0) (h4V) (h4N)) wY_X16_next wM_X16_217 wIn_X16_next wSe_X16_X16_next wI_X16 (by decide) rfl (by decide +kernel) rfl rfl dX16_hour_265 ⟨by decide, by decide⟩ (Nat.le_of_ble_eq_true rfl) (⟨(show 7 + gC nc245 + addC nc245 + 0 ≤ 12 by omega), (show 249 + gL nc245 + addL nc245 + 0 ≤ 455 by omega)⟩) (fun v16 S1 H locs hp w => ?_)
                            obtain ⟨⟨x15, hB, rfl⟩, rfl⟩ := hp
                            refine lv_istore_n (lv' := [(2, .int x15), (0, .ref (gG S 16 0)), (1, .ref (gG (sArr U4 40 0 q4 nt) 40 0))]) hx hb dX16_hour_268 rfl hl (by decide) rfl (fun ls hl => ?_)
                            refine lv_goto (tgt := 245) hx hb dX16_hour_269 (by decide) ?_
                            refine W.widen (k := 7 + gC (nc245 + 1)) (n := 249 + gL (nc245 + 1)) (by first | exact Nat.le_refl _ | exact (show 7 + gC nc245 + addC nc245 ≤ 7 + (gC nc245 + addC nc245) by omega)) (by first | exact Nat.le_refl _ | exact (show 249 + gL nc245 + addL nc245 ≤ 249 + (gL nc245 + addL nc245) by omega)) ?_
                            exact ih245 x15 (sA U13 40 0 (upd (mA U13 40 0) (nI b).toNatClampNeg 1)) (nc245 + 1) _ _ _ (by omega) (hB) (h) (hK) (hQ) (e257) (e40) (h4V) (h4N) w (lv_sub hl [1, 2, 0] rfl)
                          · skip
                            refine cV (S := T245) (nA := 1) (As := [.int (nI b)]) (rest := []) X w hl h.v (m_X16_send_n G T245 ea ns nj nm nt nr nc245 h hea b hlb hQ hyes) wY_X16_send wM_X16_221 wIn_X16_send wSe_X16_X16_send wI_X16 (by decide) rfl (by decide +kernel) rfl rfl dX16_hour_252 ⟨by decide, by decide⟩ (Nat.le_of_ble_eq_true rfl) (⟨(show 7 + gC nc245 + 0 ≤ 12 by omega), (show 249 + gL nc245 + 0 ≤ 455 by omega)⟩) (fun v18 U17 H locs hp w => ?_)
                            obtain ⟨rfl, h, hkU17, hQ, e247⟩ := hp
                            have hK_U17 : Kq hvH hiHr hrQ S U17 := hK.tr (q12 hkU17)
                            have hK := hK_U17
                            have e257 : mI U17 257 0 = mI S 257 0 := (hkU17.I (f := 257) (i := 0) rfl).trans e257
                            have h4V : vV U17 40 0 := by rw [show vV U17 40 0 = vV T245 40 0 from hkU17.V rfl]; exact h4V
                            have h4N : mN U17 40 0 = nt := (hkU17.1 40 0 rfl).2.2.1.trans h4N
                            have e40 : gG U17 40 0 = q4 := (hkU17.G (t := 40) (i := 0) rfl).trans e40
                            have hdec : wq U17 nt + 1 ≤ wq T245 nt := wq_s hlb hsb e247
                            refine lv_aload_n hx hb dX16_hour_255 rfl (lv_at hl 1 rfl) ?_
                            refine lv_iload_n hx hb dX16_hour_256 rfl (lv_at hl 2 rfl) ?_
                            refine lv_iconst (v := 1) hx hb dX16_hour_257 (by decide) ?_
                            refine rE2 ((show gG (sArr U4 40 0 q4 nt) 40 0 = q4 from rfl).trans e40.symm) ?_
                            refine aStZ (S := U17) (t := 40) X w h4V (by decide) rfl rfl (Or.inr rfl) (by rw [h4N]; exact nI_vp hlb (by have := h.b_ta; omega)) dX16_hour_258 (fun H locs w => ?_)
                            have h : RI ea (sA U17 40 0 (upd (mA U17 40 0) (nI b).toNatClampNeg 1)) ns nj nm nt nr nc245 := h.stA (by decide)
                            have hK : Kq hvH hiHr hrQ S (sA U17 40 0 (upd (mA U17 40 0) (nI b).toNatClampNeg 1)) := hK.sA rfl
                            have hdec : wq (sA U17 40 0 (upd (mA U17 40 0) (nI b).toNatClampNeg 1)) nt + 1 ≤ wq T245 nt := hdec
                            refine lv_aload_n hx hb dX16_hour_259 rfl (lv_at hl 0 rfl) ?_
                            refine lv_aload_n hx hb dX16_hour_260 rfl (lv_at hl 0 rfl) ?_
                            refine rE0 ((rfl).trans ((hK_U17.G (t := 16) (i := 0) rfl)).symm) ?_
                            refine g_16_2 (S := (sA U17 40 0 (upd (mA U17 40 0) (nI b).toNatClampNeg 1))) (x := (mI (sA U17 40 0 (upd (mA U17 40 0) (nI b).toNatClampNeg 1)) 258 0)) X w h.v wF_X16_7 (rfl) dX16_hour_261 ?_
                            refine lv_aload_n hx hb dX16_hour_264 rfl (lv_at hl 1 rfl) ?_
                            refine rE0 ((show gG (sArr U4 40 0 q4 nt) 40 0 = q4 from rfl).trans e40.symm) ?_
                            refine rE2 ((rfl).trans ((hK_U17.G (t := 16) (i := 0) rfl)).symm) ?_
                            refine cV (S := (sA U17 40 0 (upd (mA U17 40 0) (nI b).toNatClampNeg 1))) (nA := 2) (As := [.int (mI (sA U17 40 0 (upd (mA U17 40 0) (nI b).toNatClampNeg 1)) 258 0), .ref (gG (sA U17 40 0 (upd (mA U17 40 0) (nI b).toNatClampNeg 1)) 40 0)]) (rest := []) X w hl h.v (m_X16_next G (sA U17 40 0 (upd (mA U17 40 0) (nI b).toNatClampNeg 1)) ea ns nj nm nt nr nc245 h (mI (sA U17 40 0 (upd (mA U17 40 0) (nI b).toNatClampNeg 1)) 258 0) (h4V) (h4N)) wY_X16_next wM_X16_217 wIn_X16_next wSe_X16_X16_next wI_X16 (by decide) rfl (by decide +kernel) rfl rfl dX16_hour_265 ⟨by decide, by decide⟩ (Nat.le_of_ble_eq_true rfl) (⟨(show 7 + gC nc245 + 0 ≤ 12 by omega), (show 249 + gL nc245 + 0 ≤ 455 by omega)⟩) (fun v20 S1 H locs hp w => ?_)
                            obtain ⟨⟨x19, hB, rfl⟩, rfl⟩ := hp
                            refine lv_istore_n (lv' := [(2, .int x19), (0, .ref (gG S 16 0)), (1, .ref (gG (sArr U4 40 0 q4 nt) 40 0))]) hx hb dX16_hour_268 rfl hl (by decide) rfl (fun ls hl => ?_)
                            refine lv_goto (tgt := 245) hx hb dX16_hour_269 (by decide) ?_
                            refine W.widen (k := 7 + gC nc245) (n := 249 + gL nc245) (by first | exact Nat.le_refl _ | exact (show 7 + gC nc245 + addC nc245 ≤ 7 + (gC nc245 + addC nc245) by omega)) (by first | exact Nat.le_refl _ | exact (show 249 + gL nc245 + addL nc245 ≤ 249 + (gL nc245 + addL nc245) by omega)) ?_
                            exact ih245 x19 (sA U17 40 0 (upd (mA U17 40 0) (nI b).toNatClampNeg 1)) nc245 _ _ _ (by omega) (hB) (h) (hK) (hQ) (e257) (e40) (h4V) (h4N) w (lv_sub hl [1, 2, 0] rfl)
                    refine W.widen (k := 7 + gC nc5) (n := 249 + gL nc5) (Nat.le_add_right _ _) (Nat.le_add_right _ _) ?_
                    exact L245 _ x9 (sArr U4 40 0 q4 nt) nc5 _ _ _ (Nat.lt_succ_self _) (hB) (h) (hK) (hQ) (e257) (rfl) (h4V) (h4N) w (lv_sub hl [2, 1, 0] rfl)
                  · have hlt_k163 : k163 < nt := by
                      have hb1 := h.b_ta
                      exact Nat.lt_of_not_le (fun z => hc_k163 ((nI_leI (a := nt) (b := k163) (by omega) (by omega)).mpr z))
                    refine lv_aload_n hx hb dX16_hour_176 rfl (lv_at hl 1 rfl) ?_
                    refine lv_aload_n hx hb dX16_hour_177 rfl (lv_at hl 1 rfl) ?_
                    refine rE0 ((rfl).trans ((hK_T163.G (t := 16) (i := 0) rfl)).symm) ?_
                    refine g_16_9 (S := T163) (x := (some (gG T163 17 9))) X w h.v wF_X16_26 (h.f_ta) dX16_hour_178 ?_
                    refine lv_iload_n hx hb dX16_hour_181 rfl (lv_at hl 0 rfl) ?_
                    refine cF (S := T163) (t := 17) (nA := 1) (As := [.int (nI k163)]) (rest := [.ref (gG S 16 0)]) X w hl h.l_ta.1 (m_get G T163 ea 9 k163 nt (some (gG T163 15 k163)) h.l_ta hlt_k163 (h.e_ta k163 hlt_k163).1) wY_Jx4a65c_get_915e3 wM_X16_46 wIn_Jx4a65c_get_915e3 wSe_Jx4a65c_Jx4a65c_get_915e3_of_java_util_List_get__I_Ljava_lang_Object_ wI_Jx4a65c fw_get (by decide) rfl (by decide +kernel) rfl rfl dX16_hour_182 ⟨by decide, by decide⟩ (Nat.le_of_ble_eq_true rfl) (⟨Nat.le_of_ble_eq_true rfl, Nat.le_of_ble_eq_true rfl⟩) (fun v21 S1 H locs hp w => ?_)
                    obtain ⟨rfl, rfl⟩ := hp
                    refine ckC (S := T163) (t := 15) X w (h.e_ta k163 hlt_k163).2 (by decide) rfl wC_X16_105 dX16_hour_187 ?_
                    refine rE1 ((rfl).trans ((hK_T163.G (t := 16) (i := 0) rfl)).symm) ?_
                    refine cV (S := T163) (nA := 1) (As := [.ref (gG T163 15 k163)]) (rest := []) X w hl h.v (m_X16_isStale G T163 ea ns nj nm nt nr nq h k163 hlt_k163) wY_X16_isStale wM_X16_147 wIn_X16_isStale wSe_X16_X16_isStale wI_X16 (by decide) rfl (by decide +kernel) rfl rfl dX16_hour_190 ⟨by decide, by decide⟩ (Nat.le_of_ble_eq_true rfl) (⟨Nat.le_of_ble_eq_true rfl, Nat.le_of_ble_eq_true rfl⟩) (fun v22 S1 H locs hp w => ?_)
                    obtain ⟨rfl, rfl⟩ := hp
                    refine lv_if_eq (tgt := 213) hx hb dX16_hour_193 (by decide) (fun hc23 => ?_) (fun hc23 => ?_)
                    · refine lv_iinc (v := nI (k163 + 1)) (lv' := [(1, .int (nI (k163 + 1))), (0, .ref (gG S 16 0))]) hx hb dX16_hour_213 hl (k := 0) rfl (nI_1 _) (by decide) rfl (fun ls hl => ?_)
                      refine lv_goto (tgt := 163) hx hb dX16_hour_216 (by decide) ?_
                      exact ih163 (k163 + 1) T163 _ _ _ (by omega) (hlt_k163) (h) (hK) (hQ) (e257) (h40) w (lv_sub hl [0, 1] rfl)
                    · refine lv_aload_n hx hb dX16_hour_196 rfl (lv_at hl 1 rfl) ?_
                      refine rE0 ((rfl).trans ((hK_T163.G (t := 16) (i := 0) rfl)).symm) ?_
                      refine g_16_9 (S := T163) (x := (some (gG T163 17 9))) X w h.v wF_X16_26 (h.f_ta) dX16_hour_197 ?_
                      refine lv_iload_n hx hb dX16_hour_200 rfl (lv_at hl 0 rfl) ?_
                      refine cF (S := T163) (t := 17) (nA := 1) (As := [.int (nI k163)]) (rest := []) X w hl h.l_ta.1 (m_get G T163 ea 9 k163 nt (some (gG T163 15 k163)) h.l_ta hlt_k163 (h.e_ta k163 hlt_k163).1) wY_Jx4a65c_get_915e3 wM_X16_46 wIn_Jx4a65c_get_915e3 wSe_Jx4a65c_Jx4a65c_get_915e3_of_java_util_List_get__I_Ljava_lang_Object_ wI_Jx4a65c fw_get (by decide) rfl (by decide +kernel) rfl rfl dX16_hour_201 ⟨by decide, by decide⟩ (Nat.le_of_ble_eq_true rfl) (⟨Nat.le_of_ble_eq_true rfl, Nat.le_of_ble_eq_true rfl⟩) (fun v24 S1 H locs hp w => ?_)
                      obtain ⟨rfl, rfl⟩ := hp
                      refine ckC (S := T163) (t := 15) X w (h.e_ta k163 hlt_k163).2 (by decide) rfl wC_X16_105 dX16_hour_206 ?_
                      refine lv_iconst (v := 2) hx hb dX16_hour_209 (by decide) ?_
                      refine p_15_7 (S := T163) (x := 2) X w (h.e_ta k163 hlt_k163).2 wF_X16_144 dX16_hour_210 (fun H locs w => ?_)
                      have h : RI ea (sI T163 247 k163 2) ns nj nm nt nr nq := h.s247 ⟨2, by decide, rfl⟩
                      have hK : Kq hvH hiHr hrQ S (sI T163 247 k163 2) := hK.sI rfl
                      refine lv_iinc (v := nI (k163 + 1)) (lv' := [(1, .int (nI (k163 + 1))), (0, .ref (gG S 16 0))]) hx hb dX16_hour_213 hl (k := 0) rfl (nI_1 _) (by decide) rfl (fun ls hl => ?_)
                      refine lv_goto (tgt := 163) hx hb dX16_hour_216 (by decide) ?_
                      exact ih163 (k163 + 1) (sI T163 247 k163 2) _ _ _ (by omega) (hlt_k163) (h) (hK) (hQ) (e257) (h40) w (lv_sub hl [0, 1] rfl)
              exact L163 _ 0 T63 _ _ _ (Nat.lt_succ_self _) (Nat.zero_le _) (h) (hK) (hQ) (e257) (h40) w (lv_sub hl [0, 1] rfl)
            · have hlt_k63 : k63 < nm := by
                have hb1 := h.b_mo
                exact Nat.lt_of_not_le (fun z => hc_k63 ((nI_leI (a := nm) (b := k63) (by omega) (by omega)).mpr z))
              refine lv_aload_n hx hb dX16_hour_76 rfl (lv_at hl 1 rfl) ?_
              refine lv_iload_n hx hb dX16_hour_77 rfl (lv_at hl 0 rfl) ?_
              refine lv_aload_n hx hb dX16_hour_78 rfl (lv_at hl 1 rfl) ?_
              refine rE0 ((rfl).trans ((hK_T63.G (t := 16) (i := 0) rfl)).symm) ?_
              refine g_16_1 (S := T63) (x := (nI (hN S))) X w h.v wF_X16_125 (e257.trans h0.hNx.2) dX16_hour_79 ?_
              refine lv_bipush (v := 24) hx hb dX16_hour_82 (by decide) ?_
              refine lv_irem hx hb dX16_hour_84 (by decide) ?_
              refine lv_topi (fun z25 ez25 => ?_)
              obtain rfl : z25 = nI (hN S % 24) := ez25.trans (pk_rem (d := 24) (by have := h0.hNx.1; omega) (by decide) (by decide))
              refine rE2 ((rfl).trans ((hK_T63.G (t := 16) (i := 0) rfl)).symm) ?_
              refine cV (S := T63) (nA := 2) (As := [.int (nI k63), .int (nI (hN S % 24))]) (rest := []) X w hl h.v (m_X16_setOf G T63 ea ns nj nm nt nr nq h (nI k63) (hN S % 24) (Nat.mod_lt _ (by decide))) wY_X16_setOf wM_X16_208 wIn_X16_setOf wSe_X16_X16_setOf wI_X16 (by decide) rfl (by decide +kernel) rfl rfl dX16_hour_85 ⟨by decide, by decide⟩ (Nat.le_of_ble_eq_true rfl) (⟨Nat.le_of_ble_eq_true rfl, Nat.le_of_ble_eq_true rfl⟩) (fun v26 S1 H locs hp w => ?_)
              obtain ⟨rfl, rfl⟩ := hp
              refine lv_iconst (v := (-1)) hx hb dX16_hour_88 (by decide) ?_
              have J97 : ∀ (z97_0 : Bool) (H : Heap) (locs : List Loc) (ls : Array Slot), Wd s0 D cy T63 s.heap H locs → lv_has ls 4 [(1, .int (nI k63)), (0, .ref (gG S 16 0))] → W p l e rm_m_X16_hour s m ([.ref (gG S 16 0)] : List Value).toArray below meth c H locs (0) (0) (MQ below (GQ s0 D cy (fun v S' => none = v ∧ ∃ nq', RI ea S' ns nj nm nt nr nq' ∧ Kq hvH hiHr hrQ S S' ∧ QI s0 S' nq' nt ∧ ¬ vV S' 40 0 ∧ mI S' 257 0 = nI (hN S + 1))) ([.ref (gG S 16 0)] : List Value).toArray s rm_m_X16_hour.cells rm_m_X16_hour.slots (A0 s0)) (F0 m 97 ls [.int (b2i z97_0)]) := by
                intro z97_0 H locs ls  w hl
                refine lv_istore_n (lv' := [(2, .int (b2i z97_0)), (1, .int (nI k63)), (0, .ref (gG S 16 0))]) hx hb dX16_hour_97 rfl hl (by decide) rfl (fun ls hl => ?_)
                refine lv_aload_n hx hb dX16_hour_98 rfl (lv_at hl 2 rfl) ?_
                refine rE0 ((rfl).trans ((hK_T63.G (t := 16) (i := 0) rfl)).symm) ?_
                refine g_16_8 (S := T63) (x := (some (gG T63 17 8))) X w h.v wF_X16_23 (h.f_mo) dX16_hour_99 ?_
                refine lv_iload_n hx hb dX16_hour_102 rfl (lv_at hl 1 rfl) ?_
                refine cF (S := T63) (t := 17) (nA := 1) (As := [.int (nI k63)]) (rest := []) X w hl h.l_mo.1 (m_get G T63 ea 8 k63 nm (some (gG T63 12 k63)) h.l_mo hlt_k63 (h.e_mo k63 hlt_k63).1) wY_Jx4a65c_get_915e3 wM_X16_46 wIn_Jx4a65c_get_915e3 wSe_Jx4a65c_Jx4a65c_get_915e3_of_java_util_List_get__I_Ljava_lang_Object_ wI_Jx4a65c fw_get (by decide) rfl (by decide +kernel) rfl rfl dX16_hour_103 ⟨by decide, by decide⟩ (Nat.le_of_ble_eq_true rfl) (⟨Nat.le_of_ble_eq_true rfl, Nat.le_of_ble_eq_true rfl⟩) (fun v27 S1 H locs hp w => ?_)
                obtain ⟨rfl, rfl⟩ := hp
                refine ckC (S := T63) (t := 12) X w (h.e_mo k63 hlt_k63).2.1 (by decide) rfl wC_X16_93 dX16_hour_108 ?_
                refine lv_astore_n (lv' := [(3, .ref (gG T63 12 k63)), (2, .int (b2i z97_0)), (1, .int (nI k63)), (0, .ref (gG S 16 0))]) hx hb dX16_hour_111 rfl hl (by decide) rfl (fun ls hl => ?_)
                refine lv_aload_n hx hb dX16_hour_112 rfl (lv_at hl 0 rfl) ?_
                refine lv_aload_n hx hb dX16_hour_113 rfl (lv_at hl 0 rfl) ?_
                refine g_12_1 (S := T63) (x := (mI T63 193 k63)) X w (h.e_mo k63 hlt_k63).2.1 wF_X16_101 (rfl) dX16_hour_114 ?_
                refine lv_iload_n hx hb dX16_hour_117 rfl (lv_at hl 1 rfl) ?_
                have J127 : ∀ (z127_2 : Int32) (H : Heap) (locs : List Loc) (ls : Array Slot), Wd s0 D cy T63 s.heap H locs → lv_has ls 4 [(3, .ref (gG T63 12 k63)), (2, .int (b2i z97_0)), (1, .int (nI k63)), (0, .ref (gG S 16 0))] → W p l e rm_m_X16_hour s m ([.ref (gG S 16 0)] : List Value).toArray below meth c H locs (0) (0) (MQ below (GQ s0 D cy (fun v S' => none = v ∧ ∃ nq', RI ea S' ns nj nm nt nr nq' ∧ Kq hvH hiHr hrQ S S' ∧ QI s0 S' nq' nt ∧ ¬ vV S' 40 0 ∧ mI S' 257 0 = nI (hN S + 1))) ([.ref (gG S 16 0)] : List Value).toArray s rm_m_X16_hour.cells rm_m_X16_hour.slots (A0 s0)) (F0 m 127 ls [.int z127_2, .int (mI T63 193 k63), .ref (gG T63 12 k63)]) := by
                  intro z127_2 H locs ls  w hl
                  refine lv_iadd hx hb dX16_hour_127 ?_
                  refine lv_iconst (v := 0) hx hb dX16_hour_128 (by decide) ?_
                  refine lv_bipush (v := 40) hx hb dX16_hour_129 (by decide) ?_
                  refine cS (S := T63) (nA := 3) (As := [.int ((mI T63 193 k63) + z127_2), .int 0, .int 40]) (rest := [.ref (gG T63 12 k63)]) X w hl (m_X16_hold G T63 ((mI T63 193 k63) + z127_2) 0 40) wY_X16_hold wM_X16_89 wSt_X16_hold wI_X16 (by decide +kernel) rfl rfl dX16_hour_131 ⟨by decide, by decide⟩ (Nat.le_of_ble_eq_true rfl) (⟨Nat.le_of_ble_eq_true rfl, Nat.le_of_ble_eq_true rfl⟩) (fun v28 S1 H locs hp w => ?_)
                  obtain ⟨rfl, rfl⟩ := hp
                  refine p_12_1 (S := T63) (x := (if ((mI T63 193 k63) + z127_2) < 0 then 0 else if 40 < ((mI T63 193 k63) + z127_2) then 40 else ((mI T63 193 k63) + z127_2))) X w (h.e_mo k63 hlt_k63).2.1 wF_X16_101 dX16_hour_134 (fun H locs w => ?_)
                  have h : RI ea (sI T63 193 k63 (if ((mI T63 193 k63) + z127_2) < 0 then 0 else if 40 < ((mI T63 193 k63) + z127_2) then 40 else ((mI T63 193 k63) + z127_2))) ns nj nm nt nr nq := h.stI (by decide)
                  have hK : Kq hvH hiHr hrQ S (sI T63 193 k63 (if ((mI T63 193 k63) + z127_2) < 0 then 0 else if 40 < ((mI T63 193 k63) + z127_2) then 40 else ((mI T63 193 k63) + z127_2))) := hK.sI rfl
                  refine lv_aload_n hx hb dX16_hour_137 rfl (lv_at hl 0 rfl) ?_
                  refine lv_dup hx hb dX16_hour_138 rfl ?_
                  refine g_12_2 (S := (sI T63 193 k63 (if ((mI T63 193 k63) + z127_2) < 0 then 0 else if 40 < ((mI T63 193 k63) + z127_2) then 40 else ((mI T63 193 k63) + z127_2)))) (x := (mI (sI T63 193 k63 (if ((mI T63 193 k63) + z127_2) < 0 then 0 else if 40 < ((mI T63 193 k63) + z127_2) then 40 else ((mI T63 193 k63) + z127_2))) 194 k63)) X w (h.e_mo k63 hlt_k63).2.1 wF_X16_211 (rfl) dX16_hour_139 ?_
                  refine lv_iload_n hx hb dX16_hour_142 rfl (lv_at hl 1 rfl) ?_
                  have J151 : ∀ (z151_2 : Bool) (H : Heap) (locs : List Loc) (ls : Array Slot), Wd s0 D cy (sI T63 193 k63 (if ((mI T63 193 k63) + z127_2) < 0 then 0 else if 40 < ((mI T63 193 k63) + z127_2) then 40 else ((mI T63 193 k63) + z127_2))) s.heap H locs → lv_has ls 4 [(3, .ref (gG T63 12 k63)), (2, .int (b2i z97_0)), (1, .int (nI k63)), (0, .ref (gG S 16 0))] → W p l e rm_m_X16_hour s m ([.ref (gG S 16 0)] : List Value).toArray below meth c H locs (0) (0) (MQ below (GQ s0 D cy (fun v S' => none = v ∧ ∃ nq', RI ea S' ns nj nm nt nr nq' ∧ Kq hvH hiHr hrQ S S' ∧ QI s0 S' nq' nt ∧ ¬ vV S' 40 0 ∧ mI S' 257 0 = nI (hN S + 1))) ([.ref (gG S 16 0)] : List Value).toArray s rm_m_X16_hour.cells rm_m_X16_hour.slots (A0 s0)) (F0 m 151 ls [.int (b2i z151_2), .int (mI (sI T63 193 k63 (if ((mI T63 193 k63) + z127_2) < 0 then 0 else if 40 < ((mI T63 193 k63) + z127_2) then 40 else ((mI T63 193 k63) + z127_2))) 194 k63), .ref (gG T63 12 k63)]) := by
                    intro z151_2 H locs ls  w hl
                    refine lv_iadd hx hb dX16_hour_151 ?_
                    refine p_12_2 (S := (sI T63 193 k63 (if ((mI T63 193 k63) + z127_2) < 0 then 0 else if 40 < ((mI T63 193 k63) + z127_2) then 40 else ((mI T63 193 k63) + z127_2)))) (x := ((mI (sI T63 193 k63 (if ((mI T63 193 k63) + z127_2) < 0 then 0 else if 40 < ((mI T63 193 k63) + z127_2) then 40 else ((mI T63 193 k63) + z127_2))) 194 k63) + (b2i z151_2))) X w (h.e_mo k63 hlt_k63).2.1 wF_X16_211 dX16_hour_152 (fun H locs w => ?_)
                    have h : RI ea (sI (sI T63 193 k63 (if ((mI T63 193 k63) + z127_2) < 0 then 0 else if 40 < ((mI T63 193 k63) + z127_2) then 40 else ((mI T63 193 k63) + z127_2))) 194 k63 ((mI (sI T63 193 k63 (if ((mI T63 193 k63) + z127_2) < 0 then 0 else if 40 < ((mI T63 193 k63) + z127_2) then 40 else ((mI T63 193 k63) + z127_2))) 194 k63) + (b2i z151_2))) ns nj nm nt nr nq := h.stI (by decide)
                    have hK : Kq hvH hiHr hrQ S (sI (sI T63 193 k63 (if ((mI T63 193 k63) + z127_2) < 0 then 0 else if 40 < ((mI T63 193 k63) + z127_2) then 40 else ((mI T63 193 k63) + z127_2))) 194 k63 ((mI (sI T63 193 k63 (if ((mI T63 193 k63) + z127_2) < 0 then 0 else if 40 < ((mI T63 193 k63) + z127_2) then 40 else ((mI T63 193 k63) + z127_2))) 194 k63) + (b2i z151_2))) := hK.sI rfl
                    refine lv_iinc (v := nI (k63 + 1)) (lv' := [(1, .int (nI (k63 + 1))), (3, .ref (gG T63 12 k63)), (2, .int (b2i z97_0)), (0, .ref (gG S 16 0))]) hx hb dX16_hour_155 hl (k := 2) rfl (nI_1 _) (by decide) rfl (fun ls hl => ?_)
                    refine lv_goto (tgt := 63) hx hb dX16_hour_158 (by decide) ?_
                    exact ih63 (k63 + 1) (sI (sI T63 193 k63 (if ((mI T63 193 k63) + z127_2) < 0 then 0 else if 40 < ((mI T63 193 k63) + z127_2) then 40 else ((mI T63 193 k63) + z127_2))) 194 k63 ((mI (sI T63 193 k63 (if ((mI T63 193 k63) + z127_2) < 0 then 0 else if 40 < ((mI T63 193 k63) + z127_2) then 40 else ((mI T63 193 k63) + z127_2))) 194 k63) + (b2i z151_2))) _ _ _ (by omega) (hlt_k63) (h) (hK) (hQ) (e257) (h40) w (lv_sub hl [0, 3] rfl)
                  refine lv_if_eq (tgt := 150) hx hb dX16_hour_143 (by decide) (fun hc29 => ?_) (fun hc29 => ?_)
                  · refine lv_iconst (v := 0) hx hb dX16_hour_150 (by decide) ?_
                    exact J151 false _ _ _  w (lv_sub hl [0, 1, 2, 3] rfl)
                  · refine lv_iconst (v := 1) hx hb dX16_hour_146 (by decide) ?_
                    refine lv_goto (tgt := 151) hx hb dX16_hour_147 (by decide) ?_
                    exact J151 true _ _ _  w (lv_sub hl [0, 1, 2, 3] rfl)
                refine lv_if_eq (tgt := 125) hx hb dX16_hour_118 (by decide) (fun hc30 => ?_) (fun hc30 => ?_)
                · refine lv_bipush (v := (-2)) hx hb dX16_hour_125 (by decide) ?_
                  exact J127 (-2) _ _ _  w (lv_sub hl [0, 1, 2, 3] rfl)
                · refine lv_iconst (v := 3) hx hb dX16_hour_121 (by decide) ?_
                  refine lv_goto (tgt := 127) hx hb dX16_hour_122 (by decide) ?_
                  exact J127 3 _ _ _  w (lv_sub hl [0, 1, 2, 3] rfl)
              refine lv_icmp_eq (tgt := 96) hx hb dX16_hour_89 (by decide) (fun hc31 => ?_) (fun hc31 => ?_)
              · refine lv_iconst (v := 0) hx hb dX16_hour_96 (by decide) ?_
                exact J97 false _ _ _  w (lv_sub hl [0, 1] rfl)
              · refine lv_iconst (v := 1) hx hb dX16_hour_92 (by decide) ?_
                refine lv_goto (tgt := 97) hx hb dX16_hour_93 (by decide) ?_
                exact J97 true _ _ _  w (lv_sub hl [0, 1] rfl)
        exact L63 _ 0 T2 _ _ _ (Nat.lt_succ_self _) (Nat.zero_le _) (h) (hK) (hQ) (e257) (h40) w (lv_sub hl [0, 1] rfl)
      · have hlt_k2 : k2 < nt := by
          have hb1 := h.b_ta
          exact Nat.lt_of_not_le (fun z => hc_k2 ((nI_leI (a := nt) (b := k2) (by omega) (by omega)).mpr z))
        refine lv_aload_n hx hb dX16_hour_15 rfl (lv_at hl 1 rfl) ?_
        refine rE0 ((rfl).trans ((hK_T2.G (t := 16) (i := 0) rfl)).symm) ?_
        refine g_16_9 (S := T2) (x := (some (gG T2 17 9))) X w h.v wF_X16_26 (h.f_ta) dX16_hour_16 ?_
        refine lv_iload_n hx hb dX16_hour_19 rfl (lv_at hl 0 rfl) ?_
        refine cF (S := T2) (t := 17) (nA := 1) (As := [.int (nI k2)]) (rest := []) X w hl h.l_ta.1 (m_get G T2 ea 9 k2 nt (some (gG T2 15 k2)) h.l_ta hlt_k2 (h.e_ta k2 hlt_k2).1) wY_Jx4a65c_get_915e3 wM_X16_46 wIn_Jx4a65c_get_915e3 wSe_Jx4a65c_Jx4a65c_get_915e3_of_java_util_List_get__I_Ljava_lang_Object_ wI_Jx4a65c fw_get (by decide) rfl (by decide +kernel) rfl rfl dX16_hour_20 ⟨by decide, by decide⟩ (Nat.le_of_ble_eq_true rfl) (⟨Nat.le_of_ble_eq_true rfl, Nat.le_of_ble_eq_true rfl⟩) (fun v32 S1 H locs hp w => ?_)
        obtain ⟨rfl, rfl⟩ := hp
        refine ckC (S := T2) (t := 15) X w (h.e_ta k2 hlt_k2).2 (by decide) rfl wC_X16_105 dX16_hour_25 ?_
        refine g_15_1 (S := T2) (x := (mI T2 241 k2)) X w (h.e_ta k2 hlt_k2).2 wF_X16_112 (rfl) dX16_hour_28 ?_
        refine lv_aload_n hx hb dX16_hour_31 rfl (lv_at hl 1 rfl) ?_
        refine rE0 ((rfl).trans ((hK_T2.G (t := 16) (i := 0) rfl)).symm) ?_
        refine g_16_1 (S := T2) (x := (mI T2 257 0)) X w h.v wF_X16_125 (rfl) dX16_hour_32 ?_
        refine lv_icmp_ne (tgt := 55) hx hb dX16_hour_35 (by decide) (fun hth => ?_) (fun hth => ?_)
        · refine lv_iinc (v := nI (k2 + 1)) (lv' := [(1, .int (nI (k2 + 1))), (0, .ref (gG S 16 0))]) hx hb dX16_hour_55 hl (k := 0) rfl (nI_1 _) (by decide) rfl (fun ls hl => ?_)
          refine lv_goto (tgt := 2) hx hb dX16_hour_58 (by decide) ?_
          exact ih2 (k2 + 1) T2 _ _ _ (by omega) (hlt_k2) (h) (hK) (hQ) (e257) (h40) w (lv_sub hl [0, 1] rfl)
        · refine lv_aload_n hx hb dX16_hour_38 rfl (lv_at hl 1 rfl) ?_
          refine lv_aload_n hx hb dX16_hour_39 rfl (lv_at hl 1 rfl) ?_
          refine rE0 ((rfl).trans ((hK_T2.G (t := 16) (i := 0) rfl)).symm) ?_
          refine g_16_9 (S := T2) (x := (some (gG T2 17 9))) X w h.v wF_X16_26 (h.f_ta) dX16_hour_40 ?_
          refine lv_iload_n hx hb dX16_hour_43 rfl (lv_at hl 0 rfl) ?_
          refine cF (S := T2) (t := 17) (nA := 1) (As := [.int (nI k2)]) (rest := [.ref (gG S 16 0)]) X w hl h.l_ta.1 (m_get G T2 ea 9 k2 nt (some (gG T2 15 k2)) h.l_ta hlt_k2 (h.e_ta k2 hlt_k2).1) wY_Jx4a65c_get_915e3 wM_X16_46 wIn_Jx4a65c_get_915e3 wSe_Jx4a65c_Jx4a65c_get_915e3_of_java_util_List_get__I_Ljava_lang_Object_ wI_Jx4a65c fw_get (by decide) rfl (by decide +kernel) rfl rfl dX16_hour_44 ⟨by decide, by decide⟩ (Nat.le_of_ble_eq_true rfl) (⟨Nat.le_of_ble_eq_true rfl, Nat.le_of_ble_eq_true rfl⟩) (fun v33 S1 H locs hp w => ?_)
          obtain ⟨rfl, rfl⟩ := hp
          refine ckC (S := T2) (t := 15) X w (h.e_ta k2 hlt_k2).2 (by decide) rfl wC_X16_105 dX16_hour_49 ?_
          refine rE1 ((rfl).trans ((hK_T2.G (t := 16) (i := 0) rfl)).symm) ?_
          refine cV (S := T2) (nA := 1) (As := [.ref (gG T2 15 k2)]) (rest := []) X w hl h.v (m_X16_record G T2 ea ns nj nm nt nr nq h k2 hlt_k2 hth hQ) wY_X16_record wM_X16_204 wIn_X16_record wSe_X16_X16_record wI_X16 (by decide) rfl (by decide +kernel) rfl rfl dX16_hour_52 ⟨by decide, by decide⟩ (Nat.le_of_ble_eq_true rfl) (⟨Nat.le_of_ble_eq_true rfl, Nat.le_of_ble_eq_true rfl⟩) (fun v36 U34 H locs hp w => ?_)
          obtain ⟨rfl, h, hkU34, hQ⟩ := hp
          have hK_U34 : Kq hvH hiHr hrQ S U34 := hK.tr (q12 hkU34)
          have hK := hK_U34
          have e257 : mI U34 257 0 = mI S 257 0 := (hkU34.I (f := 257) (i := 0) rfl).trans e257
          have h40 : ¬ vV U34 40 0 := by rw [show vV U34 40 0 = vV T2 40 0 from hkU34.V rfl]; exact h40
          refine lv_iinc (v := nI (k2 + 1)) (lv' := [(1, .int (nI (k2 + 1))), (0, .ref (gG S 16 0))]) hx hb dX16_hour_55 hl (k := 0) rfl (nI_1 _) (by decide) rfl (fun ls hl => ?_)
          refine lv_goto (tgt := 2) hx hb dX16_hour_58 (by decide) ?_
          exact ih2 (k2 + 1) U34 _ _ _ (by omega) (hlt_k2) (h) (hK) (hQ) (e257) (h40) w (lv_sub hl [0, 1] rfl)
  exact L2 _ 0 S _ _ _ (Nat.lt_succ_self _) (Nat.zero_le _) (h) (hK) (hQ) (e257) (h40) w (lv_sub hl [0, 1] rfl)
