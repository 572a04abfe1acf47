def hvH (t i : Nat) : Bool := hvQ t i || (t == 40 && i == 0)
def hiHr (f i : Nat) : Bool := f == 257 || hiQ f i
theorem q12 {S T : HS} (k : Kq hvQ hiQ hrQ S T) : Kq hvH hiHr hrQ S T := k.le (fun t i h => (Bool.or_eq_false_iff.mp h).1) (fun t i h => (Bool.or_eq_false_iff.mp h).2) (fun t i h => h)
theorem q1V {t i : Nat} (h : hvQ t i = true) : refV t i = true := by
  have z : ((t = 17 ∨ t = 30) ∧ i = 11) ∨ t = 35 := by simpa [hvQ] using h
  rcases z with ⟨rfl | rfl, rfl⟩ | rfl <;> rfl
theorem q1I {f i : Nat} (e : hiQ f i = true) : refI f i = true := by
    have z : (246 ≤ f ∧ f ≤ 255) ∨ f / 16 = 12 ∨ f = 258 ∨ f = 261 ∨ ((f = 272 ∨ f = 274) ∧ i = 11) := by simpa [hiQ, Nat.ble_eq] using e
    have e1 : (f == 260 || (f == 257 || f == 259)) = false := by
      have h5 : f ≠ 260 := by omega
      have h4 : f ≠ 257 := by omega
      have h3 : f ≠ 259 := by omega
      simp [h5, h4, h3]
    have e2 : refX f = false := refX_f (by omega)
    unfold refI
    rw [e1, e2]
    rcases z with z | z | rfl | rfl | ⟨rfl | rfl, rfl⟩
    · rw [show f / 16 = 15 by omega]; rfl
    · rw [z]; rfl
    · rfl
    · rfl
    · rfl
    · rfl
theorem q1R {f i : Nat} (e : hrQ f i = true) : refR f i = true := by
    have z : f = 267 ∨ (f = 273 ∧ i = 11) := by simpa [hrQ] using e
    rcases z with rfl | ⟨rfl, rfl⟩ <;> rfl
def hiHp (f i : Nat) : Bool := f == 256 || hiHr f i
theorem q2p {S T : HS} (k : Kq hvH hiHr hrQ S T) : Kq hvH hiHp hrQ S T := k.le (fun t i h => h) (fun t i h => (Bool.or_eq_false_iff.mp h).2) (fun t i h => h)
theorem qpk {S T : HS} (k : Kq hvH hiHp hrQ S T) : KeepRP S T := k.le (fun t i => ff_of fun e => by
    rcases Bool.or_eq_true_iff.mp e with e | e
    · exact q1V e
    · have z : t = 40 ∧ i = 0 := by simpa using e
      rw [z.1]; rfl) (fun f i => ff_of fun e => by
    rcases Bool.or_eq_true_iff.mp e with e | e
    · have z : f = 256 := by simpa using e
      rw [z]; rfl
    rcases Bool.or_eq_true_iff.mp e with e | e
    · have z : f = 257 := by simpa using e
      rw [z]; rfl
    · exact refP_of (q1I e)) (fun f i => ff_of q1R)
/-- without the temporary row of the hour -/
def dr40 (S : HS) : HS := sDrop S (fun t i => t = 40 ∧ i = 0)
theorem R39_d40 {S : HS} : R39 (dr40 S) = R39 S := by
  unfold R39
  have e1 : (fun t' i' => if t' < 39 then vV (dr40 S) t' i' else True) = (fun t' i' => if t' < 39 then vV S t' i' else True) := by
    funext t' i'
    by_cases z : t' < 39
    · rw [if_pos z, if_pos z]
      exact propext ⟨fun y => y.1, fun y => ⟨y, fun e => by omega⟩⟩
    · rw [if_neg z, if_neg z]
  rw [e1]; rfl
theorem RI.d40 {ea : Nat} {S : HS} {ns nj nm nt nr nq : Nat} (h : RI ea S ns nj nm nt nr nq) : RI ea (dr40 S) ns nj nm nt nr nq := by
  rw [← RI_39, R39_d40, RI_39]; exact h
theorem Wd.d40 {s0 : State} {D : va_G} {cy : Nat → ClassId} {S : HS} {H0 H : Heap} {locs : List Loc} (w : Wd s0 D cy S H0 H locs) : Wd s0 D cy (dr40 S) H0 H locs := by
  obtain ⟨⟨⟨ws, hP, hD, hm⟩, inj⟩, hS⟩ := w
  exact ⟨⟨⟨ws, hP, hD, fun t i h => hm t i h.1⟩, fun t i t' i' h h' => inj t i t' i' h.1 h'.1⟩, hS⟩
theorem Kq.d40 {S T : HS} (k : Kq hvH hiHr hrQ S T) : Kq hvH hiHr hrQ S (dr40 T) := ⟨fun t i h => by
  obtain ⟨k1, k2, k3, k4, k5⟩ := k.1 t i h
  refine ⟨?_, k2, k3, k4, k5⟩
  rw [← k1]
  exact propext ⟨fun y => y.1, fun y => ⟨y, fun e => by rw [e.1, e.2] at h; exact absurd h (by decide)⟩⟩, k.2⟩
def wq (S : HS) (nt : Nat) : Nat := cntB (fun k => decide (mI S 247 k = 0)) nt
theorem wq_s {S T : HS} {nt b : Nat} (hb : b < nt) (h0 : mI S 247 b = 0) (e : ∀ i, mI T 247 i = if i = b then 1 else mI S 247 i) : wq T nt + 1 ≤ wq S nt := by
  refine cntB_lt nt (fun k _ z => ?_) b hb ?_ (decide_eq_true h0)
  · have z1 := of_decide_eq_true z
    rw [e] at z1
    by_cases c : k = b
    · rw [if_pos c] at z1; exact absurd z1 (by decide)
    · rw [if_neg c] at z1; exact decide_eq_true z1
  · show decide (mI T 247 b = 0) = false
    rw [e, if_pos rfl]; rfl

theorem hq40y {s0 : State} {S : HS} {nq nt b : Nat} (q : QI s0 S nq nt) (ht : nt ≤ 40) (hb : b < nt) (hz : mI S 253 b = 0) : nq + 1 ≤ 40 := by
  have h1 := cntB_lt (p := fun j => decide (mI S 253 j ≠ 0)) (q := fun _ => true) nt (fun _ _ _ => rfl) b hb (by simp [hz]) rfl
  have h2 := q.2
  have h3 := cntB_le (fun _ => true) nt
  omega

theorem dX16_hour_0 : decode cX16_hour 0 = .ok (.iconst 0, 1) := by decide +kernel
theorem dX16_hour_1 : decode cX16_hour 1 = .ok (.istore_n 1, 1) := by decide +kernel
theorem dX16_hour_2 : decode cX16_hour 2 = .ok (.iload_n 1, 1) := by decide +kernel
theorem dX16_hour_3 : decode cX16_hour 3 = .ok (.aload_n 0, 1) := by decide +kernel
theorem dX16_hour_4 : decode cX16_hour 4 = .ok (.getfield 26, 3) := by decide +kernel
theorem dX16_hour_7 : decode cX16_hour 7 = .ok (.invokeinterface 73 1, 5) := by decide +kernel
theorem dX16_hour_12 : decode cX16_hour 12 = .ok (.if_icmp .ge 49, 3) := by decide +kernel
theorem dX16_hour_15 : decode cX16_hour 15 = .ok (.aload_n 0, 1) := by decide +kernel
theorem dX16_hour_16 : decode cX16_hour 16 = .ok (.getfield 26, 3) := by decide +kernel
theorem dX16_hour_19 : decode cX16_hour 19 = .ok (.iload_n 1, 1) := by decide +kernel
theorem dX16_hour_20 : decode cX16_hour 20 = .ok (.invokeinterface 46 2, 5) := by decide +kernel
theorem dX16_hour_25 : decode cX16_hour 25 = .ok (.checkcast 105, 3) := by decide +kernel
theorem dX16_hour_28 : decode cX16_hour 28 = .ok (.getfield 112, 3) := by decide +kernel
theorem dX16_hour_31 : decode cX16_hour 31 = .ok (.aload_n 0, 1) := by decide +kernel
theorem dX16_hour_32 : decode cX16_hour 32 = .ok (.getfield 125, 3) := by decide +kernel
theorem dX16_hour_35 : decode cX16_hour 35 = .ok (.if_icmp .ne 20, 3) := by decide +kernel
theorem dX16_hour_38 : decode cX16_hour 38 = .ok (.aload_n 0, 1) := by decide +kernel
theorem dX16_hour_39 : decode cX16_hour 39 = .ok (.aload_n 0, 1) := by decide +kernel
theorem dX16_hour_40 : decode cX16_hour 40 = .ok (.getfield 26, 3) := by decide +kernel
theorem dX16_hour_43 : decode cX16_hour 43 = .ok (.iload_n 1, 1) := by decide +kernel
theorem dX16_hour_44 : decode cX16_hour 44 = .ok (.invokeinterface 46 2, 5) := by decide +kernel
theorem dX16_hour_49 : decode cX16_hour 49 = .ok (.checkcast 105, 3) := by decide +kernel
theorem dX16_hour_52 : decode cX16_hour 52 = .ok (.invokevirtual 204, 3) := by decide +kernel
theorem dX16_hour_55 : decode cX16_hour 55 = .ok (.iinc 1 1, 3) := by decide +kernel
theorem dX16_hour_58 : decode cX16_hour 58 = .ok (.goto (-56), 3) := by decide +kernel
theorem dX16_hour_61 : decode cX16_hour 61 = .ok (.iconst 0, 1) := by decide +kernel
theorem dX16_hour_62 : decode cX16_hour 62 = .ok (.istore_n 1, 1) := by decide +kernel
theorem dX16_hour_63 : decode cX16_hour 63 = .ok (.iload_n 1, 1) := by decide +kernel
theorem dX16_hour_64 : decode cX16_hour 64 = .ok (.aload_n 0, 1) := by decide +kernel
theorem dX16_hour_65 : decode cX16_hour 65 = .ok (.getfield 23, 3) := by decide +kernel
theorem dX16_hour_68 : decode cX16_hour 68 = .ok (.invokeinterface 73 1, 5) := by decide +kernel
theorem dX16_hour_73 : decode cX16_hour 73 = .ok (.if_icmp .ge 88, 3) := by decide +kernel
theorem dX16_hour_76 : decode cX16_hour 76 = .ok (.aload_n 0, 1) := by decide +kernel
theorem dX16_hour_77 : decode cX16_hour 77 = .ok (.iload_n 1, 1) := by decide +kernel
theorem dX16_hour_78 : decode cX16_hour 78 = .ok (.aload_n 0, 1) := by decide +kernel
theorem dX16_hour_79 : decode cX16_hour 79 = .ok (.getfield 125, 3) := by decide +kernel
theorem dX16_hour_82 : decode cX16_hour 82 = .ok (.bipush 24, 2) := by decide +kernel
theorem dX16_hour_84 : decode cX16_hour 84 = .ok (.irem, 1) := by decide +kernel
theorem dX16_hour_85 : decode cX16_hour 85 = .ok (.invokevirtual 208, 3) := by decide +kernel
theorem dX16_hour_88 : decode cX16_hour 88 = .ok (.iconst (-1), 1) := by decide +kernel
theorem dX16_hour_89 : decode cX16_hour 89 = .ok (.if_icmp .eq 7, 3) := by decide +kernel
theorem dX16_hour_92 : decode cX16_hour 92 = .ok (.iconst 1, 1) := by decide +kernel
theorem dX16_hour_93 : decode cX16_hour 93 = .ok (.goto 4, 3) := by decide +kernel
theorem dX16_hour_96 : decode cX16_hour 96 = .ok (.iconst 0, 1) := by decide +kernel
theorem dX16_hour_97 : decode cX16_hour 97 = .ok (.istore_n 2, 1) := by decide +kernel
theorem dX16_hour_98 : decode cX16_hour 98 = .ok (.aload_n 0, 1) := by decide +kernel
theorem dX16_hour_99 : decode cX16_hour 99 = .ok (.getfield 23, 3) := by decide +kernel
theorem dX16_hour_102 : decode cX16_hour 102 = .ok (.iload_n 1, 1) := by decide +kernel
theorem dX16_hour_103 : decode cX16_hour 103 = .ok (.invokeinterface 46 2, 5) := by decide +kernel
theorem dX16_hour_108 : decode cX16_hour 108 = .ok (.checkcast 93, 3) := by decide +kernel
theorem dX16_hour_111 : decode cX16_hour 111 = .ok (.astore_n 3, 1) := by decide +kernel
theorem dX16_hour_112 : decode cX16_hour 112 = .ok (.aload_n 3, 1) := by decide +kernel
theorem dX16_hour_113 : decode cX16_hour 113 = .ok (.aload_n 3, 1) := by decide +kernel
theorem dX16_hour_114 : decode cX16_hour 114 = .ok (.getfield 101, 3) := by decide +kernel
theorem dX16_hour_117 : decode cX16_hour 117 = .ok (.iload_n 2, 1) := by decide +kernel
theorem dX16_hour_118 : decode cX16_hour 118 = .ok (.ifCond .eq 7, 3) := by decide +kernel
theorem dX16_hour_121 : decode cX16_hour 121 = .ok (.iconst 3, 1) := by decide +kernel
theorem dX16_hour_122 : decode cX16_hour 122 = .ok (.goto 5, 3) := by decide +kernel
theorem dX16_hour_125 : decode cX16_hour 125 = .ok (.bipush (-2), 2) := by decide +kernel
theorem dX16_hour_127 : decode cX16_hour 127 = .ok (.iadd, 1) := by decide +kernel
theorem dX16_hour_128 : decode cX16_hour 128 = .ok (.iconst 0, 1) := by decide +kernel
theorem dX16_hour_129 : decode cX16_hour 129 = .ok (.bipush 40, 2) := by decide +kernel
theorem dX16_hour_131 : decode cX16_hour 131 = .ok (.invokestatic 89, 3) := by decide +kernel
theorem dX16_hour_134 : decode cX16_hour 134 = .ok (.putfield 101, 3) := by decide +kernel
theorem dX16_hour_137 : decode cX16_hour 137 = .ok (.aload_n 3, 1) := by decide +kernel
theorem dX16_hour_138 : decode cX16_hour 138 = .ok (.dup, 1) := by decide +kernel
theorem dX16_hour_139 : decode cX16_hour 139 = .ok (.getfield 211, 3) := by decide +kernel
theorem dX16_hour_142 : decode cX16_hour 142 = .ok (.iload_n 2, 1) := by decide +kernel
theorem dX16_hour_143 : decode cX16_hour 143 = .ok (.ifCond .eq 7, 3) := by decide +kernel
theorem dX16_hour_146 : decode cX16_hour 146 = .ok (.iconst 1, 1) := by decide +kernel
theorem dX16_hour_147 : decode cX16_hour 147 = .ok (.goto 4, 3) := by decide +kernel
theorem dX16_hour_150 : decode cX16_hour 150 = .ok (.iconst 0, 1) := by decide +kernel
theorem dX16_hour_151 : decode cX16_hour 151 = .ok (.iadd, 1) := by decide +kernel
theorem dX16_hour_152 : decode cX16_hour 152 = .ok (.putfield 211, 3) := by decide +kernel
theorem dX16_hour_155 : decode cX16_hour 155 = .ok (.iinc 1 1, 3) := by decide +kernel
theorem dX16_hour_158 : decode cX16_hour 158 = .ok (.goto (-95), 3) := by decide +kernel
theorem dX16_hour_161 : decode cX16_hour 161 = .ok (.iconst 0, 1) := by decide +kernel
theorem dX16_hour_162 : decode cX16_hour 162 = .ok (.istore_n 1, 1) := by decide +kernel
theorem dX16_hour_163 : decode cX16_hour 163 = .ok (.iload_n 1, 1) := by decide +kernel
theorem dX16_hour_164 : decode cX16_hour 164 = .ok (.aload_n 0, 1) := by decide +kernel
theorem dX16_hour_165 : decode cX16_hour 165 = .ok (.getfield 26, 3) := by decide +kernel
theorem dX16_hour_168 : decode cX16_hour 168 = .ok (.invokeinterface 73 1, 5) := by decide +kernel
theorem dX16_hour_173 : decode cX16_hour 173 = .ok (.if_icmp .ge 46, 3) := by decide +kernel
theorem dX16_hour_176 : decode cX16_hour 176 = .ok (.aload_n 0, 1) := by decide +kernel
theorem dX16_hour_177 : decode cX16_hour 177 = .ok (.aload_n 0, 1) := by decide +kernel
theorem dX16_hour_178 : decode cX16_hour 178 = .ok (.getfield 26, 3) := by decide +kernel
theorem dX16_hour_181 : decode cX16_hour 181 = .ok (.iload_n 1, 1) := by decide +kernel
theorem dX16_hour_182 : decode cX16_hour 182 = .ok (.invokeinterface 46 2, 5) := by decide +kernel
theorem dX16_hour_187 : decode cX16_hour 187 = .ok (.checkcast 105, 3) := by decide +kernel
theorem dX16_hour_190 : decode cX16_hour 190 = .ok (.invokevirtual 147, 3) := by decide +kernel
theorem dX16_hour_193 : decode cX16_hour 193 = .ok (.ifCond .eq 20, 3) := by decide +kernel
theorem dX16_hour_196 : decode cX16_hour 196 = .ok (.aload_n 0, 1) := by decide +kernel
theorem dX16_hour_197 : decode cX16_hour 197 = .ok (.getfield 26, 3) := by decide +kernel
theorem dX16_hour_200 : decode cX16_hour 200 = .ok (.iload_n 1, 1) := by decide +kernel
theorem dX16_hour_201 : decode cX16_hour 201 = .ok (.invokeinterface 46 2, 5) := by decide +kernel
theorem dX16_hour_206 : decode cX16_hour 206 = .ok (.checkcast 105, 3) := by decide +kernel
theorem dX16_hour_209 : decode cX16_hour 209 = .ok (.iconst 2, 1) := by decide +kernel
theorem dX16_hour_210 : decode cX16_hour 210 = .ok (.putfield 144, 3) := by decide +kernel
theorem dX16_hour_213 : decode cX16_hour 213 = .ok (.iinc 1 1, 3) := by decide +kernel
theorem dX16_hour_216 : decode cX16_hour 216 = .ok (.goto (-53), 3) := by decide +kernel
theorem dX16_hour_219 : decode cX16_hour 219 = .ok (.aload_n 0, 1) := by decide +kernel
theorem dX16_hour_220 : decode cX16_hour 220 = .ok (.invokevirtual 214, 3) := by decide +kernel
theorem dX16_hour_223 : decode cX16_hour 223 = .ok (.aload_n 0, 1) := by decide +kernel
theorem dX16_hour_224 : decode cX16_hour 224 = .ok (.getfield 26, 3) := by decide +kernel
theorem dX16_hour_227 : decode cX16_hour 227 = .ok (.invokeinterface 73 1, 5) := by decide +kernel
theorem dX16_hour_232 : decode cX16_hour 232 = .ok (.newarray .boolean, 2) := by decide +kernel
theorem dX16_hour_234 : decode cX16_hour 234 = .ok (.astore_n 1, 1) := by decide +kernel
theorem dX16_hour_235 : decode cX16_hour 235 = .ok (.aload_n 0, 1) := by decide +kernel
theorem dX16_hour_236 : decode cX16_hour 236 = .ok (.aload_n 0, 1) := by decide +kernel
theorem dX16_hour_237 : decode cX16_hour 237 = .ok (.getfield 7, 3) := by decide +kernel
theorem dX16_hour_240 : decode cX16_hour 240 = .ok (.aload_n 1, 1) := by decide +kernel
theorem dX16_hour_241 : decode cX16_hour 241 = .ok (.invokevirtual 217, 3) := by decide +kernel
theorem dX16_hour_244 : decode cX16_hour 244 = .ok (.istore_n 2, 1) := by decide +kernel
theorem dX16_hour_245 : decode cX16_hour 245 = .ok (.iload_n 2, 1) := by decide +kernel
theorem dX16_hour_246 : decode cX16_hour 246 = .ok (.iconst (-1), 1) := by decide +kernel
theorem dX16_hour_247 : decode cX16_hour 247 = .ok (.if_icmp .eq 25, 3) := by decide +kernel
theorem dX16_hour_250 : decode cX16_hour 250 = .ok (.aload_n 0, 1) := by decide +kernel
theorem dX16_hour_251 : decode cX16_hour 251 = .ok (.iload_n 2, 1) := by decide +kernel
theorem dX16_hour_252 : decode cX16_hour 252 = .ok (.invokevirtual 221, 3) := by decide +kernel
theorem dX16_hour_255 : decode cX16_hour 255 = .ok (.aload_n 1, 1) := by decide +kernel
theorem dX16_hour_256 : decode cX16_hour 256 = .ok (.iload_n 2, 1) := by decide +kernel
theorem dX16_hour_257 : decode cX16_hour 257 = .ok (.iconst 1, 1) := by decide +kernel
theorem dX16_hour_258 : decode cX16_hour 258 = .ok (.bastore, 1) := by decide +kernel
theorem dX16_hour_259 : decode cX16_hour 259 = .ok (.aload_n 0, 1) := by decide +kernel
theorem dX16_hour_260 : decode cX16_hour 260 = .ok (.aload_n 0, 1) := by decide +kernel
theorem dX16_hour_261 : decode cX16_hour 261 = .ok (.getfield 7, 3) := by decide +kernel
theorem dX16_hour_264 : decode cX16_hour 264 = .ok (.aload_n 1, 1) := by decide +kernel
theorem dX16_hour_265 : decode cX16_hour 265 = .ok (.invokevirtual 217, 3) := by decide +kernel
theorem dX16_hour_268 : decode cX16_hour 268 = .ok (.istore_n 2, 1) := by decide +kernel
theorem dX16_hour_269 : decode cX16_hour 269 = .ok (.goto (-24), 3) := by decide +kernel
theorem dX16_hour_272 : decode cX16_hour 272 = .ok (.aload_n 0, 1) := by decide +kernel
theorem dX16_hour_273 : decode cX16_hour 273 = .ok (.dup, 1) := by decide +kernel
theorem dX16_hour_274 : decode cX16_hour 274 = .ok (.getfield 125, 3) := by decide +kernel
theorem dX16_hour_277 : decode cX16_hour 277 = .ok (.iconst 1, 1) := by decide +kernel
theorem dX16_hour_278 : decode cX16_hour 278 = .ok (.iadd, 1) := by decide +kernel
theorem dX16_hour_279 : decode cX16_hour 279 = .ok (.putfield 125, 3) := by decide +kernel
theorem dX16_hour_282 : decode cX16_hour 282 = .ok (.aload_n 0, 1) := by decide +kernel
theorem dX16_hour_283 : decode cX16_hour 283 = .ok (.getfield 125, 3) := by decide +kernel
theorem dX16_hour_286 : decode cX16_hour 286 = .ok (.bipush 24, 2) := by decide +kernel
theorem dX16_hour_288 : decode cX16_hour 288 = .ok (.irem, 1) := by decide +kernel
theorem dX16_hour_289 : decode cX16_hour 289 = .ok (.ifCond .ne 10, 3) := by decide +kernel
theorem dX16_hour_292 : decode cX16_hour 292 = .ok (.aload_n 0, 1) := by decide +kernel
theorem dX16_hour_293 : decode cX16_hour 293 = .ok (.sipush 600, 3) := by decide +kernel
theorem dX16_hour_296 : decode cX16_hour 296 = .ok (.putfield 7, 3) := by decide +kernel
theorem dX16_hour_299 : decode cX16_hour 299 = .ok (.return_, 1) := by decide +kernel
