def hvT (L : List (Nat × Nat)) (t i : Nat) : Bool := L.contains (t, i)
def hNo (_ _ : Nat) : Bool := false
theorem Wd.offT {s0 : State} {D : va_G} {cy : Nat → ClassId} {S T : HS} {L : List (Nat × Nat)} {H0 H : Heap} {locs : List Loc} (w : Wd s0 D cy T H0 H locs) (k : Kq (hvT L) hNo hNo S T) (hn : ∀ x ∈ L, ¬ vV S x.1 x.2) : Wd s0 D cy S H0 H locs := by
  obtain ⟨⟨⟨ws, hP, hD, hm⟩, inj⟩, hS⟩ := w
  have e : ∀ t i, vV S t i → hvT L t i = false := fun t i v => by
    cases c : hvT L t i with
    | false => rfl
    | true => exact absurd v (hn (t, i) (by simpa [hvT] using c))
  have ec : ∀ t i, hvT L t i = false → cellM cy T t i = cellM cy S t i := fun t i h => by
    obtain ⟨k1, k2, k3, k4, k5⟩ := k.1 t i h
    unfold cellM
    rw [k3, k4, k5]
    by_cases h21 : t < 21
    · rw [if_pos h21, if_pos h21]
      congr 2
      apply List.map_congr_left
      intro q hq
      have hq16 : q < 16 := Nat.lt_of_lt_of_le (List.mem_range.mp hq) (nf_le t)
      have e1 : mI T (16 * t + q) i = mI S (16 * t + q) i := k.2.1 _ _ rfl
      have e2 : mR T (16 * t + q) i = mR S (16 * t + q) i := k.2.2.1 _ _ rfl
      by_cases z : t = 11
      · obtain ⟨e3, e4⟩ := k.2.2.2 (16 * t + q) (by omega)
        unfold fval
        rw [e1, e2, e3, e4]
      · unfold fval
        rcases ty01 z h21 hq16 with y | y <;> rw [y]
        · exact congrArg Value.int e1
        · exact congrArg va_rf e2
    · rw [if_neg h21, if_neg h21]
  refine ⟨⟨⟨ws, hP, hD, fun t i v => ?_⟩, fun t i t' i' h h' hg => ?_⟩, hS⟩
  · have c := e t i v
    rw [← ec t i c, ← k.G c]
    exact hm t i (by rw [k.V c]; exact v)
  · have c := e t i h
    have c' := e t' i' h'
    exact inj t i t' i' (by rw [k.V c]; exact h) (by rw [k.V c']; exact h') (by rw [k.G c, k.G c']; exact hg)

theorem dX16_deskNow_0 : decode cX16_deskNow 0 = .ok (.iconst 5, 1) := by decide +kernel
theorem dX16_deskNow_1 : decode cX16_deskNow 1 = .ok (.newarray .int, 2) := by decide +kernel
theorem dX16_deskNow_3 : decode cX16_deskNow 3 = .ok (.astore_n 2, 1) := by decide +kernel
theorem dX16_deskNow_4 : decode cX16_deskNow 4 = .ok (.iconst 0, 1) := by decide +kernel
theorem dX16_deskNow_5 : decode cX16_deskNow 5 = .ok (.istore_n 3, 1) := by decide +kernel
theorem dX16_deskNow_6 : decode cX16_deskNow 6 = .ok (.iconst 0, 1) := by decide +kernel
theorem dX16_deskNow_7 : decode cX16_deskNow 7 = .ok (.istore 4, 2) := by decide +kernel
theorem dX16_deskNow_9 : decode cX16_deskNow 9 = .ok (.iconst 0, 1) := by decide +kernel
theorem dX16_deskNow_10 : decode cX16_deskNow 10 = .ok (.istore 5, 2) := by decide +kernel
theorem dX16_deskNow_12 : decode cX16_deskNow 12 = .ok (.iload 5, 2) := by decide +kernel
theorem dX16_deskNow_14 : decode cX16_deskNow 14 = .ok (.aload_n 0, 1) := by decide +kernel
theorem dX16_deskNow_15 : decode cX16_deskNow 15 = .ok (.getfield 26, 3) := by decide +kernel
theorem dX16_deskNow_18 : decode cX16_deskNow 18 = .ok (.invokeinterface 73 1, 5) := by decide +kernel
theorem dX16_deskNow_23 : decode cX16_deskNow 23 = .ok (.if_icmp .ge 89, 3) := by decide +kernel
theorem dX16_deskNow_26 : decode cX16_deskNow 26 = .ok (.aload_n 0, 1) := by decide +kernel
theorem dX16_deskNow_27 : decode cX16_deskNow 27 = .ok (.getfield 26, 3) := by decide +kernel
theorem dX16_deskNow_30 : decode cX16_deskNow 30 = .ok (.iload 5, 2) := by decide +kernel
theorem dX16_deskNow_32 : decode cX16_deskNow 32 = .ok (.invokeinterface 46 2, 5) := by decide +kernel
theorem dX16_deskNow_37 : decode cX16_deskNow 37 = .ok (.checkcast 105, 3) := by decide +kernel
theorem dX16_deskNow_40 : decode cX16_deskNow 40 = .ok (.invokevirtual 252, 3) := by decide +kernel
theorem dX16_deskNow_43 : decode cX16_deskNow 43 = .ok (.ifCond .ne 6, 3) := by decide +kernel
theorem dX16_deskNow_46 : decode cX16_deskNow 46 = .ok (.goto 60, 3) := by decide +kernel
theorem dX16_deskNow_49 : decode cX16_deskNow 49 = .ok (.aload_n 2, 1) := by decide +kernel
theorem dX16_deskNow_50 : decode cX16_deskNow 50 = .ok (.aload_n 0, 1) := by decide +kernel
theorem dX16_deskNow_51 : decode cX16_deskNow 51 = .ok (.getfield 26, 3) := by decide +kernel
theorem dX16_deskNow_54 : decode cX16_deskNow 54 = .ok (.iload 5, 2) := by decide +kernel
theorem dX16_deskNow_56 : decode cX16_deskNow 56 = .ok (.invokeinterface 46 2, 5) := by decide +kernel
theorem dX16_deskNow_61 : decode cX16_deskNow 61 = .ok (.checkcast 105, 3) := by decide +kernel
theorem dX16_deskNow_64 : decode cX16_deskNow 64 = .ok (.getfield 144, 3) := by decide +kernel
theorem dX16_deskNow_67 : decode cX16_deskNow 67 = .ok (.dup2, 1) := by decide +kernel
theorem dX16_deskNow_68 : decode cX16_deskNow 68 = .ok (.iaload, 1) := by decide +kernel
theorem dX16_deskNow_69 : decode cX16_deskNow 69 = .ok (.iconst 1, 1) := by decide +kernel
theorem dX16_deskNow_70 : decode cX16_deskNow 70 = .ok (.iadd, 1) := by decide +kernel
theorem dX16_deskNow_71 : decode cX16_deskNow 71 = .ok (.iastore, 1) := by decide +kernel
theorem dX16_deskNow_72 : decode cX16_deskNow 72 = .ok (.iinc 3 1, 3) := by decide +kernel
theorem dX16_deskNow_75 : decode cX16_deskNow 75 = .ok (.iload 4, 2) := by decide +kernel
theorem dX16_deskNow_77 : decode cX16_deskNow 77 = .ok (.aload_n 0, 1) := by decide +kernel
theorem dX16_deskNow_78 : decode cX16_deskNow 78 = .ok (.getfield 26, 3) := by decide +kernel
theorem dX16_deskNow_81 : decode cX16_deskNow 81 = .ok (.iload 5, 2) := by decide +kernel
theorem dX16_deskNow_83 : decode cX16_deskNow 83 = .ok (.invokeinterface 46 2, 5) := by decide +kernel
theorem dX16_deskNow_88 : decode cX16_deskNow 88 = .ok (.checkcast 105, 3) := by decide +kernel
theorem dX16_deskNow_91 : decode cX16_deskNow 91 = .ok (.getfield 161, 3) := by decide +kernel
theorem dX16_deskNow_94 : decode cX16_deskNow 94 = .ok (.iconst 2, 1) := by decide +kernel
theorem dX16_deskNow_95 : decode cX16_deskNow 95 = .ok (.if_icmp .ne 7, 3) := by decide +kernel
theorem dX16_deskNow_98 : decode cX16_deskNow 98 = .ok (.iconst 1, 1) := by decide +kernel
theorem dX16_deskNow_99 : decode cX16_deskNow 99 = .ok (.goto 4, 3) := by decide +kernel
theorem dX16_deskNow_102 : decode cX16_deskNow 102 = .ok (.iconst 0, 1) := by decide +kernel
theorem dX16_deskNow_103 : decode cX16_deskNow 103 = .ok (.iadd, 1) := by decide +kernel
theorem dX16_deskNow_104 : decode cX16_deskNow 104 = .ok (.istore 4, 2) := by decide +kernel
theorem dX16_deskNow_106 : decode cX16_deskNow 106 = .ok (.iinc 5 1, 3) := by decide +kernel
theorem dX16_deskNow_109 : decode cX16_deskNow 109 = .ok (.goto (-97), 3) := by decide +kernel
theorem dX16_deskNow_112 : decode cX16_deskNow 112 = .ok (.bipush 19, 2) := by decide +kernel
theorem dX16_deskNow_114 : decode cX16_deskNow 114 = .ok (.newarray .int, 2) := by decide +kernel
theorem dX16_deskNow_116 : decode cX16_deskNow 116 = .ok (.dup, 1) := by decide +kernel
theorem dX16_deskNow_117 : decode cX16_deskNow 117 = .ok (.iconst 0, 1) := by decide +kernel
theorem dX16_deskNow_118 : decode cX16_deskNow 118 = .ok (.aload_n 0, 1) := by decide +kernel
theorem dX16_deskNow_119 : decode cX16_deskNow 119 = .ok (.getfield 125, 3) := by decide +kernel
theorem dX16_deskNow_122 : decode cX16_deskNow 122 = .ok (.iastore, 1) := by decide +kernel
theorem dX16_deskNow_123 : decode cX16_deskNow 123 = .ok (.dup, 1) := by decide +kernel
theorem dX16_deskNow_124 : decode cX16_deskNow 124 = .ok (.iconst 1, 1) := by decide +kernel
theorem dX16_deskNow_125 : decode cX16_deskNow 125 = .ok (.aload_n 0, 1) := by decide +kernel
theorem dX16_deskNow_126 : decode cX16_deskNow 126 = .ok (.getfield 125, 3) := by decide +kernel
theorem dX16_deskNow_129 : decode cX16_deskNow 129 = .ok (.bipush 24, 2) := by decide +kernel
theorem dX16_deskNow_131 : decode cX16_deskNow 131 = .ok (.idiv, 1) := by decide +kernel
theorem dX16_deskNow_132 : decode cX16_deskNow 132 = .ok (.iastore, 1) := by decide +kernel
theorem dX16_deskNow_133 : decode cX16_deskNow 133 = .ok (.dup, 1) := by decide +kernel
theorem dX16_deskNow_134 : decode cX16_deskNow 134 = .ok (.iconst 2, 1) := by decide +kernel
theorem dX16_deskNow_135 : decode cX16_deskNow 135 = .ok (.aload_n 0, 1) := by decide +kernel
theorem dX16_deskNow_136 : decode cX16_deskNow 136 = .ok (.getfield 125, 3) := by decide +kernel
theorem dX16_deskNow_139 : decode cX16_deskNow 139 = .ok (.bipush 24, 2) := by decide +kernel
theorem dX16_deskNow_141 : decode cX16_deskNow 141 = .ok (.irem, 1) := by decide +kernel
theorem dX16_deskNow_142 : decode cX16_deskNow 142 = .ok (.iastore, 1) := by decide +kernel
theorem dX16_deskNow_143 : decode cX16_deskNow 143 = .ok (.dup, 1) := by decide +kernel
theorem dX16_deskNow_144 : decode cX16_deskNow 144 = .ok (.iconst 3, 1) := by decide +kernel
theorem dX16_deskNow_145 : decode cX16_deskNow 145 = .ok (.aload_n 0, 1) := by decide +kernel
theorem dX16_deskNow_146 : decode cX16_deskNow 146 = .ok (.getfield 16, 3) := by decide +kernel
theorem dX16_deskNow_149 : decode cX16_deskNow 149 = .ok (.invokeinterface 73 1, 5) := by decide +kernel
theorem dX16_deskNow_154 : decode cX16_deskNow 154 = .ok (.iastore, 1) := by decide +kernel
theorem dX16_deskNow_155 : decode cX16_deskNow 155 = .ok (.dup, 1) := by decide +kernel
theorem dX16_deskNow_156 : decode cX16_deskNow 156 = .ok (.iconst 4, 1) := by decide +kernel
theorem dX16_deskNow_157 : decode cX16_deskNow 157 = .ok (.aload_n 0, 1) := by decide +kernel
theorem dX16_deskNow_158 : decode cX16_deskNow 158 = .ok (.getfield 20, 3) := by decide +kernel
theorem dX16_deskNow_161 : decode cX16_deskNow 161 = .ok (.invokeinterface 73 1, 5) := by decide +kernel
theorem dX16_deskNow_166 : decode cX16_deskNow 166 = .ok (.iastore, 1) := by decide +kernel
theorem dX16_deskNow_167 : decode cX16_deskNow 167 = .ok (.dup, 1) := by decide +kernel
theorem dX16_deskNow_168 : decode cX16_deskNow 168 = .ok (.iconst 5, 1) := by decide +kernel
theorem dX16_deskNow_169 : decode cX16_deskNow 169 = .ok (.aload_n 0, 1) := by decide +kernel
theorem dX16_deskNow_170 : decode cX16_deskNow 170 = .ok (.getfield 23, 3) := by decide +kernel
theorem dX16_deskNow_173 : decode cX16_deskNow 173 = .ok (.invokeinterface 73 1, 5) := by decide +kernel
theorem dX16_deskNow_178 : decode cX16_deskNow 178 = .ok (.iastore, 1) := by decide +kernel
theorem dX16_deskNow_179 : decode cX16_deskNow 179 = .ok (.dup, 1) := by decide +kernel
theorem dX16_deskNow_180 : decode cX16_deskNow 180 = .ok (.bipush 6, 2) := by decide +kernel
theorem dX16_deskNow_182 : decode cX16_deskNow 182 = .ok (.aload_n 0, 1) := by decide +kernel
theorem dX16_deskNow_183 : decode cX16_deskNow 183 = .ok (.getfield 26, 3) := by decide +kernel
theorem dX16_deskNow_186 : decode cX16_deskNow 186 = .ok (.invokeinterface 73 1, 5) := by decide +kernel
theorem dX16_deskNow_191 : decode cX16_deskNow 191 = .ok (.iastore, 1) := by decide +kernel
theorem dX16_deskNow_192 : decode cX16_deskNow 192 = .ok (.dup, 1) := by decide +kernel
theorem dX16_deskNow_193 : decode cX16_deskNow 193 = .ok (.bipush 7, 2) := by decide +kernel
theorem dX16_deskNow_195 : decode cX16_deskNow 195 = .ok (.iload_n 3, 1) := by decide +kernel
theorem dX16_deskNow_196 : decode cX16_deskNow 196 = .ok (.iastore, 1) := by decide +kernel
theorem dX16_deskNow_197 : decode cX16_deskNow 197 = .ok (.dup, 1) := by decide +kernel
theorem dX16_deskNow_198 : decode cX16_deskNow 198 = .ok (.bipush 8, 2) := by decide +kernel
theorem dX16_deskNow_200 : decode cX16_deskNow 200 = .ok (.aload_n 2, 1) := by decide +kernel
theorem dX16_deskNow_201 : decode cX16_deskNow 201 = .ok (.iconst 0, 1) := by decide +kernel
theorem dX16_deskNow_202 : decode cX16_deskNow 202 = .ok (.iaload, 1) := by decide +kernel
theorem dX16_deskNow_203 : decode cX16_deskNow 203 = .ok (.iastore, 1) := by decide +kernel
theorem dX16_deskNow_204 : decode cX16_deskNow 204 = .ok (.dup, 1) := by decide +kernel
theorem dX16_deskNow_205 : decode cX16_deskNow 205 = .ok (.bipush 9, 2) := by decide +kernel
theorem dX16_deskNow_207 : decode cX16_deskNow 207 = .ok (.aload_n 2, 1) := by decide +kernel
theorem dX16_deskNow_208 : decode cX16_deskNow 208 = .ok (.iconst 1, 1) := by decide +kernel
theorem dX16_deskNow_209 : decode cX16_deskNow 209 = .ok (.iaload, 1) := by decide +kernel
theorem dX16_deskNow_210 : decode cX16_deskNow 210 = .ok (.iastore, 1) := by decide +kernel
theorem dX16_deskNow_211 : decode cX16_deskNow 211 = .ok (.dup, 1) := by decide +kernel
theorem dX16_deskNow_212 : decode cX16_deskNow 212 = .ok (.bipush 10, 2) := by decide +kernel
theorem dX16_deskNow_214 : decode cX16_deskNow 214 = .ok (.aload_n 2, 1) := by decide +kernel
theorem dX16_deskNow_215 : decode cX16_deskNow 215 = .ok (.iconst 2, 1) := by decide +kernel
theorem dX16_deskNow_216 : decode cX16_deskNow 216 = .ok (.iaload, 1) := by decide +kernel
theorem dX16_deskNow_217 : decode cX16_deskNow 217 = .ok (.iastore, 1) := by decide +kernel
theorem dX16_deskNow_218 : decode cX16_deskNow 218 = .ok (.dup, 1) := by decide +kernel
theorem dX16_deskNow_219 : decode cX16_deskNow 219 = .ok (.bipush 11, 2) := by decide +kernel
theorem dX16_deskNow_221 : decode cX16_deskNow 221 = .ok (.aload_n 2, 1) := by decide +kernel
theorem dX16_deskNow_222 : decode cX16_deskNow 222 = .ok (.iconst 3, 1) := by decide +kernel
theorem dX16_deskNow_223 : decode cX16_deskNow 223 = .ok (.iaload, 1) := by decide +kernel
theorem dX16_deskNow_224 : decode cX16_deskNow 224 = .ok (.iastore, 1) := by decide +kernel
theorem dX16_deskNow_225 : decode cX16_deskNow 225 = .ok (.dup, 1) := by decide +kernel
theorem dX16_deskNow_226 : decode cX16_deskNow 226 = .ok (.bipush 12, 2) := by decide +kernel
theorem dX16_deskNow_228 : decode cX16_deskNow 228 = .ok (.aload_n 2, 1) := by decide +kernel
theorem dX16_deskNow_229 : decode cX16_deskNow 229 = .ok (.iconst 4, 1) := by decide +kernel
theorem dX16_deskNow_230 : decode cX16_deskNow 230 = .ok (.iaload, 1) := by decide +kernel
theorem dX16_deskNow_231 : decode cX16_deskNow 231 = .ok (.iastore, 1) := by decide +kernel
theorem dX16_deskNow_232 : decode cX16_deskNow 232 = .ok (.dup, 1) := by decide +kernel
theorem dX16_deskNow_233 : decode cX16_deskNow 233 = .ok (.bipush 13, 2) := by decide +kernel
theorem dX16_deskNow_235 : decode cX16_deskNow 235 = .ok (.aload_n 0, 1) := by decide +kernel
theorem dX16_deskNow_236 : decode cX16_deskNow 236 = .ok (.getfield 7, 3) := by decide +kernel
theorem dX16_deskNow_239 : decode cX16_deskNow 239 = .ok (.iastore, 1) := by decide +kernel
theorem dX16_deskNow_240 : decode cX16_deskNow 240 = .ok (.dup, 1) := by decide +kernel
theorem dX16_deskNow_241 : decode cX16_deskNow 241 = .ok (.bipush 14, 2) := by decide +kernel
theorem dX16_deskNow_243 : decode cX16_deskNow 243 = .ok (.aload_n 0, 1) := by decide +kernel
theorem dX16_deskNow_244 : decode cX16_deskNow 244 = .ok (.getfield 32, 3) := by decide +kernel
theorem dX16_deskNow_247 : decode cX16_deskNow 247 = .ok (.invokeinterface 73 1, 5) := by decide +kernel
theorem dX16_deskNow_252 : decode cX16_deskNow 252 = .ok (.iastore, 1) := by decide +kernel
theorem dX16_deskNow_253 : decode cX16_deskNow 253 = .ok (.dup, 1) := by decide +kernel
theorem dX16_deskNow_254 : decode cX16_deskNow 254 = .ok (.bipush 15, 2) := by decide +kernel
theorem dX16_deskNow_256 : decode cX16_deskNow 256 = .ok (.iload 4, 2) := by decide +kernel
theorem dX16_deskNow_258 : decode cX16_deskNow 258 = .ok (.iastore, 1) := by decide +kernel
theorem dX16_deskNow_259 : decode cX16_deskNow 259 = .ok (.dup, 1) := by decide +kernel
theorem dX16_deskNow_260 : decode cX16_deskNow 260 = .ok (.bipush 16, 2) := by decide +kernel
theorem dX16_deskNow_262 : decode cX16_deskNow 262 = .ok (.aload_n 0, 1) := by decide +kernel
theorem dX16_deskNow_263 : decode cX16_deskNow 263 = .ok (.getfield 29, 3) := by decide +kernel
theorem dX16_deskNow_266 : decode cX16_deskNow 266 = .ok (.invokeinterface 73 1, 5) := by decide +kernel
theorem dX16_deskNow_271 : decode cX16_deskNow 271 = .ok (.iastore, 1) := by decide +kernel
theorem dX16_deskNow_272 : decode cX16_deskNow 272 = .ok (.dup, 1) := by decide +kernel
theorem dX16_deskNow_273 : decode cX16_deskNow 273 = .ok (.bipush 17, 2) := by decide +kernel
theorem dX16_deskNow_275 : decode cX16_deskNow 275 = .ok (.aload_n 0, 1) := by decide +kernel
theorem dX16_deskNow_276 : decode cX16_deskNow 276 = .ok (.getfield 138, 3) := by decide +kernel
theorem dX16_deskNow_279 : decode cX16_deskNow 279 = .ok (.iastore, 1) := by decide +kernel
theorem dX16_deskNow_280 : decode cX16_deskNow 280 = .ok (.dup, 1) := by decide +kernel
theorem dX16_deskNow_281 : decode cX16_deskNow 281 = .ok (.bipush 18, 2) := by decide +kernel
theorem dX16_deskNow_283 : decode cX16_deskNow 283 = .ok (.aload_n 0, 1) := by decide +kernel
theorem dX16_deskNow_284 : decode cX16_deskNow 284 = .ok (.getfield 264, 3) := by decide +kernel
theorem dX16_deskNow_287 : decode cX16_deskNow 287 = .ok (.iastore, 1) := by decide +kernel
theorem dX16_deskNow_288 : decode cX16_deskNow 288 = .ok (.astore 5, 2) := by decide +kernel
theorem dX16_deskNow_290 : decode cX16_deskNow 290 = .ok (.aload 5, 2) := by decide +kernel
theorem dX16_deskNow_292 : decode cX16_deskNow 292 = .ok (.iload_n 1, 1) := by decide +kernel
theorem dX16_deskNow_293 : decode cX16_deskNow 293 = .ok (.iaload, 1) := by decide +kernel
theorem dX16_deskNow_294 : decode cX16_deskNow 294 = .ok (.ireturn, 1) := by decide +kernel
abbrev rm_m_X16_deskNow : Room := { frames := 3, cells := 2, slots := 24, locals := 64 }
set_option maxHeartbeats 4000000 in
set_option maxRecDepth 100000 in
theorem m_X16_deskNow {s0 : State} {l : Launch} {D : va_G} {cy : Nat → ClassId} (G : Gl s0 l D cy) (S : HS) (ea ns nj nm nt nr nq : Nat) (h : RI ea S ns nj nm nt nr nq) (q : Nat) (hq : q < 19) (hT : ∀ x ∈ [((39 : Nat), (0 : Nat)), ((39 : Nat), (3 : Nat))], ¬ vV S x.1 x.2) : Ctr s0 l D cy yX16_deskNow cX16_deskNow 6 (some .int) rm_m_X16_deskNow S [.ref (gG S 16 0), .int (nI q)] (PXi S) := by
  refine pro "CavershamShiftModel" G rfl rfl (Nat.le_of_ble_eq_true rfl) (fun p e s m below meth c ls X w hnm hl => ?_)
  have hx := X.1
  have hb := X.2.1
  have hown := X.2.2.2.1
  have hts := X.2.2.2.2.1
  have hl : lv_has ls 6 [(0, .ref (gG S 16 0)), (1, .int (nI q))] := hl
  have h0 := h
  have hK : Kq (hvT [(39, 0), (39, 3)]) hNo hNo S S := Kq.rf
  have nv39_0 : ¬ vV S 39 0 := hT (39, 0) (by decide)
  have nv39_3 : ¬ vV S 39 3 := hT (39, 3) (by decide)
  refine lv_iconst (v := 5) hx hb dX16_deskNow_0 (by decide) ?_
  refine nwI (S := S) (atype := .int) (ty := .int) (n := 5) X w 39 0 (nv39_0) (by decide) rfl rfl (Or.inl ⟨rfl, rfl⟩) wA_int (rfl) (by decide) dX16_deskNow_1 (Nat.le_of_ble_eq_true rfl) (Nat.le_of_ble_eq_true rfl) (fun q39_0 S2 H hS2 w => ?_)
  subst hS2
  have v39_0 : vV (sArr S 39 0 q39_0 5) 39 0 := Or.inr ⟨rfl, rfl⟩
  have n39_0 : mN (sArr S 39 0 q39_0 5) 39 0 = 5 := rfl
  have e39_0 : gG (sArr S 39 0 q39_0 5) 39 0 = q39_0 := rfl
  have h : RI ea (sArr S 39 0 q39_0 5) ns nj nm nt nr nq := h.arr (by decide)
  have hK : Kq (hvT [(39, 0), (39, 3)]) hNo hNo S (sArr S 39 0 q39_0 5) := hK.arr rfl
  have nv39_3 : ¬ vV (sArr S 39 0 q39_0 5) 39 3 := fun z => z.elim nv39_3 (fun z => absurd z (by decide))
  refine lv_astore_n (lv' := [(2, .ref (gG (sArr S 39 0 q39_0 5) 39 0)), (0, .ref (gG S 16 0)), (1, .int (nI q))]) hx hb dX16_deskNow_3 rfl hl (by decide) rfl (fun ls hl => ?_)
  refine lv_iconst (v := 0) hx hb dX16_deskNow_4 (by decide) ?_
  refine lv_istore_n (lv' := [(3, .int 0), (2, .ref (gG (sArr S 39 0 q39_0 5) 39 0)), (0, .ref (gG S 16 0)), (1, .int (nI q))]) hx hb dX16_deskNow_5 rfl hl (by decide) rfl (fun ls hl => ?_)
  refine lv_iconst (v := 0) hx hb dX16_deskNow_6 (by decide) ?_
  refine lv_istore (lv' := [(4, .int 0), (3, .int 0), (2, .ref (gG (sArr S 39 0 q39_0 5) 39 0)), (0, .ref (gG S 16 0)), (1, .int (nI q))]) hx hb dX16_deskNow_7 hl (by decide) rfl (fun ls hl => ?_)
  refine lv_iconst (v := 0) hx hb dX16_deskNow_9 (by decide) ?_
  refine lv_istore (lv' := [(5, .int 0), (4, .int 0), (3, .int 0), (2, .ref (gG (sArr S 39 0 q39_0 5) 39 0)), (0, .ref (gG S 16 0)), (1, .int (nI q))]) hx hb dX16_deskNow_10 hl (by decide) rfl (fun ls hl => ?_)
  have L12 : ∀ (N : Nat) (k12 : Nat) (v12_4 : Int32) (v12_3 : Int32) (T12 : HS) (H : Heap) (locs : List Loc) (ls : Array Slot), nt - k12 < N → (k12 ≤ nt) → (RI ea T12 ns nj nm nt nr nq) → (Kq (hvT [(39, 0), (39, 3)]) hNo hNo S T12) → (¬ vV T12 39 3) → (vV T12 39 0) → (mN T12 39 0 = 5) → (gG T12 39 0 = q39_0) → Wd s0 D cy T12 s.heap H locs → lv_has ls 6 [(5, .int (nI k12)), (4, .int v12_4), (3, .int v12_3), (2, .ref (gG (sArr S 39 0 q39_0 5) 39 0)), (0, .ref (gG S 16 0)), (1, .int (nI q))] → W p l e rm_m_X16_deskNow s m ([.ref (gG S 16 0), .int (nI q)] : List Value).toArray below meth c H locs (0 + 1) (0 + 5) (MQ below (GQ s0 D cy (PXi S)) ([.ref (gG S 16 0), .int (nI q)] : List Value).toArray s rm_m_X16_deskNow.cells rm_m_X16_deskNow.slots (A0 s0)) (F0 m 12 ls []) := by
    clear nv39_3 v39_0 n39_0 e39_0
    intro N
    induction N with
    | zero => intros; omega
    | succ N ih12 =>
      intro k12 v12_4 v12_3 T12 H locs ls hmu hk_k12 h hK_T12 nv39_3 v39_0 n39_0 e39_0 w hl
      have hK := hK_T12
      refine lv_iload hx hb dX16_deskNow_12 (lv_at hl 0 rfl) ?_
      refine lv_aload_n hx hb dX16_deskNow_14 rfl (lv_at hl 4 rfl) ?_
      refine rE0 ((rfl).trans ((hK_T12.G (t := 16) (i := 0) rfl)).symm) ?_
      refine g_16_9 (S := T12) (x := (some (gG T12 17 9))) X w h.v wF_X16_26 (h.f_ta) dX16_deskNow_15 ?_
      refine cF (S := T12) (t := 17) (nA := 0) (As := []) (rest := [.int (nI k12)]) X w hl h.l_ta.1 (m_size G T12 ea 9 nt h.l_ta) wY_Jx4a65c_size_8abf5 wM_X16_73 wIn_Jx4a65c_size_8abf5 wSe_Jx4a65c_Jx4a65c_size_8abf5_of_java_util_List_size___I wI_Jx4a65c fw_size (by decide) rfl (by decide +kernel) rfl rfl dX16_deskNow_18 ⟨by decide, by decide⟩ (Nat.le_of_ble_eq_true rfl) (⟨Nat.le_of_ble_eq_true rfl, Nat.le_of_ble_eq_true rfl⟩) (fun v1 S1 H locs hp w => ?_)
      obtain ⟨rfl, rfl⟩ := hp
      refine lv_icmp_ge (tgt := 112) hx hb dX16_deskNow_23 (by decide) (fun hc_k12 => ?_) (fun hc_k12 => ?_)
      · have hge_k12 : nt ≤ k12 := by
          have hb1 := h.b_ta
          exact (nI_leI (a := nt) (b := k12) (by omega) (by omega)).mp hc_k12
        refine lv_bipush (v := 19) hx hb dX16_deskNow_112 (by decide) ?_
        refine nwI (S := T12) (atype := .int) (ty := .int) (n := 19) X w 39 3 (nv39_3) (by decide) rfl rfl (Or.inl ⟨rfl, rfl⟩) wA_int (rfl) (by decide) dX16_deskNow_114 (Nat.le_of_ble_eq_true rfl) (Nat.le_of_ble_eq_true rfl) (fun q39_3 S2 H hS2 w => ?_)
        subst hS2
        have v39_3 : vV (sArr T12 39 3 q39_3 19) 39 3 := Or.inr ⟨rfl, rfl⟩
        have n39_3 : mN (sArr T12 39 3 q39_3 19) 39 3 = 19 := rfl
        have e39_3 : gG (sArr T12 39 3 q39_3 19) 39 3 = q39_3 := rfl
        have v39_0 : vV (sArr T12 39 3 q39_3 19) 39 0 := Or.inl v39_0
        have n39_0 : mN (sArr T12 39 3 q39_3 19) 39 0 = 5 := n39_0
        have e39_0 : gG (sArr T12 39 3 q39_3 19) 39 0 = q39_0 := e39_0
        have h : RI ea (sArr T12 39 3 q39_3 19) ns nj nm nt nr nq := h.arr (by decide)
        have hK : Kq (hvT [(39, 0), (39, 3)]) hNo hNo S (sArr T12 39 3 q39_3 19) := hK.arr rfl
        refine lv_dup hx hb dX16_deskNow_116 rfl ?_
        refine lv_iconst (v := 0) hx hb dX16_deskNow_117 (by decide) ?_
        refine lv_aload_n hx hb dX16_deskNow_118 rfl (lv_at hl 4 rfl) ?_
        refine rE0 ((rfl).trans ((hK_T12.G (t := 16) (i := 0) rfl)).symm) ?_
        refine g_16_1 (S := (sArr T12 39 3 q39_3 19)) (x := (mI (sArr T12 39 3 q39_3 19) 257 0)) X w h.v wF_X16_125 (rfl) dX16_deskNow_119 ?_
        refine aStI (S := (sArr T12 39 3 q39_3 19)) (t := 39) X w v39_3 (by decide) rfl rfl (by rw [n39_3]; unfold vp_in; decide) dX16_deskNow_122 (fun H locs w => ?_)
        have h : RI ea (sA (sArr T12 39 3 q39_3 19) 39 3 (upd (mA (sArr T12 39 3 q39_3 19) 39 3) (0 : Int32).toNatClampNeg (mI (sArr T12 39 3 q39_3 19) 257 0))) ns nj nm nt nr nq := h.stA (by decide)
        have hK : Kq (hvT [(39, 0), (39, 3)]) hNo hNo S (sA (sArr T12 39 3 q39_3 19) 39 3 (upd (mA (sArr T12 39 3 q39_3 19) 39 3) (0 : Int32).toNatClampNeg (mI (sArr T12 39 3 q39_3 19) 257 0))) := hK.sA rfl
        obtain ⟨U2, h, hK_U2, v39_0', n39_0', e39_0', v39_3', n39_3', e39_3', w⟩ : ∃ U2 : HS, (RI ea U2 ns nj nm nt nr nq) ∧ (Kq (hvT [(39, 0), (39, 3)]) hNo hNo S U2) ∧ (vV U2 39 0) ∧ (mN U2 39 0 = 5) ∧ (gG U2 39 0 = q39_0) ∧ (vV U2 39 3) ∧ (mN U2 39 3 = 19) ∧ (gG U2 39 3 = q39_3) ∧ Wd s0 D cy U2 s.heap H locs := ⟨_, h, hK, v39_0, n39_0, e39_0, v39_3, n39_3, e39_3, w⟩
        clear v39_0 n39_0 e39_0 v39_3 n39_3 e39_3
        have v39_0 := v39_0'; clear v39_0'
        have n39_0 := n39_0'; clear n39_0'
        have e39_0 := e39_0'; clear e39_0'
        have v39_3 := v39_3'; clear v39_3'
        have n39_3 := n39_3'; clear n39_3'
        have e39_3 := e39_3'; clear e39_3'
        have hK := hK_U2
        refine lv_dup hx hb dX16_deskNow_123 rfl ?_
        refine lv_iconst (v := 1) hx hb dX16_deskNow_124 (by decide) ?_
        refine lv_aload_n hx hb dX16_deskNow_125 rfl (lv_at hl 4 rfl) ?_
        refine rE0 ((rfl).trans ((hK_U2.G (t := 16) (i := 0) rfl)).symm) ?_
        refine g_16_1 (S := U2) (x := (mI U2 257 0)) X w h.v wF_X16_125 (rfl) dX16_deskNow_126 ?_
        refine lv_bipush (v := 24) hx hb dX16_deskNow_129 (by decide) ?_
        refine lv_idiv hx hb dX16_deskNow_131 (by decide) ?_
        refine rE2 ((show gG (sArr T12 39 3 q39_3 19) 39 3 = q39_3 from rfl).trans e39_3.symm) ?_
        refine aStI (S := U2) (t := 39) X w v39_3 (by decide) rfl rfl (by rw [n39_3]; unfold vp_in; decide) dX16_deskNow_132 (fun H locs w => ?_)
        have h : RI ea (sA U2 39 3 (upd (mA U2 39 3) (1 : Int32).toNatClampNeg ((mI U2 257 0) / 24))) ns nj nm nt nr nq := h.stA (by decide)
        have hK : Kq (hvT [(39, 0), (39, 3)]) hNo hNo S (sA U2 39 3 (upd (mA U2 39 3) (1 : Int32).toNatClampNeg ((mI U2 257 0) / 24))) := hK.sA rfl
        obtain ⟨U3, h, hK_U3, v39_0', n39_0', e39_0', v39_3', n39_3', e39_3', w⟩ : ∃ U3 : HS, (RI ea U3 ns nj nm nt nr nq) ∧ (Kq (hvT [(39, 0), (39, 3)]) hNo hNo S U3) ∧ (vV U3 39 0) ∧ (mN U3 39 0 = 5) ∧ (gG U3 39 0 = q39_0) ∧ (vV U3 39 3) ∧ (mN U3 39 3 = 19) ∧ (gG U3 39 3 = q39_3) ∧ Wd s0 D cy U3 s.heap H locs := ⟨_, h, hK, v39_0, n39_0, e39_0, v39_3, n39_3, e39_3, w⟩
        clear v39_0 n39_0 e39_0 v39_3 n39_3 e39_3
        have v39_0 := v39_0'; clear v39_0'
        have n39_0 := n39_0'; clear n39_0'
        have e39_0 := e39_0'; clear e39_0'
        have v39_3 := v39_3'; clear v39_3'
        have n39_3 := n39_3'; clear n39_3'
        have e39_3 := e39_3'; clear e39_3'
        have hK := hK_U3
        refine lv_dup hx hb dX16_deskNow_133 rfl ?_
        refine lv_iconst (v := 2) hx hb dX16_deskNow_134 (by decide) ?_
        refine lv_aload_n hx hb dX16_deskNow_135 rfl (lv_at hl 4 rfl) ?_
        refine rE0 ((rfl).trans ((hK_U3.G (t := 16) (i := 0) rfl)).symm) ?_
        refine g_16_1 (S := U3) (x := (mI U3 257 0)) X w h.v wF_X16_125 (rfl) dX16_deskNow_136 ?_
        refine lv_bipush (v := 24) hx hb dX16_deskNow_139 (by decide) ?_
        refine lv_irem hx hb dX16_deskNow_141 (by decide) ?_
        refine rE2 ((show gG (sArr T12 39 3 q39_3 19) 39 3 = q39_3 from rfl).trans e39_3.symm) ?_
        refine aStI (S := U3) (t := 39) X w v39_3 (by decide) rfl rfl (by rw [n39_3]; unfold vp_in; decide) dX16_deskNow_142 (fun H locs w => ?_)
        have h : RI ea (sA U3 39 3 (upd (mA U3 39 3) (2 : Int32).toNatClampNeg ((mI U3 257 0) - (mI U3 257 0) / 24 * 24))) ns nj nm nt nr nq := h.stA (by decide)
        have hK : Kq (hvT [(39, 0), (39, 3)]) hNo hNo S (sA U3 39 3 (upd (mA U3 39 3) (2 : Int32).toNatClampNeg ((mI U3 257 0) - (mI U3 257 0) / 24 * 24))) := hK.sA rfl
        obtain ⟨U4, h, hK_U4, v39_0', n39_0', e39_0', v39_3', n39_3', e39_3', w⟩ : ∃ U4 : HS, (RI ea U4 ns nj nm nt nr nq) ∧ (Kq (hvT [(39, 0), (39, 3)]) hNo hNo S U4) ∧ (vV U4 39 0) ∧ (mN U4 39 0 = 5) ∧ (gG U4 39 0 = q39_0) ∧ (vV U4 39 3) ∧ (mN U4 39 3 = 19) ∧ (gG U4 39 3 = q39_3) ∧ Wd s0 D cy U4 s.heap H locs := ⟨_, h, hK, v39_0, n39_0, e39_0, v39_3, n39_3, e39_3, w⟩
        clear v39_0 n39_0 e39_0 v39_3 n39_3 e39_3
        have v39_0 := v39_0'; clear v39_0'
        have n39_0 := n39_0'; clear n39_0'
        have e39_0 := e39_0'; clear e39_0'
        have v39_3 := v39_3'; clear v39_3'
        have n39_3 := n39_3'; clear n39_3'
        have e39_3 := e39_3'; clear e39_3'
        have hK := hK_U4
        refine lv_dup hx hb dX16_deskNow_143 rfl ?_
        refine lv_iconst (v := 3) hx hb dX16_deskNow_144 (by decide) ?_
        refine lv_aload_n hx hb dX16_deskNow_145 rfl (lv_at hl 4 rfl) ?_
        refine rE0 ((rfl).trans ((hK_U4.G (t := 16) (i := 0) rfl)).symm) ?_
        refine g_16_6 (S := U4) (x := (some (gG U4 17 6))) X w h.v wF_X16_16 (h.f_st) dX16_deskNow_146 ?_
        refine cF (S := U4) (t := 17) (nA := 0) (As := []) (rest := [.int 3, .ref (gG (sArr T12 39 3 q39_3 19) 39 3), .ref (gG (sArr T12 39 3 q39_3 19) 39 3)]) X w hl h.l_st.1 (m_size G U4 ea 6 ns h.l_st) wY_Jx4a65c_size_8abf5 wM_X16_73 wIn_Jx4a65c_size_8abf5 wSe_Jx4a65c_Jx4a65c_size_8abf5_of_java_util_List_size___I wI_Jx4a65c fw_size (by decide) rfl (by decide +kernel) rfl rfl dX16_deskNow_149 ⟨by decide, by decide⟩ (Nat.le_of_ble_eq_true rfl) (⟨Nat.le_of_ble_eq_true rfl, Nat.le_of_ble_eq_true rfl⟩) (fun v5 S1 H locs hp w => ?_)
        obtain ⟨rfl, rfl⟩ := hp
        refine rE2 ((show gG (sArr T12 39 3 q39_3 19) 39 3 = q39_3 from rfl).trans e39_3.symm) ?_
        refine aStI (S := U4) (t := 39) X w v39_3 (by decide) rfl rfl (by rw [n39_3]; unfold vp_in; decide) dX16_deskNow_154 (fun H locs w => ?_)
        have h : RI ea (sA U4 39 3 (upd (mA U4 39 3) (3 : Int32).toNatClampNeg (nI ns))) ns nj nm nt nr nq := h.stA (by decide)
        have hK : Kq (hvT [(39, 0), (39, 3)]) hNo hNo S (sA U4 39 3 (upd (mA U4 39 3) (3 : Int32).toNatClampNeg (nI ns))) := hK.sA rfl
        obtain ⟨U6, h, hK_U6, v39_0', n39_0', e39_0', v39_3', n39_3', e39_3', w⟩ : ∃ U6 : HS, (RI ea U6 ns nj nm nt nr nq) ∧ (Kq (hvT [(39, 0), (39, 3)]) hNo hNo S U6) ∧ (vV U6 39 0) ∧ (mN U6 39 0 = 5) ∧ (gG U6 39 0 = q39_0) ∧ (vV U6 39 3) ∧ (mN U6 39 3 = 19) ∧ (gG U6 39 3 = q39_3) ∧ Wd s0 D cy U6 s.heap H locs := ⟨_, h, hK, v39_0, n39_0, e39_0, v39_3, n39_3, e39_3, w⟩
        clear v39_0 n39_0 e39_0 v39_3 n39_3 e39_3
        have v39_0 := v39_0'; clear v39_0'
        have n39_0 := n39_0'; clear n39_0'
        have e39_0 := e39_0'; clear e39_0'
        have v39_3 := v39_3'; clear v39_3'
        have n39_3 := n39_3'; clear n39_3'
        have e39_3 := e39_3'; clear e39_3'
        have hK := hK_U6
        refine lv_dup hx hb dX16_deskNow_155 rfl ?_
        refine lv_iconst (v := 4) hx hb dX16_deskNow_156 (by decide) ?_
        refine lv_aload_n hx hb dX16_deskNow_157 rfl (lv_at hl 4 rfl) ?_
        refine rE0 ((rfl).trans ((hK_U6.G (t := 16) (i := 0) rfl)).symm) ?_
        refine g_16_7 (S := U6) (x := (some (gG U6 17 7))) X w h.v wF_X16_20 (h.f_jm) dX16_deskNow_158 ?_
        refine cF (S := U6) (t := 17) (nA := 0) (As := []) (rest := [.int 4, .ref (gG (sArr T12 39 3 q39_3 19) 39 3), .ref (gG (sArr T12 39 3 q39_3 19) 39 3)]) X w hl h.l_jm.1 (m_size G U6 ea 7 nj h.l_jm) wY_Jx4a65c_size_8abf5 wM_X16_73 wIn_Jx4a65c_size_8abf5 wSe_Jx4a65c_Jx4a65c_size_8abf5_of_java_util_List_size___I wI_Jx4a65c fw_size (by decide) rfl (by decide +kernel) rfl rfl dX16_deskNow_161 ⟨by decide, by decide⟩ (Nat.le_of_ble_eq_true rfl) (⟨Nat.le_of_ble_eq_true rfl, Nat.le_of_ble_eq_true rfl⟩) (fun v7 S1 H locs hp w => ?_)
        obtain ⟨rfl, rfl⟩ := hp
        refine rE2 ((show gG (sArr T12 39 3 q39_3 19) 39 3 = q39_3 from rfl).trans e39_3.symm) ?_
        refine aStI (S := U6) (t := 39) X w v39_3 (by decide) rfl rfl (by rw [n39_3]; unfold vp_in; decide) dX16_deskNow_166 (fun H locs w => ?_)
        have h : RI ea (sA U6 39 3 (upd (mA U6 39 3) (4 : Int32).toNatClampNeg (nI nj))) ns nj nm nt nr nq := h.stA (by decide)
        have hK : Kq (hvT [(39, 0), (39, 3)]) hNo hNo S (sA U6 39 3 (upd (mA U6 39 3) (4 : Int32).toNatClampNeg (nI nj))) := hK.sA rfl
        obtain ⟨U8, h, hK_U8, v39_0', n39_0', e39_0', v39_3', n39_3', e39_3', w⟩ : ∃ U8 : HS, (RI ea U8 ns nj nm nt nr nq) ∧ (Kq (hvT [(39, 0), (39, 3)]) hNo hNo S U8) ∧ (vV U8 39 0) ∧ (mN U8 39 0 = 5) ∧ (gG U8 39 0 = q39_0) ∧ (vV U8 39 3) ∧ (mN U8 39 3 = 19) ∧ (gG U8 39 3 = q39_3) ∧ Wd s0 D cy U8 s.heap H locs := ⟨_, h, hK, v39_0, n39_0, e39_0, v39_3, n39_3, e39_3, w⟩
        clear v39_0 n39_0 e39_0 v39_3 n39_3 e39_3
        have v39_0 := v39_0'; clear v39_0'
        have n39_0 := n39_0'; clear n39_0'
        have e39_0 := e39_0'; clear e39_0'
        have v39_3 := v39_3'; clear v39_3'
        have n39_3 := n39_3'; clear n39_3'
        have e39_3 := e39_3'; clear e39_3'
        have hK := hK_U8
        refine lv_dup hx hb dX16_deskNow_167 rfl ?_
        refine lv_iconst (v := 5) hx hb dX16_deskNow_168 (by decide) ?_
        refine lv_aload_n hx hb dX16_deskNow_169 rfl (lv_at hl 4 rfl) ?_
        refine rE0 ((rfl).trans ((hK_U8.G (t := 16) (i := 0) rfl)).symm) ?_
        refine g_16_8 (S := U8) (x := (some (gG U8 17 8))) X w h.v wF_X16_23 (h.f_mo) dX16_deskNow_170 ?_
        refine cF (S := U8) (t := 17) (nA := 0) (As := []) (rest := [.int 5, .ref (gG (sArr T12 39 3 q39_3 19) 39 3), .ref (gG (sArr T12 39 3 q39_3 19) 39 3)]) X w hl h.l_mo.1 (m_size G U8 ea 8 nm h.l_mo) wY_Jx4a65c_size_8abf5 wM_X16_73 wIn_Jx4a65c_size_8abf5 wSe_Jx4a65c_Jx4a65c_size_8abf5_of_java_util_List_size___I wI_Jx4a65c fw_size (by decide) rfl (by decide +kernel) rfl rfl dX16_deskNow_173 ⟨by decide, by decide⟩ (Nat.le_of_ble_eq_true rfl) (⟨Nat.le_of_ble_eq_true rfl, Nat.le_of_ble_eq_true rfl⟩) (fun v9 S1 H locs hp w => ?_)
        obtain ⟨rfl, rfl⟩ := hp
        refine rE2 ((show gG (sArr T12 39 3 q39_3 19) 39 3 = q39_3 from rfl).trans e39_3.symm) ?_
        refine aStI (S := U8) (t := 39) X w v39_3 (by decide) rfl rfl (by rw [n39_3]; unfold vp_in; decide) dX16_deskNow_178 (fun H locs w => ?_)
        have h : RI ea (sA U8 39 3 (upd (mA U8 39 3) (5 : Int32).toNatClampNeg (nI nm))) ns nj nm nt nr nq := h.stA (by decide)
        have hK : Kq (hvT [(39, 0), (39, 3)]) hNo hNo S (sA U8 39 3 (upd (mA U8 39 3) (5 : Int32).toNatClampNeg (nI nm))) := hK.sA rfl
        obtain ⟨U10, h, hK_U10, v39_0', n39_0', e39_0', v39_3', n39_3', e39_3', w⟩ : ∃ U10 : HS, (RI ea U10 ns nj nm nt nr nq) ∧ (Kq (hvT [(39, 0), (39, 3)]) hNo hNo S U10) ∧ (vV U10 39 0) ∧ (mN U10 39 0 = 5) ∧ (gG U10 39 0 = q39_0) ∧ (vV U10 39 3) ∧ (mN U10 39 3 = 19) ∧ (gG U10 39 3 = q39_3) ∧ Wd s0 D cy U10 s.heap H locs := ⟨_, h, hK, v39_0, n39_0, e39_0, v39_3, n39_3, e39_3, w⟩
        clear v39_0 n39_0 e39_0 v39_3 n39_3 e39_3
        have v39_0 := v39_0'; clear v39_0'
        have n39_0 := n39_0'; clear n39_0'
        have e39_0 := e39_0'; clear e39_0'
        have v39_3 := v39_3'; clear v39_3'
        have n39_3 := n39_3'; clear n39_3'
        have e39_3 := e39_3'; clear e39_3'
        have hK := hK_U10
        refine lv_dup hx hb dX16_deskNow_179 rfl ?_
        refine lv_bipush (v := 6) hx hb dX16_deskNow_180 (by decide) ?_
        refine lv_aload_n hx hb dX16_deskNow_182 rfl (lv_at hl 4 rfl) ?_
        refine rE0 ((rfl).trans ((hK_U10.G (t := 16) (i := 0) rfl)).symm) ?_
        refine g_16_9 (S := U10) (x := (some (gG U10 17 9))) X w h.v wF_X16_26 (h.f_ta) dX16_deskNow_183 ?_
        refine cF (S := U10) (t := 17) (nA := 0) (As := []) (rest := [.int 6, .ref (gG (sArr T12 39 3 q39_3 19) 39 3), .ref (gG (sArr T12 39 3 q39_3 19) 39 3)]) X w hl h.l_ta.1 (m_size G U10 ea 9 nt h.l_ta) wY_Jx4a65c_size_8abf5 wM_X16_73 wIn_Jx4a65c_size_8abf5 wSe_Jx4a65c_Jx4a65c_size_8abf5_of_java_util_List_size___I wI_Jx4a65c fw_size (by decide) rfl (by decide +kernel) rfl rfl dX16_deskNow_186 ⟨by decide, by decide⟩ (Nat.le_of_ble_eq_true rfl) (⟨Nat.le_of_ble_eq_true rfl, Nat.le_of_ble_eq_true rfl⟩) (fun v11 S1 H locs hp w => ?_)
        obtain ⟨rfl, rfl⟩ := hp
        refine rE2 ((show gG (sArr T12 39 3 q39_3 19) 39 3 = q39_3 from rfl).trans e39_3.symm) ?_
        refine aStI (S := U10) (t := 39) X w v39_3 (by decide) rfl rfl (by rw [n39_3]; unfold vp_in; decide) dX16_deskNow_191 (fun H locs w => ?_)
        have h : RI ea (sA U10 39 3 (upd (mA U10 39 3) (6 : Int32).toNatClampNeg (nI nt))) ns nj nm nt nr nq := h.stA (by decide)
        have hK : Kq (hvT [(39, 0), (39, 3)]) hNo hNo S (sA U10 39 3 (upd (mA U10 39 3) (6 : Int32).toNatClampNeg (nI nt))) := hK.sA rfl
        obtain ⟨U12, h, hK_U12, v39_0', n39_0', e39_0', v39_3', n39_3', e39_3', w⟩ : ∃ U12 : HS, (RI ea U12 ns nj nm nt nr nq) ∧ (Kq (hvT [(39, 0), (39, 3)]) hNo hNo S U12) ∧ (vV U12 39 0) ∧ (mN U12 39 0 = 5) ∧ (gG U12 39 0 = q39_0) ∧ (vV U12 39 3) ∧ (mN U12 39 3 = 19) ∧ (gG U12 39 3 = q39_3) ∧ Wd s0 D cy U12 s.heap H locs := ⟨_, h, hK, v39_0, n39_0, e39_0, v39_3, n39_3, e39_3, w⟩
        clear v39_0 n39_0 e39_0 v39_3 n39_3 e39_3
        have v39_0 := v39_0'; clear v39_0'
        have n39_0 := n39_0'; clear n39_0'
        have e39_0 := e39_0'; clear e39_0'
        have v39_3 := v39_3'; clear v39_3'
        have n39_3 := n39_3'; clear n39_3'
        have e39_3 := e39_3'; clear e39_3'
        have hK := hK_U12
        refine lv_dup hx hb dX16_deskNow_192 rfl ?_
        refine lv_bipush (v := 7) hx hb dX16_deskNow_193 (by decide) ?_
        refine lv_iload_n hx hb dX16_deskNow_195 rfl (lv_at hl 2 rfl) ?_
        refine rE2 ((show gG (sArr T12 39 3 q39_3 19) 39 3 = q39_3 from rfl).trans e39_3.symm) ?_
        refine aStI (S := U12) (t := 39) X w v39_3 (by decide) rfl rfl (by rw [n39_3]; unfold vp_in; decide) dX16_deskNow_196 (fun H locs w => ?_)
        have h : RI ea (sA U12 39 3 (upd (mA U12 39 3) (7 : Int32).toNatClampNeg v12_3)) ns nj nm nt nr nq := h.stA (by decide)
        have hK : Kq (hvT [(39, 0), (39, 3)]) hNo hNo S (sA U12 39 3 (upd (mA U12 39 3) (7 : Int32).toNatClampNeg v12_3)) := hK.sA rfl
        obtain ⟨U13, h, hK_U13, v39_0', n39_0', e39_0', v39_3', n39_3', e39_3', w⟩ : ∃ U13 : HS, (RI ea U13 ns nj nm nt nr nq) ∧ (Kq (hvT [(39, 0), (39, 3)]) hNo hNo S U13) ∧ (vV U13 39 0) ∧ (mN U13 39 0 = 5) ∧ (gG U13 39 0 = q39_0) ∧ (vV U13 39 3) ∧ (mN U13 39 3 = 19) ∧ (gG U13 39 3 = q39_3) ∧ Wd s0 D cy U13 s.heap H locs := ⟨_, h, hK, v39_0, n39_0, e39_0, v39_3, n39_3, e39_3, w⟩
        clear v39_0 n39_0 e39_0 v39_3 n39_3 e39_3
        have v39_0 := v39_0'; clear v39_0'
        have n39_0 := n39_0'; clear n39_0'
        have e39_0 := e39_0'; clear e39_0'
        have v39_3 := v39_3'; clear v39_3'
        have n39_3 := n39_3'; clear n39_3'
        have e39_3 := e39_3'; clear e39_3'
        have hK := hK_U13
        refine lv_dup hx hb dX16_deskNow_197 rfl ?_
        refine lv_bipush (v := 8) hx hb dX16_deskNow_198 (by decide) ?_
        refine lv_aload_n hx hb dX16_deskNow_200 rfl (lv_at hl 3 rfl) ?_
        refine lv_iconst (v := 0) hx hb dX16_deskNow_201 (by decide) ?_
        refine rE1 ((show gG (sArr S 39 0 q39_0 5) 39 0 = q39_0 from rfl).trans e39_0.symm) ?_
        refine aLdI (S := U13) (t := 39) (v := mA U13 39 0 (0 : Int32).toNatClampNeg) X w v39_0 (by decide) rfl rfl (by rw [n39_0]; unfold vp_in; decide) rfl dX16_deskNow_202 ?_
        refine lv_topi (fun z14 ez14 => ?_)
        refine rE2 ((show gG (sArr T12 39 3 q39_3 19) 39 3 = q39_3 from rfl).trans e39_3.symm) ?_
        refine aStI (S := U13) (t := 39) X w v39_3 (by decide) rfl rfl (by rw [n39_3]; unfold vp_in; decide) dX16_deskNow_203 (fun H locs w => ?_)
        have h : RI ea (sA U13 39 3 (upd (mA U13 39 3) (8 : Int32).toNatClampNeg z14)) ns nj nm nt nr nq := h.stA (by decide)
        have hK : Kq (hvT [(39, 0), (39, 3)]) hNo hNo S (sA U13 39 3 (upd (mA U13 39 3) (8 : Int32).toNatClampNeg z14)) := hK.sA rfl
        obtain ⟨U15, h, hK_U15, v39_0', n39_0', e39_0', v39_3', n39_3', e39_3', w⟩ : ∃ U15 : HS, (RI ea U15 ns nj nm nt nr nq) ∧ (Kq (hvT [(39, 0), (39, 3)]) hNo hNo S U15) ∧ (vV U15 39 0) ∧ (mN U15 39 0 = 5) ∧ (gG U15 39 0 = q39_0) ∧ (vV U15 39 3) ∧ (mN U15 39 3 = 19) ∧ (gG U15 39 3 = q39_3) ∧ Wd s0 D cy U15 s.heap H locs := ⟨_, h, hK, v39_0, n39_0, e39_0, v39_3, n39_3, e39_3, w⟩
        clear v39_0 n39_0 e39_0 v39_3 n39_3 e39_3
        have v39_0 := v39_0'; clear v39_0'
        have n39_0 := n39_0'; clear n39_0'
        have e39_0 := e39_0'; clear e39_0'
        have v39_3 := v39_3'; clear v39_3'
        have n39_3 := n39_3'; clear n39_3'
        have e39_3 := e39_3'; clear e39_3'
        have hK := hK_U15
        refine lv_dup hx hb dX16_deskNow_204 rfl ?_
        refine lv_bipush (v := 9) hx hb dX16_deskNow_205 (by decide) ?_
        refine lv_aload_n hx hb dX16_deskNow_207 rfl (lv_at hl 3 rfl) ?_
        refine lv_iconst (v := 1) hx hb dX16_deskNow_208 (by decide) ?_
        refine rE1 ((show gG (sArr S 39 0 q39_0 5) 39 0 = q39_0 from rfl).trans e39_0.symm) ?_
        refine aLdI (S := U15) (t := 39) (v := mA U15 39 0 (1 : Int32).toNatClampNeg) X w v39_0 (by decide) rfl rfl (by rw [n39_0]; unfold vp_in; decide) rfl dX16_deskNow_209 ?_
        refine lv_topi (fun z16 ez16 => ?_)
        refine rE2 ((show gG (sArr T12 39 3 q39_3 19) 39 3 = q39_3 from rfl).trans e39_3.symm) ?_
        refine aStI (S := U15) (t := 39) X w v39_3 (by decide) rfl rfl (by rw [n39_3]; unfold vp_in; decide) dX16_deskNow_210 (fun H locs w => ?_)
        have h : RI ea (sA U15 39 3 (upd (mA U15 39 3) (9 : Int32).toNatClampNeg z16)) ns nj nm nt nr nq := h.stA (by decide)
        have hK : Kq (hvT [(39, 0), (39, 3)]) hNo hNo S (sA U15 39 3 (upd (mA U15 39 3) (9 : Int32).toNatClampNeg z16)) := hK.sA rfl
        obtain ⟨U17, h, hK_U17, v39_0', n39_0', e39_0', v39_3', n39_3', e39_3', w⟩ : ∃ U17 : HS, (RI ea U17 ns nj nm nt nr nq) ∧ (Kq (hvT [(39, 0), (39, 3)]) hNo hNo S U17) ∧ (vV U17 39 0) ∧ (mN U17 39 0 = 5) ∧ (gG U17 39 0 = q39_0) ∧ (vV U17 39 3) ∧ (mN U17 39 3 = 19) ∧ (gG U17 39 3 = q39_3) ∧ Wd s0 D cy U17 s.heap H locs := ⟨_, h, hK, v39_0, n39_0, e39_0, v39_3, n39_3, e39_3, w⟩
        clear v39_0 n39_0 e39_0 v39_3 n39_3 e39_3
        have v39_0 := v39_0'; clear v39_0'
        have n39_0 := n39_0'; clear n39_0'
        have e39_0 := e39_0'; clear e39_0'
        have v39_3 := v39_3'; clear v39_3'
        have n39_3 := n39_3'; clear n39_3'
        have e39_3 := e39_3'; clear e39_3'
        have hK := hK_U17
        refine lv_dup hx hb dX16_deskNow_211 rfl ?_
        refine lv_bipush (v := 10) hx hb dX16_deskNow_212 (by decide) ?_
        refine lv_aload_n hx hb dX16_deskNow_214 rfl (lv_at hl 3 rfl) ?_
        refine lv_iconst (v := 2) hx hb dX16_deskNow_215 (by decide) ?_
        refine rE1 ((show gG (sArr S 39 0 q39_0 5) 39 0 = q39_0 from rfl).trans e39_0.symm) ?_
        refine aLdI (S := U17) (t := 39) (v := mA U17 39 0 (2 : Int32).toNatClampNeg) X w v39_0 (by decide) rfl rfl (by rw [n39_0]; unfold vp_in; decide) rfl dX16_deskNow_216 ?_
        refine lv_topi (fun z18 ez18 => ?_)
        refine rE2 ((show gG (sArr T12 39 3 q39_3 19) 39 3 = q39_3 from rfl).trans e39_3.symm) ?_
        refine aStI (S := U17) (t := 39) X w v39_3 (by decide) rfl rfl (by rw [n39_3]; unfold vp_in; decide) dX16_deskNow_217 (fun H locs w => ?_)
        have h : RI ea (sA U17 39 3 (upd (mA U17 39 3) (10 : Int32).toNatClampNeg z18)) ns nj nm nt nr nq := h.stA (by decide)
        have hK : Kq (hvT [(39, 0), (39, 3)]) hNo hNo S (sA U17 39 3 (upd (mA U17 39 3) (10 : Int32).toNatClampNeg z18)) := hK.sA rfl
        obtain ⟨U19, h, hK_U19, v39_0', n39_0', e39_0', v39_3', n39_3', e39_3', w⟩ : ∃ U19 : HS, (RI ea U19 ns nj nm nt nr nq) ∧ (Kq (hvT [(39, 0), (39, 3)]) hNo hNo S U19) ∧ (vV U19 39 0) ∧ (mN U19 39 0 = 5) ∧ (gG U19 39 0 = q39_0) ∧ (vV U19 39 3) ∧ (mN U19 39 3 = 19) ∧ (gG U19 39 3 = q39_3) ∧ Wd s0 D cy U19 s.heap H locs := ⟨_, h, hK, v39_0, n39_0, e39_0, v39_3, n39_3, e39_3, w⟩
        clear v39_0 n39_0 e39_0 v39_3 n39_3 e39_3
        have v39_0 := v39_0'; clear v39_0'
        have n39_0 := n39_0'; clear n39_0'
        have e39_0 := e39_0'; clear e39_0'
        have v39_3 := v39_3'; clear v39_3'
        have n39_3 := n39_3'; clear n39_3'
        have e39_3 := e39_3'; clear e39_3'
        have hK := hK_U19
        refine lv_dup hx hb dX16_deskNow_218 rfl ?_
        refine lv_bipush (v := 11) hx hb dX16_deskNow_219 (by decide) ?_
        refine lv_aload_n hx hb dX16_deskNow_221 rfl (lv_at hl 3 rfl) ?_
        refine lv_iconst (v := 3) hx hb dX16_deskNow_222 (by decide) ?_
        refine rE1 ((show gG (sArr S 39 0 q39_0 5) 39 0 = q39_0 from rfl).trans e39_0.symm) ?_
        refine aLdI (S := U19) (t := 39) (v := mA U19 39 0 (3 : Int32).toNatClampNeg) X w v39_0 (by decide) rfl rfl (by rw [n39_0]; unfold vp_in; decide) rfl dX16_deskNow_223 ?_
        refine lv_topi (fun z20 ez20 => ?_)
        refine rE2 ((show gG (sArr T12 39 3 q39_3 19) 39 3 = q39_3 from rfl).trans e39_3.symm) ?_
        refine aStI (S := U19) (t := 39) X w v39_3 (by decide) rfl rfl (by rw [n39_3]; unfold vp_in; decide) dX16_deskNow_224 (fun H locs w => ?_)
        have h : RI ea (sA U19 39 3 (upd (mA U19 39 3) (11 : Int32).toNatClampNeg z20)) ns nj nm nt nr nq := h.stA (by decide)
        have hK : Kq (hvT [(39, 0), (39, 3)]) hNo hNo S (sA U19 39 3 (upd (mA U19 39 3) (11 : Int32).toNatClampNeg z20)) := hK.sA rfl
        obtain ⟨U21, h, hK_U21, v39_0', n39_0', e39_0', v39_3', n39_3', e39_3', w⟩ : ∃ U21 : HS, (RI ea U21 ns nj nm nt nr nq) ∧ (Kq (hvT [(39, 0), (39, 3)]) hNo hNo S U21) ∧ (vV U21 39 0) ∧ (mN U21 39 0 = 5) ∧ (gG U21 39 0 = q39_0) ∧ (vV U21 39 3) ∧ (mN U21 39 3 = 19) ∧ (gG U21 39 3 = q39_3) ∧ Wd s0 D cy U21 s.heap H locs := ⟨_, h, hK, v39_0, n39_0, e39_0, v39_3, n39_3, e39_3, w⟩
        clear v39_0 n39_0 e39_0 v39_3 n39_3 e39_3
        have v39_0 := v39_0'; clear v39_0'
        have n39_0 := n39_0'; clear n39_0'
        have e39_0 := e39_0'; clear e39_0'
        have v39_3 := v39_3'; clear v39_3'
        have n39_3 := n39_3'; clear n39_3'
        have e39_3 := e39_3'; clear e39_3'
        have hK := hK_U21
        refine lv_dup hx hb dX16_deskNow_225 rfl ?_
        refine lv_bipush (v := 12) hx hb dX16_deskNow_226 (by decide) ?_
        refine lv_aload_n hx hb dX16_deskNow_228 rfl (lv_at hl 3 rfl) ?_
        refine lv_iconst (v := 4) hx hb dX16_deskNow_229 (by decide) ?_
        refine rE1 ((show gG (sArr S 39 0 q39_0 5) 39 0 = q39_0 from rfl).trans e39_0.symm) ?_
        refine aLdI (S := U21) (t := 39) (v := mA U21 39 0 (4 : Int32).toNatClampNeg) X w v39_0 (by decide) rfl rfl (by rw [n39_0]; unfold vp_in; decide) rfl dX16_deskNow_230 ?_
        refine lv_topi (fun z22 ez22 => ?_)
        refine rE2 ((show gG (sArr T12 39 3 q39_3 19) 39 3 = q39_3 from rfl).trans e39_3.symm) ?_
        refine aStI (S := U21) (t := 39) X w v39_3 (by decide) rfl rfl (by rw [n39_3]; unfold vp_in; decide) dX16_deskNow_231 (fun H locs w => ?_)
        have h : RI ea (sA U21 39 3 (upd (mA U21 39 3) (12 : Int32).toNatClampNeg z22)) ns nj nm nt nr nq := h.stA (by decide)
        have hK : Kq (hvT [(39, 0), (39, 3)]) hNo hNo S (sA U21 39 3 (upd (mA U21 39 3) (12 : Int32).toNatClampNeg z22)) := hK.sA rfl
        obtain ⟨U23, h, hK_U23, v39_0', n39_0', e39_0', v39_3', n39_3', e39_3', w⟩ : ∃ U23 : HS, (RI ea U23 ns nj nm nt nr nq) ∧ (Kq (hvT [(39, 0), (39, 3)]) hNo hNo S U23) ∧ (vV U23 39 0) ∧ (mN U23 39 0 = 5) ∧ (gG U23 39 0 = q39_0) ∧ (vV U23 39 3) ∧ (mN U23 39 3 = 19) ∧ (gG U23 39 3 = q39_3) ∧ Wd s0 D cy U23 s.heap H locs := ⟨_, h, hK, v39_0, n39_0, e39_0, v39_3, n39_3, e39_3, w⟩
        clear v39_0 n39_0 e39_0 v39_3 n39_3 e39_3
        have v39_0 := v39_0'; clear v39_0'
        have n39_0 := n39_0'; clear n39_0'
        have e39_0 := e39_0'; clear e39_0'
        have v39_3 := v39_3'; clear v39_3'
        have n39_3 := n39_3'; clear n39_3'
        have e39_3 := e39_3'; clear e39_3'
        have hK := hK_U23
        refine lv_dup hx hb dX16_deskNow_232 rfl ?_
        refine lv_bipush (v := 13) hx hb dX16_deskNow_233 (by decide) ?_
        refine lv_aload_n hx hb dX16_deskNow_235 rfl (lv_at hl 4 rfl) ?_
        refine rE0 ((rfl).trans ((hK_U23.G (t := 16) (i := 0) rfl)).symm) ?_
        refine g_16_2 (S := U23) (x := (mI U23 258 0)) X w h.v wF_X16_7 (rfl) dX16_deskNow_236 ?_
        refine rE2 ((show gG (sArr T12 39 3 q39_3 19) 39 3 = q39_3 from rfl).trans e39_3.symm) ?_
        refine aStI (S := U23) (t := 39) X w v39_3 (by decide) rfl rfl (by rw [n39_3]; unfold vp_in; decide) dX16_deskNow_239 (fun H locs w => ?_)
        have h : RI ea (sA U23 39 3 (upd (mA U23 39 3) (13 : Int32).toNatClampNeg (mI U23 258 0))) ns nj nm nt nr nq := h.stA (by decide)
        have hK : Kq (hvT [(39, 0), (39, 3)]) hNo hNo S (sA U23 39 3 (upd (mA U23 39 3) (13 : Int32).toNatClampNeg (mI U23 258 0))) := hK.sA rfl
        obtain ⟨U24, h, hK_U24, v39_0', n39_0', e39_0', v39_3', n39_3', e39_3', w⟩ : ∃ U24 : HS, (RI ea U24 ns nj nm nt nr nq) ∧ (Kq (hvT [(39, 0), (39, 3)]) hNo hNo S U24) ∧ (vV U24 39 0) ∧ (mN U24 39 0 = 5) ∧ (gG U24 39 0 = q39_0) ∧ (vV U24 39 3) ∧ (mN U24 39 3 = 19) ∧ (gG U24 39 3 = q39_3) ∧ Wd s0 D cy U24 s.heap H locs := ⟨_, h, hK, v39_0, n39_0, e39_0, v39_3, n39_3, e39_3, w⟩
        clear v39_0 n39_0 e39_0 v39_3 n39_3 e39_3
        have v39_0 := v39_0'; clear v39_0'
        have n39_0 := n39_0'; clear n39_0'
        have e39_0 := e39_0'; clear e39_0'
        have v39_3 := v39_3'; clear v39_3'
        have n39_3 := n39_3'; clear n39_3'
        have e39_3 := e39_3'; clear e39_3'
        have hK := hK_U24
        refine lv_dup hx hb dX16_deskNow_240 rfl ?_
        refine lv_bipush (v := 14) hx hb dX16_deskNow_241 (by decide) ?_
        refine lv_aload_n hx hb dX16_deskNow_243 rfl (lv_at hl 4 rfl) ?_
        refine rE0 ((rfl).trans ((hK_U24.G (t := 16) (i := 0) rfl)).symm) ?_
        refine g_16_11 (S := U24) (x := (some (gG U24 17 11))) X w h.v wF_X16_32 (h.f_qu) dX16_deskNow_244 ?_
        refine cF (S := U24) (t := 17) (nA := 0) (As := []) (rest := [.int 14, .ref (gG (sArr T12 39 3 q39_3 19) 39 3), .ref (gG (sArr T12 39 3 q39_3 19) 39 3)]) X w hl h.l_qu.1 (m_size G U24 ea 11 nq h.l_qu) wY_Jx4a65c_size_8abf5 wM_X16_73 wIn_Jx4a65c_size_8abf5 wSe_Jx4a65c_Jx4a65c_size_8abf5_of_java_util_List_size___I wI_Jx4a65c fw_size (by decide) rfl (by decide +kernel) rfl rfl dX16_deskNow_247 ⟨by decide, by decide⟩ (Nat.le_of_ble_eq_true rfl) (⟨Nat.le_of_ble_eq_true rfl, Nat.le_of_ble_eq_true rfl⟩) (fun v25 S1 H locs hp w => ?_)
        obtain ⟨rfl, rfl⟩ := hp
        refine rE2 ((show gG (sArr T12 39 3 q39_3 19) 39 3 = q39_3 from rfl).trans e39_3.symm) ?_
        refine aStI (S := U24) (t := 39) X w v39_3 (by decide) rfl rfl (by rw [n39_3]; unfold vp_in; decide) dX16_deskNow_252 (fun H locs w => ?_)
        have h : RI ea (sA U24 39 3 (upd (mA U24 39 3) (14 : Int32).toNatClampNeg (nI nq))) ns nj nm nt nr nq := h.stA (by decide)
        have hK : Kq (hvT [(39, 0), (39, 3)]) hNo hNo S (sA U24 39 3 (upd (mA U24 39 3) (14 : Int32).toNatClampNeg (nI nq))) := hK.sA rfl
        obtain ⟨U26, h, hK_U26, v39_0', n39_0', e39_0', v39_3', n39_3', e39_3', w⟩ : ∃ U26 : HS, (RI ea U26 ns nj nm nt nr nq) ∧ (Kq (hvT [(39, 0), (39, 3)]) hNo hNo S U26) ∧ (vV U26 39 0) ∧ (mN U26 39 0 = 5) ∧ (gG U26 39 0 = q39_0) ∧ (vV U26 39 3) ∧ (mN U26 39 3 = 19) ∧ (gG U26 39 3 = q39_3) ∧ Wd s0 D cy U26 s.heap H locs := ⟨_, h, hK, v39_0, n39_0, e39_0, v39_3, n39_3, e39_3, w⟩
        clear v39_0 n39_0 e39_0 v39_3 n39_3 e39_3
        have v39_0 := v39_0'; clear v39_0'
        have n39_0 := n39_0'; clear n39_0'
        have e39_0 := e39_0'; clear e39_0'
        have v39_3 := v39_3'; clear v39_3'
        have n39_3 := n39_3'; clear n39_3'
        have e39_3 := e39_3'; clear e39_3'
        have hK := hK_U26
        refine lv_dup hx hb dX16_deskNow_253 rfl ?_
        refine lv_bipush (v := 15) hx hb dX16_deskNow_254 (by decide) ?_
        refine lv_iload hx hb dX16_deskNow_256 (lv_at hl 1 rfl) ?_
        refine rE2 ((show gG (sArr T12 39 3 q39_3 19) 39 3 = q39_3 from rfl).trans e39_3.symm) ?_
        refine aStI (S := U26) (t := 39) X w v39_3 (by decide) rfl rfl (by rw [n39_3]; unfold vp_in; decide) dX16_deskNow_258 (fun H locs w => ?_)
        have h : RI ea (sA U26 39 3 (upd (mA U26 39 3) (15 : Int32).toNatClampNeg v12_4)) ns nj nm nt nr nq := h.stA (by decide)
        have hK : Kq (hvT [(39, 0), (39, 3)]) hNo hNo S (sA U26 39 3 (upd (mA U26 39 3) (15 : Int32).toNatClampNeg v12_4)) := hK.sA rfl
        obtain ⟨U27, h, hK_U27, v39_0', n39_0', e39_0', v39_3', n39_3', e39_3', w⟩ : ∃ U27 : HS, (RI ea U27 ns nj nm nt nr nq) ∧ (Kq (hvT [(39, 0), (39, 3)]) hNo hNo S U27) ∧ (vV U27 39 0) ∧ (mN U27 39 0 = 5) ∧ (gG U27 39 0 = q39_0) ∧ (vV U27 39 3) ∧ (mN U27 39 3 = 19) ∧ (gG U27 39 3 = q39_3) ∧ Wd s0 D cy U27 s.heap H locs := ⟨_, h, hK, v39_0, n39_0, e39_0, v39_3, n39_3, e39_3, w⟩
        clear v39_0 n39_0 e39_0 v39_3 n39_3 e39_3
        have v39_0 := v39_0'; clear v39_0'
        have n39_0 := n39_0'; clear n39_0'
        have e39_0 := e39_0'; clear e39_0'
        have v39_3 := v39_3'; clear v39_3'
        have n39_3 := n39_3'; clear n39_3'
        have e39_3 := e39_3'; clear e39_3'
        have hK := hK_U27
        refine lv_dup hx hb dX16_deskNow_259 rfl ?_
        refine lv_bipush (v := 16) hx hb dX16_deskNow_260 (by decide) ?_
        refine lv_aload_n hx hb dX16_deskNow_262 rfl (lv_at hl 4 rfl) ?_
        refine rE0 ((rfl).trans ((hK_U27.G (t := 16) (i := 0) rfl)).symm) ?_
        refine g_16_10 (S := U27) (x := (some (gG U27 17 10))) X w h.v wF_X16_29 (h.f_re) dX16_deskNow_263 ?_
        refine cF (S := U27) (t := 17) (nA := 0) (As := []) (rest := [.int 16, .ref (gG (sArr T12 39 3 q39_3 19) 39 3), .ref (gG (sArr T12 39 3 q39_3 19) 39 3)]) X w hl h.l_re.1 (m_size G U27 ea 10 nr h.l_re) wY_Jx4a65c_size_8abf5 wM_X16_73 wIn_Jx4a65c_size_8abf5 wSe_Jx4a65c_Jx4a65c_size_8abf5_of_java_util_List_size___I wI_Jx4a65c fw_size (by decide) rfl (by decide +kernel) rfl rfl dX16_deskNow_266 ⟨by decide, by decide⟩ (Nat.le_of_ble_eq_true rfl) (⟨Nat.le_of_ble_eq_true rfl, Nat.le_of_ble_eq_true rfl⟩) (fun v28 S1 H locs hp w => ?_)
        obtain ⟨rfl, rfl⟩ := hp
        refine rE2 ((show gG (sArr T12 39 3 q39_3 19) 39 3 = q39_3 from rfl).trans e39_3.symm) ?_
        refine aStI (S := U27) (t := 39) X w v39_3 (by decide) rfl rfl (by rw [n39_3]; unfold vp_in; decide) dX16_deskNow_271 (fun H locs w => ?_)
        have h : RI ea (sA U27 39 3 (upd (mA U27 39 3) (16 : Int32).toNatClampNeg (nI nr))) ns nj nm nt nr nq := h.stA (by decide)
        have hK : Kq (hvT [(39, 0), (39, 3)]) hNo hNo S (sA U27 39 3 (upd (mA U27 39 3) (16 : Int32).toNatClampNeg (nI nr))) := hK.sA rfl
        obtain ⟨U29, h, hK_U29, v39_0', n39_0', e39_0', v39_3', n39_3', e39_3', w⟩ : ∃ U29 : HS, (RI ea U29 ns nj nm nt nr nq) ∧ (Kq (hvT [(39, 0), (39, 3)]) hNo hNo S U29) ∧ (vV U29 39 0) ∧ (mN U29 39 0 = 5) ∧ (gG U29 39 0 = q39_0) ∧ (vV U29 39 3) ∧ (mN U29 39 3 = 19) ∧ (gG U29 39 3 = q39_3) ∧ Wd s0 D cy U29 s.heap H locs := ⟨_, h, hK, v39_0, n39_0, e39_0, v39_3, n39_3, e39_3, w⟩
        clear v39_0 n39_0 e39_0 v39_3 n39_3 e39_3
        have v39_0 := v39_0'; clear v39_0'
        have n39_0 := n39_0'; clear n39_0'
        have e39_0 := e39_0'; clear e39_0'
        have v39_3 := v39_3'; clear v39_3'
        have n39_3 := n39_3'; clear n39_3'
        have e39_3 := e39_3'; clear e39_3'
        have hK := hK_U29
        refine lv_dup hx hb dX16_deskNow_272 rfl ?_
        refine lv_bipush (v := 17) hx hb dX16_deskNow_273 (by decide) ?_
        refine lv_aload_n hx hb dX16_deskNow_275 rfl (lv_at hl 4 rfl) ?_
        refine rE0 ((rfl).trans ((hK_U29.G (t := 16) (i := 0) rfl)).symm) ?_
        refine g_16_3 (S := U29) (x := (mI U29 259 0)) X w h.v wF_X16_138 (rfl) dX16_deskNow_276 ?_
        refine rE2 ((show gG (sArr T12 39 3 q39_3 19) 39 3 = q39_3 from rfl).trans e39_3.symm) ?_
        refine aStI (S := U29) (t := 39) X w v39_3 (by decide) rfl rfl (by rw [n39_3]; unfold vp_in; decide) dX16_deskNow_279 (fun H locs w => ?_)
        have h : RI ea (sA U29 39 3 (upd (mA U29 39 3) (17 : Int32).toNatClampNeg (mI U29 259 0))) ns nj nm nt nr nq := h.stA (by decide)
        have hK : Kq (hvT [(39, 0), (39, 3)]) hNo hNo S (sA U29 39 3 (upd (mA U29 39 3) (17 : Int32).toNatClampNeg (mI U29 259 0))) := hK.sA rfl
        obtain ⟨U30, h, hK_U30, v39_0', n39_0', e39_0', v39_3', n39_3', e39_3', w⟩ : ∃ U30 : HS, (RI ea U30 ns nj nm nt nr nq) ∧ (Kq (hvT [(39, 0), (39, 3)]) hNo hNo S U30) ∧ (vV U30 39 0) ∧ (mN U30 39 0 = 5) ∧ (gG U30 39 0 = q39_0) ∧ (vV U30 39 3) ∧ (mN U30 39 3 = 19) ∧ (gG U30 39 3 = q39_3) ∧ Wd s0 D cy U30 s.heap H locs := ⟨_, h, hK, v39_0, n39_0, e39_0, v39_3, n39_3, e39_3, w⟩
        clear v39_0 n39_0 e39_0 v39_3 n39_3 e39_3
        have v39_0 := v39_0'; clear v39_0'
        have n39_0 := n39_0'; clear n39_0'
        have e39_0 := e39_0'; clear e39_0'
        have v39_3 := v39_3'; clear v39_3'
        have n39_3 := n39_3'; clear n39_3'
        have e39_3 := e39_3'; clear e39_3'
        have hK := hK_U30
        refine lv_dup hx hb dX16_deskNow_280 rfl ?_
        refine lv_bipush (v := 18) hx hb dX16_deskNow_281 (by decide) ?_
        refine lv_aload_n hx hb dX16_deskNow_283 rfl (lv_at hl 4 rfl) ?_
        refine rE0 ((rfl).trans ((hK_U30.G (t := 16) (i := 0) rfl)).symm) ?_
        refine g_16_4 (S := U30) (x := (mI U30 260 0)) X w h.v wF_X16_264 (rfl) dX16_deskNow_284 ?_
        refine rE2 ((show gG (sArr T12 39 3 q39_3 19) 39 3 = q39_3 from rfl).trans e39_3.symm) ?_
        refine aStI (S := U30) (t := 39) X w v39_3 (by decide) rfl rfl (by rw [n39_3]; unfold vp_in; decide) dX16_deskNow_287 (fun H locs w => ?_)
        have h : RI ea (sA U30 39 3 (upd (mA U30 39 3) (18 : Int32).toNatClampNeg (mI U30 260 0))) ns nj nm nt nr nq := h.stA (by decide)
        have hK : Kq (hvT [(39, 0), (39, 3)]) hNo hNo S (sA U30 39 3 (upd (mA U30 39 3) (18 : Int32).toNatClampNeg (mI U30 260 0))) := hK.sA rfl
        obtain ⟨U31, h, hK_U31, v39_0', n39_0', e39_0', v39_3', n39_3', e39_3', w⟩ : ∃ U31 : HS, (RI ea U31 ns nj nm nt nr nq) ∧ (Kq (hvT [(39, 0), (39, 3)]) hNo hNo S U31) ∧ (vV U31 39 0) ∧ (mN U31 39 0 = 5) ∧ (gG U31 39 0 = q39_0) ∧ (vV U31 39 3) ∧ (mN U31 39 3 = 19) ∧ (gG U31 39 3 = q39_3) ∧ Wd s0 D cy U31 s.heap H locs := ⟨_, h, hK, v39_0, n39_0, e39_0, v39_3, n39_3, e39_3, w⟩
        clear v39_0 n39_0 e39_0 v39_3 n39_3 e39_3
        have v39_0 := v39_0'; clear v39_0'
        have n39_0 := n39_0'; clear n39_0'
        have e39_0 := e39_0'; clear e39_0'
        have v39_3 := v39_3'; clear v39_3'
        have n39_3 := n39_3'; clear n39_3'
        have e39_3 := e39_3'; clear e39_3'
        have hK := hK_U31
        refine lv_astore (lv' := [(5, .ref (gG (sArr T12 39 3 q39_3 19) 39 3)), (4, .int v12_4), (3, .int v12_3), (2, .ref (gG (sArr S 39 0 q39_0 5) 39 0)), (0, .ref (gG S 16 0)), (1, .int (nI q))]) hx hb dX16_deskNow_288 hl (by decide) rfl (fun ls hl => ?_)
        refine lv_aload hx hb dX16_deskNow_290 (lv_at hl 0 rfl) ?_
        refine lv_iload_n hx hb dX16_deskNow_292 rfl (lv_at hl 5 rfl) ?_
        refine rE1 ((show gG (sArr T12 39 3 q39_3 19) 39 3 = q39_3 from rfl).trans e39_3.symm) ?_
        refine aLdI (S := U31) (t := 39) (v := mA U31 39 3 (nI q).toNatClampNeg) X w v39_3 (by decide) rfl rfl (by rw [n39_3]; exact nI_vp hq (by decide)) rfl dX16_deskNow_293 ?_
        refine lv_topi (fun z32 ez32 => ?_)
        have w := w.offT hK hT
        exact rI X w rfl dX16_deskNow_294 (by decide) (by decide) (px_i)
      · have hlt_k12 : k12 < nt := by
          have hb1 := h.b_ta
          exact Nat.lt_of_not_le (fun z => hc_k12 ((nI_leI (a := nt) (b := k12) (by omega) (by omega)).mpr z))
        refine lv_aload_n hx hb dX16_deskNow_26 rfl (lv_at hl 4 rfl) ?_
        refine rE0 ((rfl).trans ((hK_T12.G (t := 16) (i := 0) rfl)).symm) ?_
        refine g_16_9 (S := T12) (x := (some (gG T12 17 9))) X w h.v wF_X16_26 (h.f_ta) dX16_deskNow_27 ?_
        refine lv_iload hx hb dX16_deskNow_30 (lv_at hl 0 rfl) ?_
        refine cF (S := T12) (t := 17) (nA := 1) (As := [.int (nI k12)]) (rest := []) X w hl h.l_ta.1 (m_get G T12 ea 9 k12 nt (some (gG T12 15 k12)) h.l_ta hlt_k12 (h.e_ta k12 hlt_k12).1) wY_Jx4a65c_get_915e3 wM_X16_46 wIn_Jx4a65c_get_915e3 wSe_Jx4a65c_Jx4a65c_get_915e3_of_java_util_List_get__I_Ljava_lang_Object_ wI_Jx4a65c fw_get (by decide) rfl (by decide +kernel) rfl rfl dX16_deskNow_32 ⟨by decide, by decide⟩ (Nat.le_of_ble_eq_true rfl) (⟨Nat.le_of_ble_eq_true rfl, Nat.le_of_ble_eq_true rfl⟩) (fun v33 S1 H locs hp w => ?_)
        obtain ⟨rfl, rfl⟩ := hp
        refine ckC (S := T12) (t := 15) X w (h.e_ta k12 hlt_k12).2 (by decide) rfl wC_X16_105 dX16_deskNow_37 ?_
        refine cV (S := T12) (nA := 0) (As := []) (rest := []) X w hl (h.e_ta k12 hlt_k12).2 (m_X15_isReported G T12 k12 (h.e_ta k12 hlt_k12).2) wY_X15_isReported wM_X16_252 wIn_X15_isReported wSe_X15_X15_isReported wI_X15 (by decide) rfl (by decide +kernel) rfl rfl dX16_deskNow_40 ⟨by decide, by decide⟩ (Nat.le_of_ble_eq_true rfl) (⟨Nat.le_of_ble_eq_true rfl, Nat.le_of_ble_eq_true rfl⟩) (fun v34 S1 H locs hp w => ?_)
        obtain ⟨rfl, rfl⟩ := hp
        refine lv_if_ne (tgt := 49) hx hb dX16_deskNow_43 (by decide) (fun hc43 => ?_) (fun hc43 => ?_)
        · refine lv_aload_n hx hb dX16_deskNow_49 rfl (lv_at hl 3 rfl) ?_
          refine lv_aload_n hx hb dX16_deskNow_50 rfl (lv_at hl 4 rfl) ?_
          refine rE0 ((rfl).trans ((hK_T12.G (t := 16) (i := 0) rfl)).symm) ?_
          refine g_16_9 (S := T12) (x := (some (gG T12 17 9))) X w h.v wF_X16_26 (h.f_ta) dX16_deskNow_51 ?_
          refine lv_iload hx hb dX16_deskNow_54 (lv_at hl 0 rfl) ?_
          refine cF (S := T12) (t := 17) (nA := 1) (As := [.int (nI k12)]) (rest := [.ref (gG (sArr S 39 0 q39_0 5) 39 0)]) X w hl h.l_ta.1 (m_get G T12 ea 9 k12 nt (some (gG T12 15 k12)) h.l_ta hlt_k12 (h.e_ta k12 hlt_k12).1) wY_Jx4a65c_get_915e3 wM_X16_46 wIn_Jx4a65c_get_915e3 wSe_Jx4a65c_Jx4a65c_get_915e3_of_java_util_List_get__I_Ljava_lang_Object_ wI_Jx4a65c fw_get (by decide) rfl (by decide +kernel) rfl rfl dX16_deskNow_56 ⟨by decide, by decide⟩ (Nat.le_of_ble_eq_true rfl) (⟨Nat.le_of_ble_eq_true rfl, Nat.le_of_ble_eq_true rfl⟩) (fun v35 S1 H locs hp w => ?_)
          obtain ⟨rfl, rfl⟩ := hp
          refine ckC (S := T12) (t := 15) X w (h.e_ta k12 hlt_k12).2 (by decide) rfl wC_X16_105 dX16_deskNow_61 ?_
          obtain ⟨g9, hg9, he9⟩ := (h.x_tt k12 hlt_k12).resolve_left (of_decide_eq_true (b2i_t hc43))
          refine g_15_7 (S := T12) (x := (nI g9)) X w (h.e_ta k12 hlt_k12).2 wF_X16_144 (he9) dX16_deskNow_64 ?_
          refine lv_dup2_11 hx hb dX16_deskNow_67 rfl rfl ?_
          refine rE1 ((show gG (sArr S 39 0 q39_0 5) 39 0 = q39_0 from rfl).trans e39_0.symm) ?_
          refine aLdI (S := T12) (t := 39) (v := mA T12 39 0 (nI g9).toNatClampNeg) X w v39_0 (by decide) rfl rfl (by rw [n39_0]; exact nI_vp hg9 (by decide)) rfl dX16_deskNow_68 ?_
          refine lv_topi (fun z36 ez36 => ?_)
          refine lv_iconst (v := 1) hx hb dX16_deskNow_69 (by decide) ?_
          refine lv_iadd hx hb dX16_deskNow_70 ?_
          refine rE2 ((show gG (sArr S 39 0 q39_0 5) 39 0 = q39_0 from rfl).trans e39_0.symm) ?_
          refine aStI (S := T12) (t := 39) X w v39_0 (by decide) rfl rfl (by rw [n39_0]; exact nI_vp hg9 (by decide)) dX16_deskNow_71 (fun H locs w => ?_)
          have h : RI ea (sA T12 39 0 (upd (mA T12 39 0) (nI g9).toNatClampNeg (z36 + 1))) ns nj nm nt nr nq := h.stA (by decide)
          have hK : Kq (hvT [(39, 0), (39, 3)]) hNo hNo S (sA T12 39 0 (upd (mA T12 39 0) (nI g9).toNatClampNeg (z36 + 1))) := hK.sA rfl
          obtain ⟨U37, h, hK_U37, nv39_3', v39_0', n39_0', e39_0', w⟩ : ∃ U37 : HS, (RI ea U37 ns nj nm nt nr nq) ∧ (Kq (hvT [(39, 0), (39, 3)]) hNo hNo S U37) ∧ (¬ vV U37 39 3) ∧ (vV U37 39 0) ∧ (mN U37 39 0 = 5) ∧ (gG U37 39 0 = q39_0) ∧ Wd s0 D cy U37 s.heap H locs := ⟨_, h, hK, nv39_3, v39_0, n39_0, e39_0, w⟩
          clear nv39_3 v39_0 n39_0 e39_0
          have nv39_3 := nv39_3'; clear nv39_3'
          have v39_0 := v39_0'; clear v39_0'
          have n39_0 := n39_0'; clear n39_0'
          have e39_0 := e39_0'; clear e39_0'
          have hK := hK_U37
          refine lv_iinc (v := (v12_3 + 1)) (lv' := [(3, .int (v12_3 + 1)), (5, .int (nI k12)), (4, .int v12_4), (2, .ref (gG (sArr S 39 0 q39_0 5) 39 0)), (0, .ref (gG S 16 0)), (1, .int (nI q))]) hx hb dX16_deskNow_72 hl (k := 2) rfl (rfl) (by decide) rfl (fun ls hl => ?_)
          refine lv_iload hx hb dX16_deskNow_75 (lv_at hl 2 rfl) ?_
          refine lv_aload_n hx hb dX16_deskNow_77 rfl (lv_at hl 4 rfl) ?_
          refine rE0 ((rfl).trans ((hK_U37.G (t := 16) (i := 0) rfl)).symm) ?_
          refine g_16_9 (S := U37) (x := (some (gG U37 17 9))) X w h.v wF_X16_26 (h.f_ta) dX16_deskNow_78 ?_
          refine lv_iload hx hb dX16_deskNow_81 (lv_at hl 1 rfl) ?_
          refine cF (S := U37) (t := 17) (nA := 1) (As := [.int (nI k12)]) (rest := [.int v12_4]) X w hl h.l_ta.1 (m_get G U37 ea 9 k12 nt (some (gG U37 15 k12)) h.l_ta hlt_k12 (h.e_ta k12 hlt_k12).1) wY_Jx4a65c_get_915e3 wM_X16_46 wIn_Jx4a65c_get_915e3 wSe_Jx4a65c_Jx4a65c_get_915e3_of_java_util_List_get__I_Ljava_lang_Object_ wI_Jx4a65c fw_get (by decide) rfl (by decide +kernel) rfl rfl dX16_deskNow_83 ⟨by decide, by decide⟩ (Nat.le_of_ble_eq_true rfl) (⟨Nat.le_of_ble_eq_true rfl, Nat.le_of_ble_eq_true rfl⟩) (fun v38 S1 H locs hp w => ?_)
          obtain ⟨rfl, rfl⟩ := hp
          refine ckC (S := U37) (t := 15) X w (h.e_ta k12 hlt_k12).2 (by decide) rfl wC_X16_105 dX16_deskNow_88 ?_
          refine g_15_13 (S := U37) (x := (mI U37 253 k12)) X w (h.e_ta k12 hlt_k12).2 wF_X16_161 (rfl) dX16_deskNow_91 ?_
          refine lv_iconst (v := 2) hx hb dX16_deskNow_94 (by decide) ?_
          have J103 : ∀ (z103_1 : Bool) (H : Heap) (locs : List Loc) (ls : Array Slot), Wd s0 D cy U37 s.heap H locs → lv_has ls 6 [(3, .int (v12_3 + 1)), (5, .int (nI k12)), (4, .int v12_4), (2, .ref (gG (sArr S 39 0 q39_0 5) 39 0)), (0, .ref (gG S 16 0)), (1, .int (nI q))] → W p l e rm_m_X16_deskNow s m ([.ref (gG S 16 0), .int (nI q)] : List Value).toArray below meth c H locs (0 + 1) (0 + 5) (MQ below (GQ s0 D cy (PXi S)) ([.ref (gG S 16 0), .int (nI q)] : List Value).toArray s rm_m_X16_deskNow.cells rm_m_X16_deskNow.slots (A0 s0)) (F0 m 103 ls [.int (b2i z103_1), .int v12_4]) := by
            intro z103_1 H locs ls  w hl
            refine lv_iadd hx hb dX16_deskNow_103 ?_
            refine lv_istore (lv' := [(4, .int (v12_4 + (b2i z103_1))), (3, .int (v12_3 + 1)), (5, .int (nI k12)), (2, .ref (gG (sArr S 39 0 q39_0 5) 39 0)), (0, .ref (gG S 16 0)), (1, .int (nI q))]) hx hb dX16_deskNow_104 hl (by decide) rfl (fun ls hl => ?_)
            refine lv_iinc (v := nI (k12 + 1)) (lv' := [(5, .int (nI (k12 + 1))), (4, .int (v12_4 + (b2i z103_1))), (3, .int (v12_3 + 1)), (2, .ref (gG (sArr S 39 0 q39_0 5) 39 0)), (0, .ref (gG S 16 0)), (1, .int (nI q))]) hx hb dX16_deskNow_106 hl (k := 2) rfl (nI_1 _) (by decide) rfl (fun ls hl => ?_)
            refine lv_goto (tgt := 12) hx hb dX16_deskNow_109 (by decide) ?_
            exact ih12 (k12 + 1) (v12_4 + (b2i z103_1)) (v12_3 + 1) U37 _ _ _ (by omega) (hlt_k12) (h) (hK) (nv39_3) (v39_0) (n39_0) (e39_0) w (lv_sub hl [0, 1, 2, 3, 4, 5] rfl)
          refine lv_icmp_ne (tgt := 102) hx hb dX16_deskNow_95 (by decide) (fun hc39 => ?_) (fun hc39 => ?_)
          · refine lv_iconst (v := 0) hx hb dX16_deskNow_102 (by decide) ?_
            exact J103 false _ _ _  w (lv_sub hl [0, 1, 2, 3, 4, 5] rfl)
          · refine lv_iconst (v := 1) hx hb dX16_deskNow_98 (by decide) ?_
            refine lv_goto (tgt := 103) hx hb dX16_deskNow_99 (by decide) ?_
            exact J103 true _ _ _  w (lv_sub hl [0, 1, 2, 3, 4, 5] rfl)
        · refine lv_goto (tgt := 106) hx hb dX16_deskNow_46 (by decide) ?_
          refine lv_iinc (v := nI (k12 + 1)) (lv' := [(5, .int (nI (k12 + 1))), (4, .int v12_4), (3, .int v12_3), (2, .ref (gG (sArr S 39 0 q39_0 5) 39 0)), (0, .ref (gG S 16 0)), (1, .int (nI q))]) hx hb dX16_deskNow_106 hl (k := 0) rfl (nI_1 _) (by decide) rfl (fun ls hl => ?_)
          refine lv_goto (tgt := 12) hx hb dX16_deskNow_109 (by decide) ?_
          exact ih12 (k12 + 1) v12_4 v12_3 T12 _ _ _ (by omega) (hlt_k12) (h) (hK) (nv39_3) (v39_0) (n39_0) (e39_0) w (lv_sub hl [0, 1, 2, 3, 4, 5] rfl)
  exact L12 _ 0 0 0 (sArr S 39 0 q39_0 5) _ _ _ (Nat.lt_succ_self _) (Nat.zero_le _) (h) (hK) (nv39_3) (v39_0) (n39_0) (e39_0) w (lv_sub hl [0, 1, 2, 3, 4, 5] rfl)

theorem rMean_nn {A : HS} {nt : Nat} {a : Int32} : FP.Core.dIsNaN (rMean A nt a) = false := by
  unfold rMean
  by_cases g : rCnt (rMqP A a) nt = 0
  · rw [if_pos g]; decide
  · rw [if_neg g]; exact nan_div _ g

theorem dX16_clarityNow_0 : decode cX16_clarityNow 0 = .ok (.iconst 0, 1) := by decide +kernel
theorem dX16_clarityNow_1 : decode cX16_clarityNow 1 = .ok (.istore_n 2, 1) := by decide +kernel
theorem dX16_clarityNow_2 : decode cX16_clarityNow 2 = .ok (.iconst 0, 1) := by decide +kernel
theorem dX16_clarityNow_3 : decode cX16_clarityNow 3 = .ok (.istore_n 3, 1) := by decide +kernel
theorem dX16_clarityNow_4 : decode cX16_clarityNow 4 = .ok (.iconst 0, 1) := by decide +kernel
theorem dX16_clarityNow_5 : decode cX16_clarityNow 5 = .ok (.istore 4, 2) := by decide +kernel
theorem dX16_clarityNow_7 : decode cX16_clarityNow 7 = .ok (.iload 4, 2) := by decide +kernel
theorem dX16_clarityNow_9 : decode cX16_clarityNow 9 = .ok (.aload_n 0, 1) := by decide +kernel
theorem dX16_clarityNow_10 : decode cX16_clarityNow 10 = .ok (.getfield 26, 3) := by decide +kernel
theorem dX16_clarityNow_13 : decode cX16_clarityNow 13 = .ok (.invokeinterface 73 1, 5) := by decide +kernel
theorem dX16_clarityNow_18 : decode cX16_clarityNow 18 = .ok (.if_icmp .ge 77, 3) := by decide +kernel
theorem dX16_clarityNow_21 : decode cX16_clarityNow 21 = .ok (.aload_n 0, 1) := by decide +kernel
theorem dX16_clarityNow_22 : decode cX16_clarityNow 22 = .ok (.getfield 26, 3) := by decide +kernel
theorem dX16_clarityNow_25 : decode cX16_clarityNow 25 = .ok (.iload 4, 2) := by decide +kernel
theorem dX16_clarityNow_27 : decode cX16_clarityNow 27 = .ok (.invokeinterface 46 2, 5) := by decide +kernel
theorem dX16_clarityNow_32 : decode cX16_clarityNow 32 = .ok (.checkcast 105, 3) := by decide +kernel
theorem dX16_clarityNow_35 : decode cX16_clarityNow 35 = .ok (.invokevirtual 252, 3) := by decide +kernel
theorem dX16_clarityNow_38 : decode cX16_clarityNow 38 = .ok (.ifCond .eq 51, 3) := by decide +kernel
theorem dX16_clarityNow_41 : decode cX16_clarityNow 41 = .ok (.aload_n 0, 1) := by decide +kernel
theorem dX16_clarityNow_42 : decode cX16_clarityNow 42 = .ok (.aload_n 0, 1) := by decide +kernel
theorem dX16_clarityNow_43 : decode cX16_clarityNow 43 = .ok (.getfield 26, 3) := by decide +kernel
theorem dX16_clarityNow_46 : decode cX16_clarityNow 46 = .ok (.iload 4, 2) := by decide +kernel
theorem dX16_clarityNow_48 : decode cX16_clarityNow 48 = .ok (.invokeinterface 46 2, 5) := by decide +kernel
theorem dX16_clarityNow_53 : decode cX16_clarityNow 53 = .ok (.checkcast 105, 3) := by decide +kernel
theorem dX16_clarityNow_56 : decode cX16_clarityNow 56 = .ok (.invokevirtual 141, 3) := by decide +kernel
theorem dX16_clarityNow_59 : decode cX16_clarityNow 59 = .ok (.iload_n 1, 1) := by decide +kernel
theorem dX16_clarityNow_60 : decode cX16_clarityNow 60 = .ok (.if_icmp .eq 6, 3) := by decide +kernel
theorem dX16_clarityNow_63 : decode cX16_clarityNow 63 = .ok (.goto 26, 3) := by decide +kernel
theorem dX16_clarityNow_66 : decode cX16_clarityNow 66 = .ok (.iload_n 2, 1) := by decide +kernel
theorem dX16_clarityNow_67 : decode cX16_clarityNow 67 = .ok (.aload_n 0, 1) := by decide +kernel
theorem dX16_clarityNow_68 : decode cX16_clarityNow 68 = .ok (.getfield 26, 3) := by decide +kernel
theorem dX16_clarityNow_71 : decode cX16_clarityNow 71 = .ok (.iload 4, 2) := by decide +kernel
theorem dX16_clarityNow_73 : decode cX16_clarityNow 73 = .ok (.invokeinterface 46 2, 5) := by decide +kernel
theorem dX16_clarityNow_78 : decode cX16_clarityNow 78 = .ok (.checkcast 105, 3) := by decide +kernel
theorem dX16_clarityNow_81 : decode cX16_clarityNow 81 = .ok (.getfield 129, 3) := by decide +kernel
theorem dX16_clarityNow_84 : decode cX16_clarityNow 84 = .ok (.iadd, 1) := by decide +kernel
theorem dX16_clarityNow_85 : decode cX16_clarityNow 85 = .ok (.istore_n 2, 1) := by decide +kernel
theorem dX16_clarityNow_86 : decode cX16_clarityNow 86 = .ok (.iinc 3 1, 3) := by decide +kernel
theorem dX16_clarityNow_89 : decode cX16_clarityNow 89 = .ok (.iinc 4 1, 3) := by decide +kernel
theorem dX16_clarityNow_92 : decode cX16_clarityNow 92 = .ok (.goto (-85), 3) := by decide +kernel
theorem dX16_clarityNow_95 : decode cX16_clarityNow 95 = .ok (.iload_n 3, 1) := by decide +kernel
theorem dX16_clarityNow_96 : decode cX16_clarityNow 96 = .ok (.ifCond .ne 7, 3) := by decide +kernel
theorem dX16_clarityNow_99 : decode cX16_clarityNow 99 = .ok (.dconst 0, 1) := by decide +kernel
theorem dX16_clarityNow_100 : decode cX16_clarityNow 100 = .ok (.goto 8, 3) := by decide +kernel
theorem dX16_clarityNow_103 : decode cX16_clarityNow 103 = .ok (.iload_n 2, 1) := by decide +kernel
theorem dX16_clarityNow_104 : decode cX16_clarityNow 104 = .ok (.i2d, 1) := by decide +kernel
theorem dX16_clarityNow_105 : decode cX16_clarityNow 105 = .ok (.iload_n 3, 1) := by decide +kernel
theorem dX16_clarityNow_106 : decode cX16_clarityNow 106 = .ok (.i2d, 1) := by decide +kernel
theorem dX16_clarityNow_107 : decode cX16_clarityNow 107 = .ok (.ddiv, 1) := by decide +kernel
theorem dX16_clarityNow_108 : decode cX16_clarityNow 108 = .ok (.dreturn, 1) := by decide +kernel
abbrev rm_r_X16_clarityNow : Room := { frames := 4, cells := 0, slots := 0, locals := 85 }
set_option maxHeartbeats 4000000 in
set_option maxRecDepth 100000 in
theorem r_X16_clarityNow {s0 : State} {l : Launch} {D : va_G} {cy : Nat → ClassId} (G : Gl s0 l D cy) (S : HS) (ea ns nj nm nt nr nq : Nat) (h : RI ea S ns nj nm nt nr nq) (land : Int32) : Ctr s0 l D cy yX16_clarityNow cX16_clarityNow 5 (some .double) rm_r_X16_clarityNow S [.ref (gG S 16 0), .int land] (PU S (some (.double (rMean S nt land)))) := by
  refine pro "CavershamShiftModel" G rfl rfl (Nat.le_of_ble_eq_true rfl) (fun p e s m below meth c ls X w hnm hl => ?_)
  have hx := X.1
  have hb := X.2.1
  have hown := X.2.2.2.1
  have hts := X.2.2.2.2.1
  have hl : lv_has ls 5 [(0, .ref (gG S 16 0)), (1, .int land)] := hl
  refine lv_iconst (v := 0) hx hb dX16_clarityNow_0 (by decide) ?_
  refine lv_istore_n (lv' := [(2, .int 0), (0, .ref (gG S 16 0)), (1, .int land)]) hx hb dX16_clarityNow_1 rfl hl (by decide) rfl (fun ls hl => ?_)
  refine lv_iconst (v := 0) hx hb dX16_clarityNow_2 (by decide) ?_
  refine lv_istore_n (lv' := [(3, .int 0), (2, .int 0), (0, .ref (gG S 16 0)), (1, .int land)]) hx hb dX16_clarityNow_3 rfl hl (by decide) rfl (fun ls hl => ?_)
  refine lv_iconst (v := 0) hx hb dX16_clarityNow_4 (by decide) ?_
  refine lv_istore (lv' := [(4, .int 0), (3, .int 0), (2, .int 0), (0, .ref (gG S 16 0)), (1, .int land)]) hx hb dX16_clarityNow_5 hl (by decide) rfl (fun ls hl => ?_)
  have L7 : ∀ (N : Nat) (k : Nat) (y : Int32) (z1 : Int32) (H : Heap) (locs : List Loc) (ls : Array Slot), nt - k < N → (k ≤ nt) → (y = rMqS S land k) → (z1 = rCnt (rMqP S land) k) → Wd s0 D cy S s.heap H locs → lv_has ls 5 [(0, .ref (gG S 16 0)), (1, .int land), (2, .int y), (3, .int z1), (4, .int (nI k))] → W p l e rm_r_X16_clarityNow s m ([.ref (gG S 16 0), .int land] : List Value).toArray below meth c H locs 0 0 (MQ below (GQ s0 D cy (PU S (some (.double (rMean S nt land))))) ([.ref (gG S 16 0), .int land] : List Value).toArray s rm_r_X16_clarityNow.cells rm_r_X16_clarityNow.slots (A0 s0)) (F0 m 7 ls []) := by
    intro N
    induction N with
    | zero => intros; omega
    | succ N ih7 =>
      intro k y z1 H locs ls hmu hk hy hz1 w hl
      refine lv_iload hx hb dX16_clarityNow_7 (lv_at hl 4 rfl) ?_
      refine lv_aload_n hx hb dX16_clarityNow_9 rfl (lv_at hl 0 rfl) ?_
      refine g_16_9 (S := S) (x := (some (gG S 17 9))) X w h.v wF_X16_26 (h.f_ta) dX16_clarityNow_10 ?_
      refine cF (S := S) (t := 17) (nA := 0) (As := []) (rest := [.int (nI k)]) X w hl h.l_ta.1 (m_size G S ea 9 nt h.l_ta) wY_Jx4a65c_size_8abf5 wM_X16_73 wIn_Jx4a65c_size_8abf5 wSe_Jx4a65c_Jx4a65c_size_8abf5_of_java_util_List_size___I wI_Jx4a65c fw_size (by decide) rfl (by decide +kernel) rfl rfl dX16_clarityNow_13 ⟨by decide, by decide⟩ (Nat.le_of_ble_eq_true rfl) (⟨Nat.le_of_ble_eq_true rfl, Nat.le_of_ble_eq_true rfl⟩) (fun v1 S1 H locs hp w => ?_)
      obtain ⟨rfl, rfl⟩ := hp
      refine lv_icmp_ge (tgt := 95) hx hb dX16_clarityNow_18 (by decide) (fun hc9 => ?_) (fun hc9 => ?_)
      · have hge : nt ≤ k := by
          have hb1 := h.b_ta
          exact (nI_leI (by omega) (by omega)).mp hc9
        refine lv_iload_n hx hb dX16_clarityNow_95 rfl (lv_at hl 3 rfl) ?_
        refine lv_if_ne (tgt := 103) hx hb dX16_clarityNow_96 (by decide) (fun hc0 => ?_) (fun hc0 => ?_)
        · refine lv_iload_n hx hb dX16_clarityNow_103 rfl (lv_at hl 2 rfl) ?_
          refine lv_i2d hx hb dX16_clarityNow_104 ?_
          refine lv_iload_n hx hb dX16_clarityNow_105 rfl (lv_at hl 3 rfl) ?_
          refine lv_i2d hx hb dX16_clarityNow_106 ?_
          refine lv_ddiv hx hb dX16_clarityNow_107 (n64_of (nan_div _ hc0)) ?_
          exact rD X w rfl dX16_clarityNow_108 (by decide) (by decide) (pu_d (by unfold rMean; first | (rw [hz1, show k = nt by omega] at hc0; rw [if_neg hc0, hy, hz1, show k = nt by omega]; done) | (rw [hz1, show k = nt by omega] at hc0; rw [if_pos hc0])))
        · refine lv_dconst0 hx hb dX16_clarityNow_99 ?_
          refine lv_goto (tgt := 108) hx hb dX16_clarityNow_100 (by decide) ?_
          exact rD X w rfl dX16_clarityNow_108 (by decide) (by decide) (pu_d (by unfold rMean; first | (rw [hz1, show k = nt by omega] at hc0; rw [if_neg hc0, hy, hz1, show k = nt by omega]; done) | (rw [hz1, show k = nt by omega] at hc0; rw [if_pos hc0])))
      · have hlt : k < nt := by
          have hb1 := h.b_ta
          exact Nat.lt_of_not_le (fun z => hc9 ((nI_leI (by omega) (by omega)).mpr z))
        refine lv_aload_n hx hb dX16_clarityNow_21 rfl (lv_at hl 0 rfl) ?_
        refine g_16_9 (S := S) (x := (some (gG S 17 9))) X w h.v wF_X16_26 (h.f_ta) dX16_clarityNow_22 ?_
        refine lv_iload hx hb dX16_clarityNow_25 (lv_at hl 4 rfl) ?_
        refine cF (S := S) (t := 17) (nA := 1) (As := [.int (nI k)]) (rest := []) X w hl h.l_ta.1 (m_get G S ea 9 k nt (some (gG S 15 k)) h.l_ta hlt (h.e_ta k hlt).1) wY_Jx4a65c_get_915e3 wM_X16_46 wIn_Jx4a65c_get_915e3 wSe_Jx4a65c_Jx4a65c_get_915e3_of_java_util_List_get__I_Ljava_lang_Object_ wI_Jx4a65c fw_get (by decide) rfl (by decide +kernel) rfl rfl dX16_clarityNow_27 ⟨by decide, by decide⟩ (Nat.le_of_ble_eq_true rfl) (⟨Nat.le_of_ble_eq_true rfl, Nat.le_of_ble_eq_true rfl⟩) (fun v2 S1 H locs hp w => ?_)
        obtain ⟨rfl, rfl⟩ := hp
        refine ckC (S := S) (t := 15) X w (h.e_ta k hlt).2 (by decide) rfl wC_X16_105 dX16_clarityNow_32 ?_
        refine cV (S := S) (nA := 0) (As := []) (rest := []) X w hl (h.e_ta k hlt).2 (m_X15_isReported G S k (h.e_ta k hlt).2) wY_X15_isReported wM_X16_252 wIn_X15_isReported wSe_X15_X15_isReported wI_X15 (by decide) rfl (by decide +kernel) rfl rfl dX16_clarityNow_35 ⟨by decide, by decide⟩ (Nat.le_of_ble_eq_true rfl) (⟨Nat.le_of_ble_eq_true rfl, Nat.le_of_ble_eq_true rfl⟩) (fun v3 S1 H locs hp w => ?_)
        obtain ⟨rfl, rfl⟩ := hp
        refine lv_if_eq (tgt := 89) hx hb dX16_clarityNow_38 (by decide) (fun ha => ?_) (fun ha => ?_)
        · have hp : rMqP S land k = false := by unfold rMqP; rw [show decide (¬ mI S 247 k = -1) = false from b2i_f ha, Bool.false_and]
          have hmq := mq_n (a := land) hy hz1 hp
          have hs1 := hmq.1
          have hs2 := hmq.2
          refine lv_iinc (v := nI (k + 1)) (lv' := [(4, .int (nI (k + 1))), (0, .ref (gG S 16 0)), (1, .int land), (2, .int y), (3, .int z1)]) hx hb dX16_clarityNow_89 hl (k := 4) rfl (nI_1 _) (by decide) rfl (fun ls hl => ?_)
          refine lv_goto (tgt := 7) hx hb dX16_clarityNow_92 (by decide) ?_
          exact ih7 (k + 1) y z1 _ _ _ (by omega) (by omega) (hs1) (hs2) w (lv_sub hl [1, 2, 3, 4, 0] rfl)
        · refine lv_aload_n hx hb dX16_clarityNow_41 rfl (lv_at hl 0 rfl) ?_
          refine lv_aload_n hx hb dX16_clarityNow_42 rfl (lv_at hl 0 rfl) ?_
          refine g_16_9 (S := S) (x := (some (gG S 17 9))) X w h.v wF_X16_26 (h.f_ta) dX16_clarityNow_43 ?_
          refine lv_iload hx hb dX16_clarityNow_46 (lv_at hl 4 rfl) ?_
          refine cF (S := S) (t := 17) (nA := 1) (As := [.int (nI k)]) (rest := [.ref (gG S 16 0)]) X w hl h.l_ta.1 (m_get G S ea 9 k nt (some (gG S 15 k)) h.l_ta hlt (h.e_ta k hlt).1) wY_Jx4a65c_get_915e3 wM_X16_46 wIn_Jx4a65c_get_915e3 wSe_Jx4a65c_Jx4a65c_get_915e3_of_java_util_List_get__I_Ljava_lang_Object_ wI_Jx4a65c fw_get (by decide) rfl (by decide +kernel) rfl rfl dX16_clarityNow_48 ⟨by decide, by decide⟩ (Nat.le_of_ble_eq_true rfl) (⟨Nat.le_of_ble_eq_true rfl, Nat.le_of_ble_eq_true rfl⟩) (fun v4 S1 H locs hp w => ?_)
          obtain ⟨rfl, rfl⟩ := hp
          refine ckC (S := S) (t := 15) X w (h.e_ta k hlt).2 (by decide) rfl wC_X16_105 dX16_clarityNow_53 ?_
          refine cV (S := S) (nA := 1) (As := [.ref (gG S 15 k)]) (rest := []) X w hl h.v (m_X16_landOf G S ea ns nj nm nt nr nq h k hlt) wY_X16_landOf wM_X16_141 wIn_X16_landOf wSe_X16_X16_landOf wI_X16 (by decide) rfl (by decide +kernel) rfl rfl dX16_clarityNow_56 ⟨by decide, by decide⟩ (Nat.le_of_ble_eq_true rfl) (⟨Nat.le_of_ble_eq_true rfl, Nat.le_of_ble_eq_true rfl⟩) (fun v5 S1 H locs hp w => ?_)
          obtain ⟨rfl, rfl⟩ := hp
          refine lv_iload_n hx hb dX16_clarityNow_59 rfl (lv_at hl 1 rfl) ?_
          refine lv_icmp_eq (tgt := 66) hx hb dX16_clarityNow_60 (by decide) (fun hbb => ?_) (fun hbb => ?_)
          · have hp : rMqP S land k = true := by unfold rMqP; rw [show decide (¬ mI S 247 k = -1) = true from b2i_t ha, decide_eq_true hbb]; rfl
            have hmq := mq_y (a := land) hy hz1 hp
            have hs1 := hmq.1
            have hs2 := hmq.2
            refine lv_iload_n hx hb dX16_clarityNow_66 rfl (lv_at hl 2 rfl) ?_
            refine lv_aload_n hx hb dX16_clarityNow_67 rfl (lv_at hl 0 rfl) ?_
            refine g_16_9 (S := S) (x := (some (gG S 17 9))) X w h.v wF_X16_26 (h.f_ta) dX16_clarityNow_68 ?_
            refine lv_iload hx hb dX16_clarityNow_71 (lv_at hl 4 rfl) ?_
            refine cF (S := S) (t := 17) (nA := 1) (As := [.int (nI k)]) (rest := [.int y]) X w hl h.l_ta.1 (m_get G S ea 9 k nt (some (gG S 15 k)) h.l_ta hlt (h.e_ta k hlt).1) wY_Jx4a65c_get_915e3 wM_X16_46 wIn_Jx4a65c_get_915e3 wSe_Jx4a65c_Jx4a65c_get_915e3_of_java_util_List_get__I_Ljava_lang_Object_ wI_Jx4a65c fw_get (by decide) rfl (by decide +kernel) rfl rfl dX16_clarityNow_73 ⟨by decide, by decide⟩ (Nat.le_of_ble_eq_true rfl) (⟨Nat.le_of_ble_eq_true rfl, Nat.le_of_ble_eq_true rfl⟩) (fun v6 S1 H locs hp w => ?_)
            obtain ⟨rfl, rfl⟩ := hp
            refine ckC (S := S) (t := 15) X w (h.e_ta k hlt).2 (by decide) rfl wC_X16_105 dX16_clarityNow_78 ?_
            refine g_15_8 (S := S) (x := (mI S 248 k)) X w (h.e_ta k hlt).2 wF_X16_129 (rfl) dX16_clarityNow_81 ?_
            refine lv_iadd hx hb dX16_clarityNow_84 ?_
            refine lv_istore_n (lv' := [(2, .int (y + (mI S 248 k))), (0, .ref (gG S 16 0)), (1, .int land), (3, .int z1), (4, .int (nI k))]) hx hb dX16_clarityNow_85 rfl hl (by decide) rfl (fun ls hl => ?_)
            refine lv_iinc (v := (z1 + 1)) (lv' := [(3, .int (z1 + 1)), (2, .int (y + (mI S 248 k))), (0, .ref (gG S 16 0)), (1, .int land), (4, .int (nI k))]) hx hb dX16_clarityNow_86 hl (k := 3) rfl (rfl) (by decide) rfl (fun ls hl => ?_)
            refine lv_iinc (v := nI (k + 1)) (lv' := [(4, .int (nI (k + 1))), (3, .int (z1 + 1)), (2, .int (y + (mI S 248 k))), (0, .ref (gG S 16 0)), (1, .int land)]) hx hb dX16_clarityNow_89 hl (k := 4) rfl (nI_1 _) (by decide) rfl (fun ls hl => ?_)
            refine lv_goto (tgt := 7) hx hb dX16_clarityNow_92 (by decide) ?_
            exact ih7 (k + 1) (y + (mI S 248 k)) (z1 + 1) _ _ _ (by omega) (by omega) (hs1) (hs2) w (lv_sub hl [3, 4, 2, 1, 0] rfl)
          · have hp : rMqP S land k = false := by unfold rMqP; rw [decide_eq_false hbb, Bool.and_false]
            have hmq := mq_n (a := land) hy hz1 hp
            have hs1 := hmq.1
            have hs2 := hmq.2
            refine lv_goto (tgt := 89) hx hb dX16_clarityNow_63 (by decide) ?_
            refine lv_iinc (v := nI (k + 1)) (lv' := [(4, .int (nI (k + 1))), (0, .ref (gG S 16 0)), (1, .int land), (2, .int y), (3, .int z1)]) hx hb dX16_clarityNow_89 hl (k := 4) rfl (nI_1 _) (by decide) rfl (fun ls hl => ?_)
            refine lv_goto (tgt := 7) hx hb dX16_clarityNow_92 (by decide) ?_
            exact ih7 (k + 1) y z1 _ _ _ (by omega) (by omega) (hs1) (hs2) w (lv_sub hl [1, 2, 3, 4, 0] rfl)
  exact L7 _ 0 0 0 _ _ _ (Nat.lt_succ_self _) (by omega) (rfl) (rfl) w (lv_sub hl [3, 4, 2, 1, 0] rfl)

abbrev rm_m_X16_clarityNow : Room := rm_r_X16_clarityNow
theorem m_X16_clarityNow {s0 : State} {l : Launch} {D : va_G} {cy : Nat → ClassId} (G : Gl s0 l D cy) (S : HS) (ea ns nj nm nt nr nq : Nat) (h : RI ea S ns nj nm nt nr nq) (land : Int32) : Ctr s0 l D cy yX16_clarityNow cX16_clarityNow 5 (some .double) rm_m_X16_clarityNow S [.ref (gG S 16 0), .int land] (PXn S) := (r_X16_clarityNow G S ea ns nj nm nt nr nq h land).post (fun v S9 ⟨e9, e8⟩ => ⟨⟨_, e9, rMean_nn⟩, e8⟩)
def wp (S : HS) (nt : Nat) : Nat := cntB (fun k => decide (mA S 40 0 k = 0)) nt
theorem wp_s {S : HS} {nt b : Nat} (hb : b < nt) (ht : nt ≤ 40) (h0 : mA S 40 0 b = 0) : wp (sA S 40 0 (upd (mA S 40 0) (nI b).toNatClampNeg 1)) nt + 1 ≤ wp S nt := by
  rw [nI_clamp (by omega)]
  have e : mA (sA S 40 0 (upd (mA S 40 0) b 1)) 40 0 = upd (mA S 40 0) b 1 := rfl
  refine cntB_lt nt (fun k _ z => ?_) b hb ?_ (decide_eq_true h0)
  · have z1 := of_decide_eq_true z
    rw [e] at z1
    by_cases c : k = b
    · rw [c] at z1; exact absurd (show (1 : Int32) = 0 by simpa [upd] using z1) (by decide)
    · exact decide_eq_true (by simpa [upd, c] using z1)
  · show decide (mA (sA S 40 0 (upd (mA S 40 0) b 1)) 40 0 b = 0) = false
    rw [e]; simp [upd]

theorem dX16_wouldSendNow_0 : decode cX16_wouldSendNow 0 = .ok (.aload_n 0, 1) := by decide +kernel
theorem dX16_wouldSendNow_1 : decode cX16_wouldSendNow 1 = .ok (.getfield 7, 3) := by decide +kernel
theorem dX16_wouldSendNow_4 : decode cX16_wouldSendNow 4 = .ok (.bipush 10, 2) := by decide +kernel
theorem dX16_wouldSendNow_6 : decode cX16_wouldSendNow 6 = .ok (.aload_n 0, 1) := by decide +kernel
theorem dX16_wouldSendNow_7 : decode cX16_wouldSendNow 7 = .ok (.getfield 32, 3) := by decide +kernel
theorem dX16_wouldSendNow_10 : decode cX16_wouldSendNow 10 = .ok (.invokeinterface 73 1, 5) := by decide +kernel
theorem dX16_wouldSendNow_15 : decode cX16_wouldSendNow 15 = .ok (.aload_n 0, 1) := by decide +kernel
theorem dX16_wouldSendNow_16 : decode cX16_wouldSendNow 16 = .ok (.getfield 7, 3) := by decide +kernel
theorem dX16_wouldSendNow_19 : decode cX16_wouldSendNow 19 = .ok (.bipush 10, 2) := by decide +kernel
theorem dX16_wouldSendNow_21 : decode cX16_wouldSendNow 21 = .ok (.idiv, 1) := by decide +kernel
theorem dX16_wouldSendNow_22 : decode cX16_wouldSendNow 22 = .ok (.invokestatic 367, 3) := by decide +kernel
theorem dX16_wouldSendNow_25 : decode cX16_wouldSendNow 25 = .ok (.imul, 1) := by decide +kernel
theorem dX16_wouldSendNow_26 : decode cX16_wouldSendNow 26 = .ok (.isub, 1) := by decide +kernel
theorem dX16_wouldSendNow_27 : decode cX16_wouldSendNow 27 = .ok (.istore_n 1, 1) := by decide +kernel
theorem dX16_wouldSendNow_28 : decode cX16_wouldSendNow 28 = .ok (.aload_n 0, 1) := by decide +kernel
theorem dX16_wouldSendNow_29 : decode cX16_wouldSendNow 29 = .ok (.getfield 26, 3) := by decide +kernel
theorem dX16_wouldSendNow_32 : decode cX16_wouldSendNow 32 = .ok (.invokeinterface 73 1, 5) := by decide +kernel
theorem dX16_wouldSendNow_37 : decode cX16_wouldSendNow 37 = .ok (.newarray .boolean, 2) := by decide +kernel
theorem dX16_wouldSendNow_39 : decode cX16_wouldSendNow 39 = .ok (.astore_n 2, 1) := by decide +kernel
theorem dX16_wouldSendNow_40 : decode cX16_wouldSendNow 40 = .ok (.iconst 0, 1) := by decide +kernel
theorem dX16_wouldSendNow_41 : decode cX16_wouldSendNow 41 = .ok (.istore_n 3, 1) := by decide +kernel
theorem dX16_wouldSendNow_42 : decode cX16_wouldSendNow 42 = .ok (.aload_n 0, 1) := by decide +kernel
theorem dX16_wouldSendNow_43 : decode cX16_wouldSendNow 43 = .ok (.iload_n 1, 1) := by decide +kernel
theorem dX16_wouldSendNow_44 : decode cX16_wouldSendNow 44 = .ok (.aload_n 2, 1) := by decide +kernel
theorem dX16_wouldSendNow_45 : decode cX16_wouldSendNow 45 = .ok (.invokevirtual 217, 3) := by decide +kernel
theorem dX16_wouldSendNow_48 : decode cX16_wouldSendNow 48 = .ok (.istore 4, 2) := by decide +kernel
theorem dX16_wouldSendNow_50 : decode cX16_wouldSendNow 50 = .ok (.iload 4, 2) := by decide +kernel
theorem dX16_wouldSendNow_52 : decode cX16_wouldSendNow 52 = .ok (.iconst (-1), 1) := by decide +kernel
theorem dX16_wouldSendNow_53 : decode cX16_wouldSendNow 53 = .ok (.if_icmp .eq 42, 3) := by decide +kernel
theorem dX16_wouldSendNow_56 : decode cX16_wouldSendNow 56 = .ok (.iload_n 1, 1) := by decide +kernel
theorem dX16_wouldSendNow_57 : decode cX16_wouldSendNow 57 = .ok (.aload_n 0, 1) := by decide +kernel
theorem dX16_wouldSendNow_58 : decode cX16_wouldSendNow 58 = .ok (.getfield 26, 3) := by decide +kernel
theorem dX16_wouldSendNow_61 : decode cX16_wouldSendNow 61 = .ok (.iload 4, 2) := by decide +kernel
theorem dX16_wouldSendNow_63 : decode cX16_wouldSendNow 63 = .ok (.invokeinterface 46 2, 5) := by decide +kernel
theorem dX16_wouldSendNow_68 : decode cX16_wouldSendNow 68 = .ok (.checkcast 105, 3) := by decide +kernel
theorem dX16_wouldSendNow_71 : decode cX16_wouldSendNow 71 = .ok (.invokevirtual 151, 3) := by decide +kernel
theorem dX16_wouldSendNow_74 : decode cX16_wouldSendNow 74 = .ok (.isub, 1) := by decide +kernel
theorem dX16_wouldSendNow_75 : decode cX16_wouldSendNow 75 = .ok (.istore_n 1, 1) := by decide +kernel
theorem dX16_wouldSendNow_76 : decode cX16_wouldSendNow 76 = .ok (.aload_n 2, 1) := by decide +kernel
theorem dX16_wouldSendNow_77 : decode cX16_wouldSendNow 77 = .ok (.iload 4, 2) := by decide +kernel
theorem dX16_wouldSendNow_79 : decode cX16_wouldSendNow 79 = .ok (.iconst 1, 1) := by decide +kernel
theorem dX16_wouldSendNow_80 : decode cX16_wouldSendNow 80 = .ok (.bastore, 1) := by decide +kernel
theorem dX16_wouldSendNow_81 : decode cX16_wouldSendNow 81 = .ok (.iinc 3 1, 3) := by decide +kernel
theorem dX16_wouldSendNow_84 : decode cX16_wouldSendNow 84 = .ok (.aload_n 0, 1) := by decide +kernel
theorem dX16_wouldSendNow_85 : decode cX16_wouldSendNow 85 = .ok (.iload_n 1, 1) := by decide +kernel
theorem dX16_wouldSendNow_86 : decode cX16_wouldSendNow 86 = .ok (.aload_n 2, 1) := by decide +kernel
theorem dX16_wouldSendNow_87 : decode cX16_wouldSendNow 87 = .ok (.invokevirtual 217, 3) := by decide +kernel
theorem dX16_wouldSendNow_90 : decode cX16_wouldSendNow 90 = .ok (.istore 4, 2) := by decide +kernel
theorem dX16_wouldSendNow_92 : decode cX16_wouldSendNow 92 = .ok (.goto (-42), 3) := by decide +kernel
theorem dX16_wouldSendNow_95 : decode cX16_wouldSendNow 95 = .ok (.iload_n 3, 1) := by decide +kernel
theorem dX16_wouldSendNow_96 : decode cX16_wouldSendNow 96 = .ok (.ireturn, 1) := by decide +kernel
abbrev rm_m_X16_wouldSendNow : Room := { frames := 4, cells := 1, slots := 40, locals := 89 }
set_option maxHeartbeats 4000000 in
set_option maxRecDepth 100000 in
theorem m_X16_wouldSendNow {s0 : State} {l : Launch} {D : va_G} {cy : Nat → ClassId} (G : Gl s0 l D cy) (S : HS) (ea ns nj nm nt nr nq : Nat) (h : RI ea S ns nj nm nt nr nq) (hT : ∀ x ∈ [((40 : Nat), (0 : Nat))], ¬ vV S x.1 x.2) : Ctr s0 l D cy yX16_wouldSendNow cX16_wouldSendNow 5 (some .int) rm_m_X16_wouldSendNow S [.ref (gG S 16 0)] (PXi S) := by
  refine pro "CavershamShiftModel" G rfl rfl (Nat.le_of_ble_eq_true rfl) (fun p e s m below meth c ls X w hnm hl => ?_)
  have hx := X.1
  have hb := X.2.1
  have hown := X.2.2.2.1
  have hts := X.2.2.2.2.1
  have hl : lv_has ls 5 [(0, .ref (gG S 16 0))] := hl
  have h0 := h
  have hK : Kq (hvT [(40, 0)]) hNo hNo S S := Kq.rf
  refine lv_aload_n hx hb dX16_wouldSendNow_0 rfl (lv_at hl 0 rfl) ?_
  refine g_16_2 (S := S) (x := (mI S 258 0)) X w h.v wF_X16_7 (rfl) dX16_wouldSendNow_1 ?_
  refine lv_bipush (v := 10) hx hb dX16_wouldSendNow_4 (by decide) ?_
  refine lv_aload_n hx hb dX16_wouldSendNow_6 rfl (lv_at hl 0 rfl) ?_
  refine g_16_11 (S := S) (x := (some (gG S 17 11))) X w h.v wF_X16_32 (h.f_qu) dX16_wouldSendNow_7 ?_
  refine cF (S := S) (t := 17) (nA := 0) (As := []) (rest := [.int 10, .int (mI S 258 0)]) X w hl h.l_qu.1 (m_size G S ea 11 nq h.l_qu) wY_Jx4a65c_size_8abf5 wM_X16_73 wIn_Jx4a65c_size_8abf5 wSe_Jx4a65c_Jx4a65c_size_8abf5_of_java_util_List_size___I wI_Jx4a65c fw_size (by decide) rfl (by decide +kernel) rfl rfl dX16_wouldSendNow_10 ⟨by decide, by decide⟩ (Nat.le_of_ble_eq_true rfl) (⟨Nat.le_of_ble_eq_true rfl, Nat.le_of_ble_eq_true rfl⟩) (fun v1 S1 H locs hp w => ?_)
  obtain ⟨rfl, rfl⟩ := hp
  refine lv_aload_n hx hb dX16_wouldSendNow_15 rfl (lv_at hl 0 rfl) ?_
  refine g_16_2 (S := S) (x := (mI S 258 0)) X w h.v wF_X16_7 (rfl) dX16_wouldSendNow_16 ?_
  refine lv_bipush (v := 10) hx hb dX16_wouldSendNow_19 (by decide) ?_
  refine lv_idiv hx hb dX16_wouldSendNow_21 (by decide) ?_
  refine va_mmin hx hb (X.2.2.1.trans hl.1.symm) hown (hts _ wM_X16_367) (hts _ wSt_J9_min_7cf53) (hts _ wI_J9) (hts _ wY_J9_min_7cf53) (by decide) (Nat.le_of_ble_eq_true rfl) (Nat.le_of_ble_eq_true rfl) (Nat.le_of_ble_eq_true rfl) dX16_wouldSendNow_22 ?_
  refine lv_imul hx hb dX16_wouldSendNow_25 ?_
  refine lv_isub hx hb dX16_wouldSendNow_26 ?_
  refine lv_istore_n (lv' := [(1, .int ((mI S 258 0) - (10 * (if ((mI S 258 0) / 10) < (nI nq) then ((mI S 258 0) / 10) else (nI nq))))), (0, .ref (gG S 16 0))]) hx hb dX16_wouldSendNow_27 rfl hl (by decide) rfl (fun ls hl => ?_)
  refine lv_aload_n hx hb dX16_wouldSendNow_28 rfl (lv_at hl 1 rfl) ?_
  refine g_16_9 (S := S) (x := (some (gG S 17 9))) X w h.v wF_X16_26 (h.f_ta) dX16_wouldSendNow_29 ?_
  refine cF (S := S) (t := 17) (nA := 0) (As := []) (rest := []) X w hl h.l_ta.1 (m_size G S ea 9 nt h.l_ta) wY_Jx4a65c_size_8abf5 wM_X16_73 wIn_Jx4a65c_size_8abf5 wSe_Jx4a65c_Jx4a65c_size_8abf5_of_java_util_List_size___I wI_Jx4a65c fw_size (by decide) rfl (by decide +kernel) rfl rfl dX16_wouldSendNow_32 ⟨by decide, by decide⟩ (Nat.le_of_ble_eq_true rfl) (⟨Nat.le_of_ble_eq_true rfl, Nat.le_of_ble_eq_true rfl⟩) (fun v2 S1 H locs hp w => ?_)
  obtain ⟨rfl, rfl⟩ := hp
  refine nwI (S := S) (atype := .boolean) (ty := .boolean) (n := nt) X w 40 0 (hT (40, 0) (by decide)) (by decide) rfl rfl (Or.inr (Or.inl ⟨rfl, rfl⟩)) wA_boolean (rfl) (by have := h.b_ta; omega) dX16_wouldSendNow_37 (Nat.le_of_ble_eq_true rfl) (show 0 + nt ≤ 40 by have := h.b_ta; omega) (fun q40_0 S2 H hS2 w => ?_)
  subst hS2
  have v40_0 : vV (sArr S 40 0 q40_0 nt) 40 0 := Or.inr ⟨rfl, rfl⟩
  have n40_0 : mN (sArr S 40 0 q40_0 nt) 40 0 = nt := rfl
  have e40_0 : gG (sArr S 40 0 q40_0 nt) 40 0 = q40_0 := rfl
  have h : RI ea (sArr S 40 0 q40_0 nt) ns nj nm nt nr nq := h.arr (by decide)
  have hK : Kq (hvT [(40, 0)]) hNo hNo S (sArr S 40 0 q40_0 nt) := hK.arr rfl
  refine lv_astore_n (lv' := [(2, .ref (gG (sArr S 40 0 q40_0 nt) 40 0)), (1, .int ((mI S 258 0) - (10 * (if ((mI S 258 0) / 10) < (nI nq) then ((mI S 258 0) / 10) else (nI nq))))), (0, .ref (gG S 16 0))]) hx hb dX16_wouldSendNow_39 rfl hl (by decide) rfl (fun ls hl => ?_)
  refine lv_iconst (v := 0) hx hb dX16_wouldSendNow_40 (by decide) ?_
  refine lv_istore_n (lv' := [(3, .int 0), (2, .ref (gG (sArr S 40 0 q40_0 nt) 40 0)), (1, .int ((mI S 258 0) - (10 * (if ((mI S 258 0) / 10) < (nI nq) then ((mI S 258 0) / 10) else (nI nq))))), (0, .ref (gG S 16 0))]) hx hb dX16_wouldSendNow_41 rfl hl (by decide) rfl (fun ls hl => ?_)
  refine lv_aload_n hx hb dX16_wouldSendNow_42 rfl (lv_at hl 3 rfl) ?_
  refine lv_iload_n hx hb dX16_wouldSendNow_43 rfl (lv_at hl 2 rfl) ?_
  refine lv_aload_n hx hb dX16_wouldSendNow_44 rfl (lv_at hl 1 rfl) ?_
  refine cV (S := (sArr S 40 0 q40_0 nt)) (nA := 2) (As := [.int ((mI S 258 0) - (10 * (if ((mI S 258 0) / 10) < (nI nq) then ((mI S 258 0) / 10) else (nI nq)))), .ref (gG (sArr S 40 0 q40_0 nt) 40 0)]) (rest := []) X w hl h.v (m_X16_next G (sArr S 40 0 q40_0 nt) ea ns nj nm nt nr nq h ((mI S 258 0) - (10 * (if ((mI S 258 0) / 10) < (nI nq) then ((mI S 258 0) / 10) else (nI nq)))) (v40_0) (n40_0)) wY_X16_next wM_X16_217 wIn_X16_next wSe_X16_X16_next wI_X16 (by decide) rfl (by decide +kernel) rfl rfl dX16_wouldSendNow_45 ⟨by decide, by decide⟩ (Nat.le_of_ble_eq_true rfl) (⟨(show 0 + 1 + 0 ≤ 1 by omega), (show 0 + nt + 0 ≤ 40 by have := h.b_ta; omega)⟩) (fun v4 S1 H locs hp w => ?_)
  obtain ⟨⟨x3, hB, rfl⟩, rfl⟩ := hp
  refine lv_istore (lv' := [(4, .int x3), (3, .int 0), (2, .ref (gG (sArr S 40 0 q40_0 nt) 40 0)), (1, .int ((mI S 258 0) - (10 * (if ((mI S 258 0) / 10) < (nI nq) then ((mI S 258 0) / 10) else (nI nq))))), (0, .ref (gG S 16 0))]) hx hb dX16_wouldSendNow_48 hl (by decide) rfl (fun ls hl => ?_)
  have L50 : ∀ (N : Nat) (v50_1 : Int32) (v50_3 : Int32) (v50_4 : Int32) (T50 : HS) (H : Heap) (locs : List Loc) (ls : Array Slot), wp T50 nt < N → (v50_4 = -1 ∨ ∃ b, b < nt ∧ mI T50 247 b = 0 ∧ mA T50 40 0 b = 0 ∧ v50_4 = nI b) → (RI ea T50 ns nj nm nt nr nq) → (Kq (hvT [(40, 0)]) hNo hNo S T50) → (vV T50 40 0) → (mN T50 40 0 = nt) → (gG T50 40 0 = q40_0) → Wd s0 D cy T50 s.heap H locs → lv_has ls 5 [(0, .ref (gG S 16 0)), (1, .int v50_1), (2, .ref (gG (sArr S 40 0 q40_0 nt) 40 0)), (3, .int v50_3), (4, .int v50_4)] → W p l e rm_m_X16_wouldSendNow s m ([.ref (gG S 16 0)] : List Value).toArray below meth c H locs (0 + 1) (0 + nt) (MQ below (GQ s0 D cy (PXi S)) ([.ref (gG S 16 0)] : List Value).toArray s rm_m_X16_wouldSendNow.cells rm_m_X16_wouldSendNow.slots (A0 s0)) (F0 m 50 ls []) := by
    clear v40_0 n40_0 e40_0
    intro N
    induction N with
    | zero => intros; omega
    | succ N ih50 =>
      intro v50_1 v50_3 v50_4 T50 H locs ls hmu hB h hK_T50 v40_0 n40_0 e40_0 w hl
      have hK := hK_T50
      refine lv_iload hx hb dX16_wouldSendNow_50 (lv_at hl 4 rfl) ?_
      refine lv_iconst (v := (-1)) hx hb dX16_wouldSendNow_52 (by decide) ?_
      refine lv_icmp_eq (tgt := 95) hx hb dX16_wouldSendNow_53 (by decide) (fun hbm => ?_) (fun hbm => ?_)
      · refine lv_iload_n hx hb dX16_wouldSendNow_95 rfl (lv_at hl 3 rfl) ?_
        have w := w.offT hK hT
        exact rI X w rfl dX16_wouldSendNow_96 (show 0 + 1 ≤ 1 by decide) (show 0 + nt ≤ 40 by have := h.b_ta; omega) (px_i)
      · obtain ⟨b, hlb, hsb, hpb, rfl⟩ := hB.resolve_left hbm
        refine lv_iload_n hx hb dX16_wouldSendNow_56 rfl (lv_at hl 1 rfl) ?_
        refine lv_aload_n hx hb dX16_wouldSendNow_57 rfl (lv_at hl 0 rfl) ?_
        refine rE0 ((rfl).trans ((hK_T50.G (t := 16) (i := 0) rfl)).symm) ?_
        refine g_16_9 (S := T50) (x := (some (gG T50 17 9))) X w h.v wF_X16_26 (h.f_ta) dX16_wouldSendNow_58 ?_
        refine lv_iload hx hb dX16_wouldSendNow_61 (lv_at hl 4 rfl) ?_
        refine cF (S := T50) (t := 17) (nA := 1) (As := [.int (nI b)]) (rest := [.int v50_1]) X w hl h.l_ta.1 (m_get G T50 ea 9 b nt (some (gG T50 15 b)) h.l_ta hlb (h.e_ta b hlb).1) wY_Jx4a65c_get_915e3 wM_X16_46 wIn_Jx4a65c_get_915e3 wSe_Jx4a65c_Jx4a65c_get_915e3_of_java_util_List_get__I_Ljava_lang_Object_ wI_Jx4a65c fw_get (by decide) rfl (by decide +kernel) rfl rfl dX16_wouldSendNow_63 ⟨by decide, by decide⟩ (Nat.le_of_ble_eq_true rfl) (⟨(show 0 + 1 + 0 ≤ 1 by omega), (show 0 + nt + 0 ≤ 40 by have := h.b_ta; omega)⟩) (fun v5 S1 H locs hp w => ?_)
        obtain ⟨rfl, rfl⟩ := hp
        refine ckC (S := T50) (t := 15) X w (h.e_ta b hlb).2 (by decide) rfl wC_X16_105 dX16_wouldSendNow_68 ?_
        refine cV (S := T50) (nA := 0) (As := []) (rest := [.int v50_1]) X w hl (h.e_ta b hlb).2 (m_X15_length G T50 b (h.e_ta b hlb).2) wY_X15_length wM_X16_151 wIn_X15_length wSe_X15_X15_length wI_X15 (by decide) rfl (by decide +kernel) rfl rfl dX16_wouldSendNow_71 ⟨by decide, by decide⟩ (Nat.le_of_ble_eq_true rfl) (⟨(show 0 + 1 + 0 ≤ 1 by omega), (show 0 + nt + 0 ≤ 40 by have := h.b_ta; omega)⟩) (fun v6 S1 H locs hp w => ?_)
        obtain ⟨rfl, rfl⟩ := hp
        refine lv_isub hx hb dX16_wouldSendNow_74 ?_
        refine lv_istore_n (lv' := [(1, .int (v50_1 - (rLen (mI T50 244 b) (mI T50 243 b) (mI T50 248 b)))), (0, .ref (gG S 16 0)), (2, .ref (gG (sArr S 40 0 q40_0 nt) 40 0)), (3, .int v50_3), (4, .int (nI b))]) hx hb dX16_wouldSendNow_75 rfl hl (by decide) rfl (fun ls hl => ?_)
        refine lv_aload_n hx hb dX16_wouldSendNow_76 rfl (lv_at hl 2 rfl) ?_
        refine lv_iload hx hb dX16_wouldSendNow_77 (lv_at hl 4 rfl) ?_
        refine lv_iconst (v := 1) hx hb dX16_wouldSendNow_79 (by decide) ?_
        refine rE2 ((show gG (sArr S 40 0 q40_0 nt) 40 0 = q40_0 from rfl).trans e40_0.symm) ?_
        refine aStZ (S := T50) (t := 40) X w v40_0 (by decide) rfl rfl (Or.inr rfl) (by rw [n40_0]; exact nI_vp hlb (by have := h.b_ta; omega)) dX16_wouldSendNow_80 (fun H locs w => ?_)
        have h : RI ea (sA T50 40 0 (upd (mA T50 40 0) (nI b).toNatClampNeg 1)) ns nj nm nt nr nq := h.stA (by decide)
        have hK : Kq (hvT [(40, 0)]) hNo hNo S (sA T50 40 0 (upd (mA T50 40 0) (nI b).toNatClampNeg 1)) := hK.sA rfl
        have hdec : wp (sA T50 40 0 (upd (mA T50 40 0) (nI b).toNatClampNeg 1)) nt + 1 ≤ wp T50 nt := wp_s hlb h.b_ta hpb
        refine lv_iinc (v := (v50_3 + 1)) (lv' := [(3, .int (v50_3 + 1)), (1, .int (v50_1 - (rLen (mI T50 244 b) (mI T50 243 b) (mI T50 248 b)))), (0, .ref (gG S 16 0)), (2, .ref (gG (sArr S 40 0 q40_0 nt) 40 0)), (4, .int (nI b))]) hx hb dX16_wouldSendNow_81 hl (k := 3) rfl (rfl) (by decide) rfl (fun ls hl => ?_)
        refine lv_aload_n hx hb dX16_wouldSendNow_84 rfl (lv_at hl 2 rfl) ?_
        refine lv_iload_n hx hb dX16_wouldSendNow_85 rfl (lv_at hl 1 rfl) ?_
        refine lv_aload_n hx hb dX16_wouldSendNow_86 rfl (lv_at hl 3 rfl) ?_
        refine rE0 ((show gG (sArr S 40 0 q40_0 nt) 40 0 = q40_0 from rfl).trans e40_0.symm) ?_
        refine rE2 ((rfl).trans ((hK_T50.G (t := 16) (i := 0) rfl)).symm) ?_
        refine cV (S := (sA T50 40 0 (upd (mA T50 40 0) (nI b).toNatClampNeg 1))) (nA := 2) (As := [.int (v50_1 - (rLen (mI T50 244 b) (mI T50 243 b) (mI T50 248 b))), .ref (gG (sA T50 40 0 (upd (mA T50 40 0) (nI b).toNatClampNeg 1)) 40 0)]) (rest := []) X w hl h.v (m_X16_next G (sA T50 40 0 (upd (mA T50 40 0) (nI b).toNatClampNeg 1)) ea ns nj nm nt nr nq h (v50_1 - (rLen (mI T50 244 b) (mI T50 243 b) (mI T50 248 b))) (v40_0) (n40_0)) wY_X16_next wM_X16_217 wIn_X16_next wSe_X16_X16_next wI_X16 (by decide) rfl (by decide +kernel) rfl rfl dX16_wouldSendNow_87 ⟨by decide, by decide⟩ (Nat.le_of_ble_eq_true rfl) (⟨(show 0 + 1 + 0 ≤ 1 by omega), (show 0 + nt + 0 ≤ 40 by have := h.b_ta; omega)⟩) (fun v8 S1 H locs hp w => ?_)
        obtain ⟨⟨x7, hB, rfl⟩, rfl⟩ := hp
        refine lv_istore (lv' := [(4, .int x7), (3, .int (v50_3 + 1)), (1, .int (v50_1 - (rLen (mI T50 244 b) (mI T50 243 b) (mI T50 248 b)))), (0, .ref (gG S 16 0)), (2, .ref (gG (sArr S 40 0 q40_0 nt) 40 0))]) hx hb dX16_wouldSendNow_90 hl (by decide) rfl (fun ls hl => ?_)
        refine lv_goto (tgt := 50) hx hb dX16_wouldSendNow_92 (by decide) ?_
        exact ih50 (v50_1 - (rLen (mI T50 244 b) (mI T50 243 b) (mI T50 248 b))) (v50_3 + 1) x7 (sA T50 40 0 (upd (mA T50 40 0) (nI b).toNatClampNeg 1)) _ _ _ (by omega) (hB) (h) (hK) (v40_0) (n40_0) (e40_0) w (lv_sub hl [3, 2, 4, 1, 0] rfl)
  exact L50 _ ((mI S 258 0) - (10 * (if ((mI S 258 0) / 10) < (nI nq) then ((mI S 258 0) / 10) else (nI nq)))) 0 x3 (sArr S 40 0 q40_0 nt) _ _ _ (Nat.lt_succ_self _) (hB) (h) (hK) (v40_0) (n40_0) (e40_0) w (lv_sub hl [4, 3, 2, 1, 0] rfl)

theorem dX16_isSoundNow_0 : decode cX16_isSoundNow 0 = .ok (.iconst 0, 1) := by decide +kernel
theorem dX16_isSoundNow_1 : decode cX16_isSoundNow 1 = .ok (.istore_n 1, 1) := by decide +kernel
theorem dX16_isSoundNow_2 : decode cX16_isSoundNow 2 = .ok (.iload_n 1, 1) := by decide +kernel
theorem dX16_isSoundNow_3 : decode cX16_isSoundNow 3 = .ok (.bipush 24, 2) := by decide +kernel
theorem dX16_isSoundNow_5 : decode cX16_isSoundNow 5 = .ok (.if_icmp .ge 68, 3) := by decide +kernel
theorem dX16_isSoundNow_8 : decode cX16_isSoundNow 8 = .ok (.iconst 0, 1) := by decide +kernel
theorem dX16_isSoundNow_9 : decode cX16_isSoundNow 9 = .ok (.istore_n 2, 1) := by decide +kernel
theorem dX16_isSoundNow_10 : decode cX16_isSoundNow 10 = .ok (.iload_n 2, 1) := by decide +kernel
theorem dX16_isSoundNow_11 : decode cX16_isSoundNow 11 = .ok (.iconst 3, 1) := by decide +kernel
theorem dX16_isSoundNow_12 : decode cX16_isSoundNow 12 = .ok (.if_icmp .ge 55, 3) := by decide +kernel
theorem dX16_isSoundNow_15 : decode cX16_isSoundNow 15 = .ok (.iconst 0, 1) := by decide +kernel
theorem dX16_isSoundNow_16 : decode cX16_isSoundNow 16 = .ok (.istore_n 3, 1) := by decide +kernel
theorem dX16_isSoundNow_17 : decode cX16_isSoundNow 17 = .ok (.iload_n 3, 1) := by decide +kernel
theorem dX16_isSoundNow_18 : decode cX16_isSoundNow 18 = .ok (.iload_n 2, 1) := by decide +kernel
theorem dX16_isSoundNow_19 : decode cX16_isSoundNow 19 = .ok (.if_icmp .ge 42, 3) := by decide +kernel
theorem dX16_isSoundNow_22 : decode cX16_isSoundNow 22 = .ok (.aload_n 0, 1) := by decide +kernel
theorem dX16_isSoundNow_23 : decode cX16_isSoundNow 23 = .ok (.getfield 40, 3) := by decide +kernel
theorem dX16_isSoundNow_26 : decode cX16_isSoundNow 26 = .ok (.iload_n 1, 1) := by decide +kernel
theorem dX16_isSoundNow_27 : decode cX16_isSoundNow 27 = .ok (.aaload, 1) := by decide +kernel
theorem dX16_isSoundNow_28 : decode cX16_isSoundNow 28 = .ok (.iload_n 2, 1) := by decide +kernel
theorem dX16_isSoundNow_29 : decode cX16_isSoundNow 29 = .ok (.iaload, 1) := by decide +kernel
theorem dX16_isSoundNow_30 : decode cX16_isSoundNow 30 = .ok (.iconst (-1), 1) := by decide +kernel
theorem dX16_isSoundNow_31 : decode cX16_isSoundNow 31 = .ok (.if_icmp .eq 24, 3) := by decide +kernel
theorem dX16_isSoundNow_34 : decode cX16_isSoundNow 34 = .ok (.aload_n 0, 1) := by decide +kernel
theorem dX16_isSoundNow_35 : decode cX16_isSoundNow 35 = .ok (.getfield 40, 3) := by decide +kernel
theorem dX16_isSoundNow_38 : decode cX16_isSoundNow 38 = .ok (.iload_n 1, 1) := by decide +kernel
theorem dX16_isSoundNow_39 : decode cX16_isSoundNow 39 = .ok (.aaload, 1) := by decide +kernel
theorem dX16_isSoundNow_40 : decode cX16_isSoundNow 40 = .ok (.iload_n 2, 1) := by decide +kernel
theorem dX16_isSoundNow_41 : decode cX16_isSoundNow 41 = .ok (.iaload, 1) := by decide +kernel
theorem dX16_isSoundNow_42 : decode cX16_isSoundNow 42 = .ok (.aload_n 0, 1) := by decide +kernel
theorem dX16_isSoundNow_43 : decode cX16_isSoundNow 43 = .ok (.getfield 40, 3) := by decide +kernel
theorem dX16_isSoundNow_46 : decode cX16_isSoundNow 46 = .ok (.iload_n 1, 1) := by decide +kernel
theorem dX16_isSoundNow_47 : decode cX16_isSoundNow 47 = .ok (.aaload, 1) := by decide +kernel
theorem dX16_isSoundNow_48 : decode cX16_isSoundNow 48 = .ok (.iload_n 3, 1) := by decide +kernel
theorem dX16_isSoundNow_49 : decode cX16_isSoundNow 49 = .ok (.iaload, 1) := by decide +kernel
theorem dX16_isSoundNow_50 : decode cX16_isSoundNow 50 = .ok (.if_icmp .ne 5, 3) := by decide +kernel
theorem dX16_isSoundNow_53 : decode cX16_isSoundNow 53 = .ok (.iconst 0, 1) := by decide +kernel
theorem dX16_isSoundNow_54 : decode cX16_isSoundNow 54 = .ok (.ireturn, 1) := by decide +kernel
theorem dX16_isSoundNow_55 : decode cX16_isSoundNow 55 = .ok (.iinc 3 1, 3) := by decide +kernel
theorem dX16_isSoundNow_58 : decode cX16_isSoundNow 58 = .ok (.goto (-41), 3) := by decide +kernel
theorem dX16_isSoundNow_61 : decode cX16_isSoundNow 61 = .ok (.iinc 2 1, 3) := by decide +kernel
theorem dX16_isSoundNow_64 : decode cX16_isSoundNow 64 = .ok (.goto (-54), 3) := by decide +kernel
theorem dX16_isSoundNow_67 : decode cX16_isSoundNow 67 = .ok (.iinc 1 1, 3) := by decide +kernel
theorem dX16_isSoundNow_70 : decode cX16_isSoundNow 70 = .ok (.goto (-68), 3) := by decide +kernel
theorem dX16_isSoundNow_73 : decode cX16_isSoundNow 73 = .ok (.iconst 0, 1) := by decide +kernel
theorem dX16_isSoundNow_74 : decode cX16_isSoundNow 74 = .ok (.istore_n 1, 1) := by decide +kernel
theorem dX16_isSoundNow_75 : decode cX16_isSoundNow 75 = .ok (.iload_n 1, 1) := by decide +kernel
theorem dX16_isSoundNow_76 : decode cX16_isSoundNow 76 = .ok (.aload_n 0, 1) := by decide +kernel
theorem dX16_isSoundNow_77 : decode cX16_isSoundNow 77 = .ok (.getfield 26, 3) := by decide +kernel
theorem dX16_isSoundNow_80 : decode cX16_isSoundNow 80 = .ok (.invokeinterface 73 1, 5) := by decide +kernel
theorem dX16_isSoundNow_85 : decode cX16_isSoundNow 85 = .ok (.if_icmp .ge 91, 3) := by decide +kernel
theorem dX16_isSoundNow_88 : decode cX16_isSoundNow 88 = .ok (.aload_n 0, 1) := by decide +kernel
theorem dX16_isSoundNow_89 : decode cX16_isSoundNow 89 = .ok (.getfield 26, 3) := by decide +kernel
theorem dX16_isSoundNow_92 : decode cX16_isSoundNow 92 = .ok (.iload_n 1, 1) := by decide +kernel
theorem dX16_isSoundNow_93 : decode cX16_isSoundNow 93 = .ok (.invokeinterface 46 2, 5) := by decide +kernel
theorem dX16_isSoundNow_98 : decode cX16_isSoundNow 98 = .ok (.checkcast 105, 3) := by decide +kernel
theorem dX16_isSoundNow_101 : decode cX16_isSoundNow 101 = .ok (.astore_n 2, 1) := by decide +kernel
theorem dX16_isSoundNow_102 : decode cX16_isSoundNow 102 = .ok (.iconst 0, 1) := by decide +kernel
theorem dX16_isSoundNow_103 : decode cX16_isSoundNow 103 = .ok (.istore_n 3, 1) := by decide +kernel
theorem dX16_isSoundNow_104 : decode cX16_isSoundNow 104 = .ok (.iload_n 3, 1) := by decide +kernel
theorem dX16_isSoundNow_105 : decode cX16_isSoundNow 105 = .ok (.aload_n 0, 1) := by decide +kernel
theorem dX16_isSoundNow_106 : decode cX16_isSoundNow 106 = .ok (.getfield 29, 3) := by decide +kernel
theorem dX16_isSoundNow_109 : decode cX16_isSoundNow 109 = .ok (.invokeinterface 73 1, 5) := by decide +kernel
theorem dX16_isSoundNow_114 : decode cX16_isSoundNow 114 = .ok (.if_icmp .ge 40, 3) := by decide +kernel
theorem dX16_isSoundNow_117 : decode cX16_isSoundNow 117 = .ok (.aload_n 0, 1) := by decide +kernel
theorem dX16_isSoundNow_118 : decode cX16_isSoundNow 118 = .ok (.getfield 29, 3) := by decide +kernel
theorem dX16_isSoundNow_121 : decode cX16_isSoundNow 121 = .ok (.iload_n 3, 1) := by decide +kernel
theorem dX16_isSoundNow_122 : decode cX16_isSoundNow 122 = .ok (.invokeinterface 46 2, 5) := by decide +kernel
theorem dX16_isSoundNow_127 : decode cX16_isSoundNow 127 = .ok (.checkcast 177, 3) := by decide +kernel
theorem dX16_isSoundNow_130 : decode cX16_isSoundNow 130 = .ok (.getfield 179, 3) := by decide +kernel
theorem dX16_isSoundNow_133 : decode cX16_isSoundNow 133 = .ok (.iload_n 1, 1) := by decide +kernel
theorem dX16_isSoundNow_134 : decode cX16_isSoundNow 134 = .ok (.iaload, 1) := by decide +kernel
theorem dX16_isSoundNow_135 : decode cX16_isSoundNow 135 = .ok (.ifCond .le 13, 3) := by decide +kernel
theorem dX16_isSoundNow_138 : decode cX16_isSoundNow 138 = .ok (.aload_n 2, 1) := by decide +kernel
theorem dX16_isSoundNow_139 : decode cX16_isSoundNow 139 = .ok (.getfield 144, 3) := by decide +kernel
theorem dX16_isSoundNow_142 : decode cX16_isSoundNow 142 = .ok (.iconst 1, 1) := by decide +kernel
theorem dX16_isSoundNow_143 : decode cX16_isSoundNow 143 = .ok (.if_icmp .eq 5, 3) := by decide +kernel
theorem dX16_isSoundNow_146 : decode cX16_isSoundNow 146 = .ok (.iconst 0, 1) := by decide +kernel
theorem dX16_isSoundNow_147 : decode cX16_isSoundNow 147 = .ok (.ireturn, 1) := by decide +kernel
theorem dX16_isSoundNow_148 : decode cX16_isSoundNow 148 = .ok (.iinc 3 1, 3) := by decide +kernel
theorem dX16_isSoundNow_151 : decode cX16_isSoundNow 151 = .ok (.goto (-47), 3) := by decide +kernel
theorem dX16_isSoundNow_154 : decode cX16_isSoundNow 154 = .ok (.aload_n 2, 1) := by decide +kernel
theorem dX16_isSoundNow_155 : decode cX16_isSoundNow 155 = .ok (.getfield 161, 3) := by decide +kernel
theorem dX16_isSoundNow_158 : decode cX16_isSoundNow 158 = .ok (.ifCond .eq 12, 3) := by decide +kernel
theorem dX16_isSoundNow_161 : decode cX16_isSoundNow 161 = .ok (.aload_n 2, 1) := by decide +kernel
theorem dX16_isSoundNow_162 : decode cX16_isSoundNow 162 = .ok (.invokevirtual 157, 3) := by decide +kernel
theorem dX16_isSoundNow_165 : decode cX16_isSoundNow 165 = .ok (.ifCond .ne 5, 3) := by decide +kernel
theorem dX16_isSoundNow_168 : decode cX16_isSoundNow 168 = .ok (.iconst 0, 1) := by decide +kernel
theorem dX16_isSoundNow_169 : decode cX16_isSoundNow 169 = .ok (.ireturn, 1) := by decide +kernel
theorem dX16_isSoundNow_170 : decode cX16_isSoundNow 170 = .ok (.iinc 1 1, 3) := by decide +kernel
theorem dX16_isSoundNow_173 : decode cX16_isSoundNow 173 = .ok (.goto (-98), 3) := by decide +kernel
theorem dX16_isSoundNow_176 : decode cX16_isSoundNow 176 = .ok (.aload_n 0, 1) := by decide +kernel
theorem dX16_isSoundNow_177 : decode cX16_isSoundNow 177 = .ok (.bipush 7, 2) := by decide +kernel
theorem dX16_isSoundNow_179 : decode cX16_isSoundNow 179 = .ok (.invokevirtual 310, 3) := by decide +kernel
theorem dX16_isSoundNow_182 : decode cX16_isSoundNow 182 = .ok (.aload_n 0, 1) := by decide +kernel
theorem dX16_isSoundNow_183 : decode cX16_isSoundNow 183 = .ok (.bipush 8, 2) := by decide +kernel
theorem dX16_isSoundNow_185 : decode cX16_isSoundNow 185 = .ok (.invokevirtual 310, 3) := by decide +kernel
theorem dX16_isSoundNow_188 : decode cX16_isSoundNow 188 = .ok (.aload_n 0, 1) := by decide +kernel
theorem dX16_isSoundNow_189 : decode cX16_isSoundNow 189 = .ok (.bipush 9, 2) := by decide +kernel
theorem dX16_isSoundNow_191 : decode cX16_isSoundNow 191 = .ok (.invokevirtual 310, 3) := by decide +kernel
theorem dX16_isSoundNow_194 : decode cX16_isSoundNow 194 = .ok (.iadd, 1) := by decide +kernel
theorem dX16_isSoundNow_195 : decode cX16_isSoundNow 195 = .ok (.aload_n 0, 1) := by decide +kernel
theorem dX16_isSoundNow_196 : decode cX16_isSoundNow 196 = .ok (.bipush 10, 2) := by decide +kernel
theorem dX16_isSoundNow_198 : decode cX16_isSoundNow 198 = .ok (.invokevirtual 310, 3) := by decide +kernel
theorem dX16_isSoundNow_201 : decode cX16_isSoundNow 201 = .ok (.iadd, 1) := by decide +kernel
theorem dX16_isSoundNow_202 : decode cX16_isSoundNow 202 = .ok (.aload_n 0, 1) := by decide +kernel
theorem dX16_isSoundNow_203 : decode cX16_isSoundNow 203 = .ok (.bipush 11, 2) := by decide +kernel
theorem dX16_isSoundNow_205 : decode cX16_isSoundNow 205 = .ok (.invokevirtual 310, 3) := by decide +kernel
theorem dX16_isSoundNow_208 : decode cX16_isSoundNow 208 = .ok (.iadd, 1) := by decide +kernel
theorem dX16_isSoundNow_209 : decode cX16_isSoundNow 209 = .ok (.aload_n 0, 1) := by decide +kernel
theorem dX16_isSoundNow_210 : decode cX16_isSoundNow 210 = .ok (.bipush 12, 2) := by decide +kernel
theorem dX16_isSoundNow_212 : decode cX16_isSoundNow 212 = .ok (.invokevirtual 310, 3) := by decide +kernel
theorem dX16_isSoundNow_215 : decode cX16_isSoundNow 215 = .ok (.iadd, 1) := by decide +kernel
theorem dX16_isSoundNow_216 : decode cX16_isSoundNow 216 = .ok (.if_icmp .ne 21, 3) := by decide +kernel
theorem dX16_isSoundNow_219 : decode cX16_isSoundNow 219 = .ok (.aload_n 0, 1) := by decide +kernel
theorem dX16_isSoundNow_220 : decode cX16_isSoundNow 220 = .ok (.getfield 7, 3) := by decide +kernel
theorem dX16_isSoundNow_223 : decode cX16_isSoundNow 223 = .ok (.iconst 0, 1) := by decide +kernel
theorem dX16_isSoundNow_224 : decode cX16_isSoundNow 224 = .ok (.sipush 600, 3) := by decide +kernel
theorem dX16_isSoundNow_227 : decode cX16_isSoundNow 227 = .ok (.invokestatic 224, 3) := by decide +kernel
theorem dX16_isSoundNow_230 : decode cX16_isSoundNow 230 = .ok (.ifCond .eq 7, 3) := by decide +kernel
theorem dX16_isSoundNow_233 : decode cX16_isSoundNow 233 = .ok (.iconst 1, 1) := by decide +kernel
theorem dX16_isSoundNow_234 : decode cX16_isSoundNow 234 = .ok (.goto 4, 3) := by decide +kernel
theorem dX16_isSoundNow_237 : decode cX16_isSoundNow 237 = .ok (.iconst 0, 1) := by decide +kernel
theorem dX16_isSoundNow_238 : decode cX16_isSoundNow 238 = .ok (.ireturn, 1) := by decide +kernel
abbrev rm_m_X16_isSoundNow : Room := { frames := 4, cells := 12, slots := 144, locals := 89 }
set_option maxHeartbeats 4000000 in
set_option maxRecDepth 100000 in
theorem m_X16_isSoundNow {s0 : State} {l : Launch} {D : va_G} {cy : Nat → ClassId} (G : Gl s0 l D cy) (S : HS) (ea ns nj nm nt nr nq : Nat) (h : RI ea S ns nj nm nt nr nq) (hT : ∀ x ∈ [((39 : Nat), (0 : Nat)), (39, 3)], ¬ vV S x.1 x.2) : Ctr s0 l D cy yX16_isSoundNow cX16_isSoundNow 4 (some .boolean) rm_m_X16_isSoundNow S [.ref (gG S 16 0)] (PXz S) := by
  refine pro "CavershamShiftModel" G rfl rfl (Nat.le_of_ble_eq_true rfl) (fun p e s m below meth c ls X w hnm hl => ?_)
  have hx := X.1
  have hb := X.2.1
  have hown := X.2.2.2.1
  have hts := X.2.2.2.2.1
  have hl : lv_has ls 4 [(0, .ref (gG S 16 0))] := hl
  refine lv_iconst (v := 0) hx hb dX16_isSoundNow_0 (by decide) ?_
  refine lv_istore_n (lv' := [(1, .int 0), (0, .ref (gG S 16 0))]) hx hb dX16_isSoundNow_1 rfl hl (by decide) rfl (fun ls hl => ?_)
  have L2 : ∀ (N : Nat) (ka : Nat) (H : Heap) (locs : List Loc) (ls : Array Slot), 24 - ka < N → (ka ≤ 24) → Wd s0 D cy S s.heap H locs → lv_has ls 4 [(1, .int (nI ka)), (0, .ref (gG S 16 0))] → W p l e rm_m_X16_isSoundNow s m ([.ref (gG S 16 0)] : List Value).toArray below meth c H locs 0 0 (MQ below (GQ s0 D cy (PXz S)) ([.ref (gG S 16 0)] : List Value).toArray s rm_m_X16_isSoundNow.cells rm_m_X16_isSoundNow.slots (A0 s0)) (F0 m 2 ls []) := by
    intro N
    induction N with
    | zero => intros; omega
    | succ N ih2 =>
      intro ka H locs ls hmu hk_ka w hl
      refine lv_iload_n hx hb dX16_isSoundNow_2 rfl (lv_at hl 0 rfl) ?_
      refine lv_bipush (v := 24) hx hb dX16_isSoundNow_3 (by decide) ?_
      refine lv_icmp_ge (tgt := 73) hx hb dX16_isSoundNow_5 (by decide) (fun hc_ka => ?_) (fun hc_ka => ?_)
      · have hge_ka : 24 ≤ ka := by
          skip
          exact (nI_leI (a := 24) (b := ka) (by omega) (by omega)).mp hc_ka
        refine lv_iconst (v := 0) hx hb dX16_isSoundNow_73 (by decide) ?_
        refine lv_istore_n (lv' := [(1, .int 0), (0, .ref (gG S 16 0))]) hx hb dX16_isSoundNow_74 rfl hl (by decide) rfl (fun ls hl => ?_)
        have L75 : ∀ (N : Nat) (kd : Nat) (H : Heap) (locs : List Loc) (ls : Array Slot), nt - kd < N → (kd ≤ nt) → Wd s0 D cy S s.heap H locs → lv_has ls 4 [(1, .int (nI kd)), (0, .ref (gG S 16 0))] → W p l e rm_m_X16_isSoundNow s m ([.ref (gG S 16 0)] : List Value).toArray below meth c H locs 0 0 (MQ below (GQ s0 D cy (PXz S)) ([.ref (gG S 16 0)] : List Value).toArray s rm_m_X16_isSoundNow.cells rm_m_X16_isSoundNow.slots (A0 s0)) (F0 m 75 ls []) := by
          intro N
          induction N with
          | zero => intros; omega
          | succ N ih75 =>
            intro kd H locs ls hmu hk_kd w hl
            refine lv_iload_n hx hb dX16_isSoundNow_75 rfl (lv_at hl 0 rfl) ?_
            refine lv_aload_n hx hb dX16_isSoundNow_76 rfl (lv_at hl 1 rfl) ?_
            refine g_16_9 (S := S) (x := (some (gG S 17 9))) X w h.v wF_X16_26 (h.f_ta) dX16_isSoundNow_77 ?_
            refine cF (S := S) (t := 17) (nA := 0) (As := []) (rest := [.int (nI kd)]) X w hl h.l_ta.1 (m_size G S ea 9 nt h.l_ta) wY_Jx4a65c_size_8abf5 wM_X16_73 wIn_Jx4a65c_size_8abf5 wSe_Jx4a65c_Jx4a65c_size_8abf5_of_java_util_List_size___I wI_Jx4a65c fw_size (by decide) rfl (by decide +kernel) rfl rfl dX16_isSoundNow_80 ⟨by decide, by decide⟩ (Nat.le_of_ble_eq_true rfl) (⟨Nat.le_of_ble_eq_true rfl, Nat.le_of_ble_eq_true rfl⟩) (fun v1 S1 H locs hp w => ?_)
            obtain ⟨rfl, rfl⟩ := hp
            refine lv_icmp_ge (tgt := 176) hx hb dX16_isSoundNow_85 (by decide) (fun hc_kd => ?_) (fun hc_kd => ?_)
            · have hge_kd : nt ≤ kd := by
                have hb1 := h.b_ta
                exact (nI_leI (a := nt) (b := kd) (by omega) (by omega)).mp hc_kd
              refine lv_aload_n hx hb dX16_isSoundNow_176 rfl (lv_at hl 1 rfl) ?_
              refine lv_bipush (v := 7) hx hb dX16_isSoundNow_177 (by decide) ?_
              refine cV (S := S) (nA := 1) (As := [.int 7]) (rest := []) X w hl h.v (m_X16_deskNow G S ea ns nj nm nt nr nq h 7 (by decide) (hT)) wY_X16_deskNow wM_X16_310 wIn_X16_deskNow wSe_X16_X16_deskNow wI_X16 (by decide) rfl (by decide +kernel) rfl rfl dX16_isSoundNow_179 ⟨by decide, by decide⟩ (Nat.le_of_ble_eq_true rfl) (⟨Nat.le_of_ble_eq_true rfl, Nat.le_of_ble_eq_true rfl⟩) (fun v3 S1 H locs hp w => ?_)
              obtain ⟨⟨x2, rfl⟩, rfl⟩ := hp
              refine lv_aload_n hx hb dX16_isSoundNow_182 rfl (lv_at hl 1 rfl) ?_
              refine lv_bipush (v := 8) hx hb dX16_isSoundNow_183 (by decide) ?_
              refine cV (S := S) (nA := 1) (As := [.int 8]) (rest := [.int x2]) X w hl h.v (m_X16_deskNow G S ea ns nj nm nt nr nq h 8 (by decide) (hT)) wY_X16_deskNow wM_X16_310 wIn_X16_deskNow wSe_X16_X16_deskNow wI_X16 (by decide) rfl (by decide +kernel) rfl rfl dX16_isSoundNow_185 ⟨by decide, by decide⟩ (Nat.le_of_ble_eq_true rfl) (⟨Nat.le_of_ble_eq_true rfl, Nat.le_of_ble_eq_true rfl⟩) (fun v5 S1 H locs hp w => ?_)
              obtain ⟨⟨x4, rfl⟩, rfl⟩ := hp
              refine lv_aload_n hx hb dX16_isSoundNow_188 rfl (lv_at hl 1 rfl) ?_
              refine lv_bipush (v := 9) hx hb dX16_isSoundNow_189 (by decide) ?_
              refine cV (S := S) (nA := 1) (As := [.int 9]) (rest := [.int x4, .int x2]) X w hl h.v (m_X16_deskNow G S ea ns nj nm nt nr nq h 9 (by decide) (hT)) wY_X16_deskNow wM_X16_310 wIn_X16_deskNow wSe_X16_X16_deskNow wI_X16 (by decide) rfl (by decide +kernel) rfl rfl dX16_isSoundNow_191 ⟨by decide, by decide⟩ (Nat.le_of_ble_eq_true rfl) (⟨Nat.le_of_ble_eq_true rfl, Nat.le_of_ble_eq_true rfl⟩) (fun v7 S1 H locs hp w => ?_)
              obtain ⟨⟨x6, rfl⟩, rfl⟩ := hp
              refine lv_iadd hx hb dX16_isSoundNow_194 ?_
              refine lv_aload_n hx hb dX16_isSoundNow_195 rfl (lv_at hl 1 rfl) ?_
              refine lv_bipush (v := 10) hx hb dX16_isSoundNow_196 (by decide) ?_
              refine cV (S := S) (nA := 1) (As := [.int 10]) (rest := [.int (x4 + x6), .int x2]) X w hl h.v (m_X16_deskNow G S ea ns nj nm nt nr nq h 10 (by decide) (hT)) wY_X16_deskNow wM_X16_310 wIn_X16_deskNow wSe_X16_X16_deskNow wI_X16 (by decide) rfl (by decide +kernel) rfl rfl dX16_isSoundNow_198 ⟨by decide, by decide⟩ (Nat.le_of_ble_eq_true rfl) (⟨Nat.le_of_ble_eq_true rfl, Nat.le_of_ble_eq_true rfl⟩) (fun v9 S1 H locs hp w => ?_)
              obtain ⟨⟨x8, rfl⟩, rfl⟩ := hp
              refine lv_iadd hx hb dX16_isSoundNow_201 ?_
              refine lv_aload_n hx hb dX16_isSoundNow_202 rfl (lv_at hl 1 rfl) ?_
              refine lv_bipush (v := 11) hx hb dX16_isSoundNow_203 (by decide) ?_
              refine cV (S := S) (nA := 1) (As := [.int 11]) (rest := [.int ((x4 + x6) + x8), .int x2]) X w hl h.v (m_X16_deskNow G S ea ns nj nm nt nr nq h 11 (by decide) (hT)) wY_X16_deskNow wM_X16_310 wIn_X16_deskNow wSe_X16_X16_deskNow wI_X16 (by decide) rfl (by decide +kernel) rfl rfl dX16_isSoundNow_205 ⟨by decide, by decide⟩ (Nat.le_of_ble_eq_true rfl) (⟨Nat.le_of_ble_eq_true rfl, Nat.le_of_ble_eq_true rfl⟩) (fun v11 S1 H locs hp w => ?_)
              obtain ⟨⟨x10, rfl⟩, rfl⟩ := hp
              refine lv_iadd hx hb dX16_isSoundNow_208 ?_
              refine lv_aload_n hx hb dX16_isSoundNow_209 rfl (lv_at hl 1 rfl) ?_
              refine lv_bipush (v := 12) hx hb dX16_isSoundNow_210 (by decide) ?_
              refine cV (S := S) (nA := 1) (As := [.int 12]) (rest := [.int (((x4 + x6) + x8) + x10), .int x2]) X w hl h.v (m_X16_deskNow G S ea ns nj nm nt nr nq h 12 (by decide) (hT)) wY_X16_deskNow wM_X16_310 wIn_X16_deskNow wSe_X16_X16_deskNow wI_X16 (by decide) rfl (by decide +kernel) rfl rfl dX16_isSoundNow_212 ⟨by decide, by decide⟩ (Nat.le_of_ble_eq_true rfl) (⟨Nat.le_of_ble_eq_true rfl, Nat.le_of_ble_eq_true rfl⟩) (fun v13 S1 H locs hp w => ?_)
              obtain ⟨⟨x12, rfl⟩, rfl⟩ := hp
              refine lv_iadd hx hb dX16_isSoundNow_215 ?_
              refine lv_icmp_ne (tgt := 237) hx hb dX16_isSoundNow_216 (by decide) (fun hc14 => ?_) (fun hc14 => ?_)
              · refine lv_iconst (v := 0) hx hb dX16_isSoundNow_237 (by decide) ?_
                exact rZ X w rfl dX16_isSoundNow_238 (by decide) (by decide) (by decide) (px_z01 (by first | exact Or.inl rfl | exact Or.inr rfl | exact b2i_01 _))
              · refine lv_aload_n hx hb dX16_isSoundNow_219 rfl (lv_at hl 1 rfl) ?_
                refine g_16_2 (S := S) (x := (mI S 258 0)) X w h.v wF_X16_7 (rfl) dX16_isSoundNow_220 ?_
                refine lv_iconst (v := 0) hx hb dX16_isSoundNow_223 (by decide) ?_
                refine lv_sipush (v := 600) hx hb dX16_isSoundNow_224 (by decide) ?_
                refine cS (S := S) (nA := 3) (As := [.int (mI S 258 0), .int 0, .int 600]) (rest := []) X w hl (m_X16_in G S (mI S 258 0) 0 600) wY_X16_in wM_X16_224 wSt_X16_in wI_X16 (by decide +kernel) rfl rfl dX16_isSoundNow_227 ⟨by decide, by decide⟩ (Nat.le_of_ble_eq_true rfl) (⟨Nat.le_of_ble_eq_true rfl, Nat.le_of_ble_eq_true rfl⟩) (fun v15 S1 H locs hp w => ?_)
                obtain ⟨rfl, rfl⟩ := hp
                refine lv_if_eq (tgt := 237) hx hb dX16_isSoundNow_230 (by decide) (fun hc16 => ?_) (fun hc16 => ?_)
                · refine lv_iconst (v := 0) hx hb dX16_isSoundNow_237 (by decide) ?_
                  exact rZ X w rfl dX16_isSoundNow_238 (by decide) (by decide) (by decide) (px_z01 (by first | exact Or.inl rfl | exact Or.inr rfl | exact b2i_01 _))
                · refine lv_iconst (v := 1) hx hb dX16_isSoundNow_233 (by decide) ?_
                  refine lv_goto (tgt := 238) hx hb dX16_isSoundNow_234 (by decide) ?_
                  exact rZ X w rfl dX16_isSoundNow_238 (by decide) (by decide) (by decide) (px_z01 (by first | exact Or.inl rfl | exact Or.inr rfl | exact b2i_01 _))
            · have hlt_kd : kd < nt := by
                have hb1 := h.b_ta
                exact Nat.lt_of_not_le (fun z => hc_kd ((nI_leI (a := nt) (b := kd) (by omega) (by omega)).mpr z))
              refine lv_aload_n hx hb dX16_isSoundNow_88 rfl (lv_at hl 1 rfl) ?_
              refine g_16_9 (S := S) (x := (some (gG S 17 9))) X w h.v wF_X16_26 (h.f_ta) dX16_isSoundNow_89 ?_
              refine lv_iload_n hx hb dX16_isSoundNow_92 rfl (lv_at hl 0 rfl) ?_
              refine cF (S := S) (t := 17) (nA := 1) (As := [.int (nI kd)]) (rest := []) X w hl h.l_ta.1 (m_get G S ea 9 kd nt (some (gG S 15 kd)) h.l_ta hlt_kd (h.e_ta kd hlt_kd).1) wY_Jx4a65c_get_915e3 wM_X16_46 wIn_Jx4a65c_get_915e3 wSe_Jx4a65c_Jx4a65c_get_915e3_of_java_util_List_get__I_Ljava_lang_Object_ wI_Jx4a65c fw_get (by decide) rfl (by decide +kernel) rfl rfl dX16_isSoundNow_93 ⟨by decide, by decide⟩ (Nat.le_of_ble_eq_true rfl) (⟨Nat.le_of_ble_eq_true rfl, Nat.le_of_ble_eq_true rfl⟩) (fun v17 S1 H locs hp w => ?_)
              obtain ⟨rfl, rfl⟩ := hp
              refine ckC (S := S) (t := 15) X w (h.e_ta kd hlt_kd).2 (by decide) rfl wC_X16_105 dX16_isSoundNow_98 ?_
              refine lv_astore_n (lv' := [(2, .ref (gG S 15 kd)), (1, .int (nI kd)), (0, .ref (gG S 16 0))]) hx hb dX16_isSoundNow_101 rfl hl (by decide) rfl (fun ls hl => ?_)
              refine lv_iconst (v := 0) hx hb dX16_isSoundNow_102 (by decide) ?_
              refine lv_istore_n (lv' := [(3, .int 0), (2, .ref (gG S 15 kd)), (1, .int (nI kd)), (0, .ref (gG S 16 0))]) hx hb dX16_isSoundNow_103 rfl hl (by decide) rfl (fun ls hl => ?_)
              have L104 : ∀ (N : Nat) (ke : Nat) (H : Heap) (locs : List Loc) (ls : Array Slot), nr - ke < N → (ke ≤ nr) → Wd s0 D cy S s.heap H locs → lv_has ls 4 [(3, .int (nI ke)), (2, .ref (gG S 15 kd)), (1, .int (nI kd)), (0, .ref (gG S 16 0))] → W p l e rm_m_X16_isSoundNow s m ([.ref (gG S 16 0)] : List Value).toArray below meth c H locs 0 0 (MQ below (GQ s0 D cy (PXz S)) ([.ref (gG S 16 0)] : List Value).toArray s rm_m_X16_isSoundNow.cells rm_m_X16_isSoundNow.slots (A0 s0)) (F0 m 104 ls []) := by
                intro N
                induction N with
                | zero => intros; omega
                | succ N ih104 =>
                  intro ke H locs ls hmu hk_ke w hl
                  refine lv_iload_n hx hb dX16_isSoundNow_104 rfl (lv_at hl 0 rfl) ?_
                  refine lv_aload_n hx hb dX16_isSoundNow_105 rfl (lv_at hl 3 rfl) ?_
                  refine g_16_10 (S := S) (x := (some (gG S 17 10))) X w h.v wF_X16_29 (h.f_re) dX16_isSoundNow_106 ?_
                  refine cF (S := S) (t := 17) (nA := 0) (As := []) (rest := [.int (nI ke)]) X w hl h.l_re.1 (m_size G S ea 10 nr h.l_re) wY_Jx4a65c_size_8abf5 wM_X16_73 wIn_Jx4a65c_size_8abf5 wSe_Jx4a65c_Jx4a65c_size_8abf5_of_java_util_List_size___I wI_Jx4a65c fw_size (by decide) rfl (by decide +kernel) rfl rfl dX16_isSoundNow_109 ⟨by decide, by decide⟩ (Nat.le_of_ble_eq_true rfl) (⟨Nat.le_of_ble_eq_true rfl, Nat.le_of_ble_eq_true rfl⟩) (fun v18 S1 H locs hp w => ?_)
                  obtain ⟨rfl, rfl⟩ := hp
                  refine lv_icmp_ge (tgt := 154) hx hb dX16_isSoundNow_114 (by decide) (fun hc_ke => ?_) (fun hc_ke => ?_)
                  · have hge_ke : nr ≤ ke := by
                      have hb1 := h.b_re
                      exact (nI_leI (a := nr) (b := ke) (by omega) (by omega)).mp hc_ke
                    refine lv_aload_n hx hb dX16_isSoundNow_154 rfl (lv_at hl 1 rfl) ?_
                    refine g_15_13 (S := S) (x := (mI S 253 kd)) X w (h.e_ta kd hlt_kd).2 wF_X16_161 (rfl) dX16_isSoundNow_155 ?_
                    refine lv_if_eq (tgt := 170) hx hb dX16_isSoundNow_158 (by decide) (fun hc19 => ?_) (fun hc19 => ?_)
                    · refine lv_iinc (v := nI (kd + 1)) (lv' := [(1, .int (nI (kd + 1))), (3, .int (nI ke)), (2, .ref (gG S 15 kd)), (0, .ref (gG S 16 0))]) hx hb dX16_isSoundNow_170 hl (k := 2) rfl (nI_1 _) (by decide) rfl (fun ls hl => ?_)
                      refine lv_goto (tgt := 75) hx hb dX16_isSoundNow_173 (by decide) ?_
                      exact ih75 (kd + 1) _ _ _ (by omega) (hlt_kd) w (lv_sub hl [0, 3] rfl)
                    · refine lv_aload_n hx hb dX16_isSoundNow_161 rfl (lv_at hl 1 rfl) ?_
                      refine cV (S := S) (nA := 0) (As := []) (rest := []) X w hl (h.e_ta kd hlt_kd).2 (m_X15_isWrong G S kd (h.e_ta kd hlt_kd).2) wY_X15_isWrong wM_X16_157 wIn_X15_isWrong wSe_X15_X15_isWrong wI_X15 (by decide) rfl (by decide +kernel) rfl rfl dX16_isSoundNow_162 ⟨by decide, by decide⟩ (Nat.le_of_ble_eq_true rfl) (⟨Nat.le_of_ble_eq_true rfl, Nat.le_of_ble_eq_true rfl⟩) (fun v20 S1 H locs hp w => ?_)
                      obtain ⟨rfl, rfl⟩ := hp
                      refine lv_if_ne (tgt := 170) hx hb dX16_isSoundNow_165 (by decide) (fun hc21 => ?_) (fun hc21 => ?_)
                      · refine lv_iinc (v := nI (kd + 1)) (lv' := [(1, .int (nI (kd + 1))), (3, .int (nI ke)), (2, .ref (gG S 15 kd)), (0, .ref (gG S 16 0))]) hx hb dX16_isSoundNow_170 hl (k := 2) rfl (nI_1 _) (by decide) rfl (fun ls hl => ?_)
                        refine lv_goto (tgt := 75) hx hb dX16_isSoundNow_173 (by decide) ?_
                        exact ih75 (kd + 1) _ _ _ (by omega) (hlt_kd) w (lv_sub hl [0, 3] rfl)
                      · refine lv_iconst (v := 0) hx hb dX16_isSoundNow_168 (by decide) ?_
                        exact rZ X w rfl dX16_isSoundNow_169 (by decide) (by decide) (by decide) (px_z01 (by first | exact Or.inl rfl | exact Or.inr rfl | exact b2i_01 _))
                  · have hlt_ke : ke < nr := by
                      have hb1 := h.b_re
                      exact Nat.lt_of_not_le (fun z => hc_ke ((nI_leI (a := nr) (b := ke) (by omega) (by omega)).mpr z))
                    refine lv_aload_n hx hb dX16_isSoundNow_117 rfl (lv_at hl 3 rfl) ?_
                    refine g_16_10 (S := S) (x := (some (gG S 17 10))) X w h.v wF_X16_29 (h.f_re) dX16_isSoundNow_118 ?_
                    refine lv_iload_n hx hb dX16_isSoundNow_121 rfl (lv_at hl 0 rfl) ?_
                    refine cF (S := S) (t := 17) (nA := 1) (As := [.int (nI ke)]) (rest := []) X w hl h.l_re.1 (m_get G S ea 10 ke nr (some (gG S 13 ke)) h.l_re hlt_ke (h.e_re ke hlt_ke).1) wY_Jx4a65c_get_915e3 wM_X16_46 wIn_Jx4a65c_get_915e3 wSe_Jx4a65c_Jx4a65c_get_915e3_of_java_util_List_get__I_Ljava_lang_Object_ wI_Jx4a65c fw_get (by decide) rfl (by decide +kernel) rfl rfl dX16_isSoundNow_122 ⟨by decide, by decide⟩ (Nat.le_of_ble_eq_true rfl) (⟨Nat.le_of_ble_eq_true rfl, Nat.le_of_ble_eq_true rfl⟩) (fun v22 S1 H locs hp w => ?_)
                    obtain ⟨rfl, rfl⟩ := hp
                    refine ckC (S := S) (t := 13) X w (h.e_re ke hlt_ke).2.1 (by decide) rfl wC_X16_177 dX16_isSoundNow_127 ?_
                    refine g_13_2 (S := S) (x := (some (gG S 35 ke))) X w (h.e_re ke hlt_ke).2.1 wF_X16_179 ((h.e_re ke hlt_ke).2.2.1) dX16_isSoundNow_130 ?_
                    refine lv_iload_n hx hb dX16_isSoundNow_133 rfl (lv_at hl 2 rfl) ?_
                    refine aLdI (S := S) (t := 35) (v := mA S 35 ke kd) X w (h.e_re ke hlt_ke).2.2.2.1 (by decide) rfl rfl (by rw [(h.e_re ke hlt_ke).2.2.2.2]; exact nI_vp (Nat.lt_of_lt_of_le hlt_kd h.b_ta) (by decide)) (by rw [cl_nI (n := 40) (Nat.lt_of_lt_of_le hlt_kd h.b_ta) (by decide)]) dX16_isSoundNow_134 ?_
                    refine lv_if_le (tgt := 148) hx hb dX16_isSoundNow_135 (by decide) (fun hc23 => ?_) (fun hc23 => ?_)
                    · refine lv_iinc (v := nI (ke + 1)) (lv' := [(3, .int (nI (ke + 1))), (2, .ref (gG S 15 kd)), (1, .int (nI kd)), (0, .ref (gG S 16 0))]) hx hb dX16_isSoundNow_148 hl (k := 0) rfl (nI_1 _) (by decide) rfl (fun ls hl => ?_)
                      refine lv_goto (tgt := 104) hx hb dX16_isSoundNow_151 (by decide) ?_
                      exact ih104 (ke + 1) _ _ _ (by omega) (hlt_ke) w (lv_sub hl [0, 1, 2, 3] rfl)
                    · refine lv_aload_n hx hb dX16_isSoundNow_138 rfl (lv_at hl 1 rfl) ?_
                      refine g_15_7 (S := S) (x := (mI S 247 kd)) X w (h.e_ta kd hlt_kd).2 wF_X16_144 (rfl) dX16_isSoundNow_139 ?_
                      refine lv_iconst (v := 1) hx hb dX16_isSoundNow_142 (by decide) ?_
                      refine lv_icmp_eq (tgt := 148) hx hb dX16_isSoundNow_143 (by decide) (fun hc24 => ?_) (fun hc24 => ?_)
                      · refine lv_iinc (v := nI (ke + 1)) (lv' := [(3, .int (nI (ke + 1))), (2, .ref (gG S 15 kd)), (1, .int (nI kd)), (0, .ref (gG S 16 0))]) hx hb dX16_isSoundNow_148 hl (k := 0) rfl (nI_1 _) (by decide) rfl (fun ls hl => ?_)
                        refine lv_goto (tgt := 104) hx hb dX16_isSoundNow_151 (by decide) ?_
                        exact ih104 (ke + 1) _ _ _ (by omega) (hlt_ke) w (lv_sub hl [0, 1, 2, 3] rfl)
                      · refine lv_iconst (v := 0) hx hb dX16_isSoundNow_146 (by decide) ?_
                        exact rZ X w rfl dX16_isSoundNow_147 (by decide) (by decide) (by decide) (px_z01 (by first | exact Or.inl rfl | exact Or.inr rfl | exact b2i_01 _))
              exact L104 _ 0 _ _ _ (Nat.lt_succ_self _) (Nat.zero_le _) w (lv_sub hl [0, 1, 2, 3] rfl)
        exact L75 _ 0 _ _ _ (Nat.lt_succ_self _) (Nat.zero_le _) w (lv_sub hl [0, 1] rfl)
      · have hlt_ka : ka < 24 := by
          skip
          exact Nat.lt_of_not_le (fun z => hc_ka ((nI_leI (a := 24) (b := ka) (by omega) (by omega)).mpr z))
        refine lv_iconst (v := 0) hx hb dX16_isSoundNow_8 (by decide) ?_
        refine lv_istore_n (lv' := [(2, .int 0), (1, .int (nI ka)), (0, .ref (gG S 16 0))]) hx hb dX16_isSoundNow_9 rfl hl (by decide) rfl (fun ls hl => ?_)
        have L10 : ∀ (N : Nat) (kb : Nat) (H : Heap) (locs : List Loc) (ls : Array Slot), 3 - kb < N → (kb ≤ 3) → Wd s0 D cy S s.heap H locs → lv_has ls 4 [(2, .int (nI kb)), (1, .int (nI ka)), (0, .ref (gG S 16 0))] → W p l e rm_m_X16_isSoundNow s m ([.ref (gG S 16 0)] : List Value).toArray below meth c H locs 0 0 (MQ below (GQ s0 D cy (PXz S)) ([.ref (gG S 16 0)] : List Value).toArray s rm_m_X16_isSoundNow.cells rm_m_X16_isSoundNow.slots (A0 s0)) (F0 m 10 ls []) := by
          intro N
          induction N with
          | zero => intros; omega
          | succ N ih10 =>
            intro kb H locs ls hmu hk_kb w hl
            refine lv_iload_n hx hb dX16_isSoundNow_10 rfl (lv_at hl 0 rfl) ?_
            refine lv_iconst (v := 3) hx hb dX16_isSoundNow_11 (by decide) ?_
            refine lv_icmp_ge (tgt := 67) hx hb dX16_isSoundNow_12 (by decide) (fun hc_kb => ?_) (fun hc_kb => ?_)
            · have hge_kb : 3 ≤ kb := by
                skip
                exact (nI_leI (a := 3) (b := kb) (by omega) (by omega)).mp hc_kb
              refine lv_iinc (v := nI (ka + 1)) (lv' := [(1, .int (nI (ka + 1))), (2, .int (nI kb)), (0, .ref (gG S 16 0))]) hx hb dX16_isSoundNow_67 hl (k := 1) rfl (nI_1 _) (by decide) rfl (fun ls hl => ?_)
              refine lv_goto (tgt := 2) hx hb dX16_isSoundNow_70 (by decide) ?_
              exact ih2 (ka + 1) _ _ _ (by omega) (hlt_ka) w (lv_sub hl [0, 2] rfl)
            · have hlt_kb : kb < 3 := by
                skip
                exact Nat.lt_of_not_le (fun z => hc_kb ((nI_leI (a := 3) (b := kb) (by omega) (by omega)).mpr z))
              refine lv_iconst (v := 0) hx hb dX16_isSoundNow_15 (by decide) ?_
              refine lv_istore_n (lv' := [(3, .int 0), (2, .int (nI kb)), (1, .int (nI ka)), (0, .ref (gG S 16 0))]) hx hb dX16_isSoundNow_16 rfl hl (by decide) rfl (fun ls hl => ?_)
              have L17 : ∀ (N : Nat) (kc : Nat) (H : Heap) (locs : List Loc) (ls : Array Slot), kb - kc < N → (kc ≤ kb) → Wd s0 D cy S s.heap H locs → lv_has ls 4 [(3, .int (nI kc)), (2, .int (nI kb)), (1, .int (nI ka)), (0, .ref (gG S 16 0))] → W p l e rm_m_X16_isSoundNow s m ([.ref (gG S 16 0)] : List Value).toArray below meth c H locs 0 0 (MQ below (GQ s0 D cy (PXz S)) ([.ref (gG S 16 0)] : List Value).toArray s rm_m_X16_isSoundNow.cells rm_m_X16_isSoundNow.slots (A0 s0)) (F0 m 17 ls []) := by
                intro N
                induction N with
                | zero => intros; omega
                | succ N ih17 =>
                  intro kc H locs ls hmu hk_kc w hl
                  refine lv_iload_n hx hb dX16_isSoundNow_17 rfl (lv_at hl 0 rfl) ?_
                  refine lv_iload_n hx hb dX16_isSoundNow_18 rfl (lv_at hl 1 rfl) ?_
                  refine lv_icmp_ge (tgt := 61) hx hb dX16_isSoundNow_19 (by decide) (fun hc_kc => ?_) (fun hc_kc => ?_)
                  · have hge_kc : kb ≤ kc := by
                      skip
                      exact (nI_leI (a := kb) (b := kc) (by omega) (by omega)).mp hc_kc
                    refine lv_iinc (v := nI (kb + 1)) (lv' := [(2, .int (nI (kb + 1))), (3, .int (nI kc)), (1, .int (nI ka)), (0, .ref (gG S 16 0))]) hx hb dX16_isSoundNow_61 hl (k := 1) rfl (nI_1 _) (by decide) rfl (fun ls hl => ?_)
                    refine lv_goto (tgt := 10) hx hb dX16_isSoundNow_64 (by decide) ?_
                    exact ih10 (kb + 1) _ _ _ (by omega) (hlt_kb) w (lv_sub hl [0, 2, 3] rfl)
                  · have hlt_kc : kc < kb := by
                      skip
                      exact Nat.lt_of_not_le (fun z => hc_kc ((nI_leI (a := kb) (b := kc) (by omega) (by omega)).mpr z))
                    refine lv_aload_n hx hb dX16_isSoundNow_22 rfl (lv_at hl 3 rfl) ?_
                    refine g_16_13 (S := S) (x := (some (gG S 38 1))) X w h.v wF_X16_40 (h.s1.2.2) dX16_isSoundNow_23 ?_
                    refine lv_iload_n hx hb dX16_isSoundNow_26 rfl (lv_at hl 2 rfl) ?_
                    refine aLdR (S := S) (t := 38) (v := (some (gG S 37 ka))) X w h.s1.1 (by decide) rfl rfl (Or.inr ⟨_, rfl⟩) (by rw [h.s1.2.1]; exact nI_vp hlt_ka (by decide)) (by rw [cl_nI (n := 24) hlt_ka (by decide)]; exact (h.s2 ka hlt_ka).1) dX16_isSoundNow_27 ?_
                    refine lv_iload_n hx hb dX16_isSoundNow_28 rfl (lv_at hl 1 rfl) ?_
                    refine aLdI (S := S) (t := 37) (v := mA S 37 ka kb) X w (h.s2 ka hlt_ka).2.1 (by decide) rfl rfl (by rw [(h.s2 ka hlt_ka).2.2]; exact nI_vp hlt_kb (by decide)) (by rw [cl_nI (n := 3) hlt_kb (by decide)]) dX16_isSoundNow_29 ?_
                    refine lv_iconst (v := (-1)) hx hb dX16_isSoundNow_30 (by decide) ?_
                    refine lv_icmp_eq (tgt := 55) hx hb dX16_isSoundNow_31 (by decide) (fun hc25 => ?_) (fun hc25 => ?_)
                    · refine lv_iinc (v := nI (kc + 1)) (lv' := [(3, .int (nI (kc + 1))), (2, .int (nI kb)), (1, .int (nI ka)), (0, .ref (gG S 16 0))]) hx hb dX16_isSoundNow_55 hl (k := 0) rfl (nI_1 _) (by decide) rfl (fun ls hl => ?_)
                      refine lv_goto (tgt := 17) hx hb dX16_isSoundNow_58 (by decide) ?_
                      exact ih17 (kc + 1) _ _ _ (by omega) (hlt_kc) w (lv_sub hl [0, 1, 2, 3] rfl)
                    · refine lv_aload_n hx hb dX16_isSoundNow_34 rfl (lv_at hl 3 rfl) ?_
                      refine g_16_13 (S := S) (x := (some (gG S 38 1))) X w h.v wF_X16_40 (h.s1.2.2) dX16_isSoundNow_35 ?_
                      refine lv_iload_n hx hb dX16_isSoundNow_38 rfl (lv_at hl 2 rfl) ?_
                      refine aLdR (S := S) (t := 38) (v := (some (gG S 37 ka))) X w h.s1.1 (by decide) rfl rfl (Or.inr ⟨_, rfl⟩) (by rw [h.s1.2.1]; exact nI_vp hlt_ka (by decide)) (by rw [cl_nI (n := 24) hlt_ka (by decide)]; exact (h.s2 ka hlt_ka).1) dX16_isSoundNow_39 ?_
                      refine lv_iload_n hx hb dX16_isSoundNow_40 rfl (lv_at hl 1 rfl) ?_
                      refine aLdI (S := S) (t := 37) (v := mA S 37 ka kb) X w (h.s2 ka hlt_ka).2.1 (by decide) rfl rfl (by rw [(h.s2 ka hlt_ka).2.2]; exact nI_vp hlt_kb (by decide)) (by rw [cl_nI (n := 3) hlt_kb (by decide)]) dX16_isSoundNow_41 ?_
                      refine lv_aload_n hx hb dX16_isSoundNow_42 rfl (lv_at hl 3 rfl) ?_
                      refine g_16_13 (S := S) (x := (some (gG S 38 1))) X w h.v wF_X16_40 (h.s1.2.2) dX16_isSoundNow_43 ?_
                      refine lv_iload_n hx hb dX16_isSoundNow_46 rfl (lv_at hl 2 rfl) ?_
                      refine aLdR (S := S) (t := 38) (v := (some (gG S 37 ka))) X w h.s1.1 (by decide) rfl rfl (Or.inr ⟨_, rfl⟩) (by rw [h.s1.2.1]; exact nI_vp hlt_ka (by decide)) (by rw [cl_nI (n := 24) hlt_ka (by decide)]; exact (h.s2 ka hlt_ka).1) dX16_isSoundNow_47 ?_
                      refine lv_iload_n hx hb dX16_isSoundNow_48 rfl (lv_at hl 0 rfl) ?_
                      refine aLdI (S := S) (t := 37) (v := mA S 37 ka kc) X w (h.s2 ka hlt_ka).2.1 (by decide) rfl rfl (by rw [(h.s2 ka hlt_ka).2.2]; exact nI_vp (Nat.lt_trans hlt_kc hlt_kb) (by decide)) (by rw [cl_nI (n := 3) (Nat.lt_trans hlt_kc hlt_kb) (by decide)]) dX16_isSoundNow_49 ?_
                      refine lv_icmp_ne (tgt := 55) hx hb dX16_isSoundNow_50 (by decide) (fun hc26 => ?_) (fun hc26 => ?_)
                      · refine lv_iinc (v := nI (kc + 1)) (lv' := [(3, .int (nI (kc + 1))), (2, .int (nI kb)), (1, .int (nI ka)), (0, .ref (gG S 16 0))]) hx hb dX16_isSoundNow_55 hl (k := 0) rfl (nI_1 _) (by decide) rfl (fun ls hl => ?_)
                        refine lv_goto (tgt := 17) hx hb dX16_isSoundNow_58 (by decide) ?_
                        exact ih17 (kc + 1) _ _ _ (by omega) (hlt_kc) w (lv_sub hl [0, 1, 2, 3] rfl)
                      · refine lv_iconst (v := 0) hx hb dX16_isSoundNow_53 (by decide) ?_
                        exact rZ X w rfl dX16_isSoundNow_54 (by decide) (by decide) (by decide) (px_z01 (by first | exact Or.inl rfl | exact Or.inr rfl | exact b2i_01 _))
              exact L17 _ 0 _ _ _ (Nat.lt_succ_self _) (Nat.zero_le _) w (lv_sub hl [0, 1, 2, 3] rfl)
        exact L10 _ 0 _ _ _ (Nat.lt_succ_self _) (Nat.zero_le _) w (lv_sub hl [0, 1, 2] rfl)
  exact L2 _ 0 _ _ _ (Nat.lt_succ_self _) (Nat.zero_le _) w (lv_sub hl [0, 1] rfl)

