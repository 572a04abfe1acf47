def inF (f : Nat) : Bool := (Nat.ble 193 f && Nat.ble f 195) || ((f == 208 || f == 209) || ((Nat.ble 224 f && Nat.ble f 229) || ((Nat.ble 240 f && Nat.ble f 253) || (f == 257 || (f == 258 || (f == 259 || f == 261))))))
def inT (t : Nat) : Bool := Nat.ble 33 t && Nat.ble t 37
/-- what the picture has the reference has, and nq corrections wait -/
def RF (s0 : State) (S A : HS) (nq nt : Nat) : Prop := (∀ f, inF f = true → ∀ j, mI S f j = mI A f j) ∧ (∀ t, inT t = true → ∀ j, mA S t j = mA A t j) ∧ qN A = nq ∧ ∀ i, i < nq → ∃ g, g < nt ∧ mA A 60 0 i = nI g ∧ mB S 30 11 i = some (iq s0 g)
section RFS
variable {s0 : State} {S A : HS} {nq nt : Nat}
theorem RF.bI {f i : Nat} {v : Int32} (h : RF s0 S A nq nt) : RF s0 (sI S f i v) (sI A f i v) nq nt := ⟨fun g c j => by
  show (if g = f ∧ j = i then v else mI S g j) = (if g = f ∧ j = i then v else mI A g j)
  rw [h.1 g c j], h.2.1, h.2.2⟩
theorem RF.oI {f i : Nat} {v : Int32} (h : RF s0 S A nq nt) (hf : inF f = false) : RF s0 (sI S f i v) A nq nt := ⟨fun g c j => by
  refine Eq.trans (up2_n (fun y => ?_)) (h.1 g c j)
  rw [y.1, hf] at c; exact absurd c (by decide), h.2.1, h.2.2⟩
theorem RF.sU {t i k : Nat} {v : Int32} (h : RF s0 S A nq nt) (ht : inT t = true) : RF s0 (sA S t i (upd (mA S t i) k v)) (sA A t i (upd (mA A t i) k v)) nq nt := ⟨h.1, fun u c j => by
  show (if u = t ∧ j = i then upd (mA S t i) k v else mA S u j) = (if u = t ∧ j = i then upd (mA A t i) k v else mA A u j)
  rw [h.2.1 u c j, h.2.1 t ht i], h.2.2.1, fun q hq => by
  obtain ⟨g, h1, h2, h3⟩ := h.2.2.2 q hq
  have e : mA (sA A t i (upd (mA A t i) k v)) 60 0 = mA A 60 0 := up2_n (fun y => by rw [← y.1] at ht; exact absurd ht (by decide))
  exact ⟨g, h1, by rw [e]; exact h2, h3⟩⟩
theorem RF.oA {t i : Nat} {f : Nat → Int32} (h : RF s0 S A nq nt) (ht : inT t = false) : RF s0 (sA S t i f) A nq nt := ⟨h.1, fun u c j => by
  refine Eq.trans (up2_n (fun y => ?_)) (h.2.1 u c j)
  rw [y.1, ht] at c; exact absurd c (by decide), h.2.2⟩
theorem RF.oArr {t i q n : Nat} (h : RF s0 S A nq nt) (ht : inT t = false) (hb : ¬ t = 30) : RF s0 (sArr S t i q n) A nq nt := ⟨h.1, fun u c j => by
  refine Eq.trans (up2_n (fun y => ?_)) (h.2.1 u c j)
  rw [y.1, ht] at c; exact absurd c (by decide), h.2.2.1, fun k hk => by
  obtain ⟨g, h1, h2, h3⟩ := h.2.2.2 k hk
  exact ⟨g, h1, h2, (congrFun (up2_n (fun y => hb y.1.symm)) k).trans h3⟩⟩
theorem RF.add {q c j : Nat} {m z : Int32} {b : Nat → Option Nat} (h : RF s0 S A nq nt) (hj : j < nt) (hb0 : b nq = some (iq s0 j)) (hb1 : ∀ i, i < nq → b i = mB S 30 11 i) : RF s0 (addS S 11 q c m z b) (sQ A (nq + 1) (upd (mA A 60 0) nq (nI j))) (nq + 1) nt := by
  refine ⟨fun f cf i => Eq.trans ?_ (h.1 f cf i), fun t ct i => Eq.trans (h.2.1 t ct i) ?_, rfl, fun i hi => ?_⟩
  · refine (up2_n (fun y => ?_)).trans (up2_n (fun y => ?_))
    · rw [y.1] at cf; exact absurd cf (by decide)
    · rw [y.1] at cf; exact absurd cf (by decide)
  · exact (up2_n (fun y => by rw [y.1] at ct; exact absurd ct (by decide))).symm
  · have r9 : mA (sQ A (nq + 1) (upd (mA A 60 0) nq (nI j))) 60 0 i = upd (mA A 60 0) nq (nI j) i := rfl
    have b9 : mB (addS S 11 q c m z b) 30 11 i = b i := rfl
    by_cases e : i = nq
    · exact ⟨j, hj, by rw [r9, e, upd_s], by rw [b9, e]; exact hb0⟩
    · obtain ⟨g, h1, h2, h3⟩ := h.2.2.2 i (by omega)
      exact ⟨g, h1, by rw [r9, upd_o e]; exact h2, by rw [b9, hb1 i (by omega)]; exact h3⟩
theorem RF.comes (h : RF s0 S A nq nt) (ns nj i : Nat) (a : Int32) : rComes S ns nj i a = rComes A ns nj i a := by
  have e1 : ∀ j, mI S 224 j = mI A 224 j := h.1 224 rfl
  have e2 : ∀ j, mI S 225 j = mI A 225 j := h.1 225 rfl
  have e3 : ∀ j, mI S 228 j = mI A 228 j := h.1 228 rfl
  have e4 : ∀ j, mI S 229 j = mI A 229 j := h.1 229 rfl
  have e5 : ∀ j, mA S 33 j = mA A 33 j := h.2.1 33 rfl
  unfold rComes
  simp only [e1, e2, e3, e4, e5]
theorem RF.qual (h : RF s0 S A nq nt) (ns nj mo i : Nat) (a : Int32) : rQual S ns nj mo i a = rQual A ns nj mo i a := by
  unfold rQual
  rw [h.comes, h.2.1 34 rfl mo, h.1 227 rfl i, h.1 193 rfl mo]
theorem RF.tSq (h : RF s0 S A nq nt) (j : Nat) : tS S j = tS A j := by
  show (mI S 240 j).toNatClampNeg = (mI A 240 j).toNatClampNeg
  rw [h.1 240 rfl j]
theorem RF.sit (h : RF s0 S A nq nt) (a k : Nat) : sitN S a k = sitN A a k := by
  unfold sitN
  rw [h.2.1 37 rfl a]
theorem RF.slotQ (h : RF s0 S A nq nt) (ns nj j a k : Nat) : rSlotQ S ns nj j a k = rSlotQ A ns nj j a k := by
  unfold rSlotQ
  rw [h.2.1 36 rfl a, h.tSq, h.sit, h.qual]
theorem RF.rec (h : RF s0 S A nq nt) (ns nj j a : Nat) : ∀ k, rRec S ns nj j a k = rRec A ns nj j a k
  | 0 => rfl
  | k + 1 => by
    show (if rSlotQ S ns nj j a k = 0 then rRec S ns nj j a k else if rRec S ns nj j a k = -1 ∨ rSlotQ S ns nj j a (rRec S ns nj j a k).toNatClampNeg < rSlotQ S ns nj j a k then nI k else rRec S ns nj j a k) = (if rSlotQ A ns nj j a k = 0 then rRec A ns nj j a k else if rRec A ns nj j a k = -1 ∨ rSlotQ A ns nj j a (rRec A ns nj j a k).toNatClampNeg < rSlotQ A ns nj j a k then nI k else rRec A ns nj j a k)
    rw [RF.rec h ns nj j a k]
    simp only [h.slotQ]
theorem RF.setOf (h : RF s0 S A nq nt) (a : Nat) (mo : Int32) : rSetOf S a mo = rSetOf A a mo := by
  unfold rSetOf
  rw [h.2.1 37 rfl a]
theorem RF.stale (h : RF s0 S A nq nt) {g : Nat} (hg : mI S 257 0 = nI g) (j : Nat) : rStale S j = stG A g j := by
  unfold rStale stG
  rw [h.1 247 rfl j, h.1 241 rfl j, hg]
theorem RF.wrong (h : RF s0 S A nq nt) (j : Nat) : rWrong (mI S 247 j) (mI S 246 j) (mI S 245 j) (mI S 248 j) = rWrong (mI A 247 j) (mI A 246 j) (mI A 245 j) (mI A 248 j) := by
  rw [h.1 247 rfl j, h.1 246 rfl j, h.1 245 rfl j, h.1 248 rfl j]
theorem RF.len (h : RF s0 S A nq nt) (j : Nat) : rLen (mI S 244 j) (mI S 243 j) (mI S 248 j) = rLen (mI A 244 j) (mI A 243 j) (mI A 248 j) := by
  rw [h.1 244 rfl j, h.1 243 rfl j, h.1 248 rfl j]
theorem RF.hNq (h : RF s0 S A nq nt) : hN S = hN A := by
  show (mI S 257 0).toNatClampNeg = (mI A 257 0).toNatClampNeg
  rw [h.1 257 rfl 0]
theorem RF.told (h : RF s0 S A nq nt) (i : Nat) : ∀ n, rTold S i n = rTold A i n
  | 0 => rfl
  | n + 1 => by
    show (if mI S 240 n = nI i then rTold S i n + 1 else rTold S i n) = (if mI A 240 n = nI i then rTold A i n + 1 else rTold A i n)
    rw [RF.told h i n, h.1 240 rfl n]
theorem RF.repd (h : RF s0 S A nq nt) (i : Nat) : ∀ n, rRepd S i n = rRepd A i n
  | 0 => rfl
  | n + 1 => by
    show (if mI S 240 n = nI i then rRepd S i n + (if mI S 247 n ≠ -1 then 1 else 0) else rRepd S i n) = (if mI A 240 n = nI i then rRepd A i n + (if mI A 247 n ≠ -1 then 1 else 0) else rRepd A i n)
    rw [RF.repd h i n, h.1 240 rfl n, h.1 247 rfl n]
theorem RF.sta (h : RF s0 S A nq nt) (ns nj i q : Nat) : rStaNow S ns nj nt i q = rStaNow A ns nj nt i q := by
  unfold rStaNow
  simp only [h.1 224 rfl i, h.1 225 rfl i, h.1 226 rfl i, h.1 227 rfl i, h.1 228 rfl i, h.1 229 rfl i, h.comes, h.told, h.repd, h.hNq]
theorem RF.talk (h : RF s0 S A nq nt) (j q : Nat) : rTalkNow S j q = rTalkNow A j q := by
  unfold rTalkNow
  simp only [h.1 240 rfl j, h.1 241 rfl j, h.1 242 rfl j, h.1 243 rfl j, h.1 244 rfl j, h.1 245 rfl j, h.1 246 rfl j, h.1 247 rfl j, h.1 257 rfl 0]
theorem RF.rep (h : RF s0 S A nq nt) (j q : Nat) : (if mI S 247 j = -1 then -2 else rRepNow S j q) = (if mI A 247 j = -1 then -2 else rRepNow A j q) := by
  unfold rRepNow
  simp only [h.1 243 rfl j, h.1 244 rfl j, h.1 245 rfl j, h.1 246 rfl j, h.1 247 rfl j, h.1 248 rfl j, h.1 249 rfl j, h.1 250 rfl j, h.1 251 rfl j, h.1 253 rfl j]
theorem RF.rea (h : RF s0 S A nq nt) (r q : Nat) : rReaNow S nt r q = rReaNow A nt r q := by
  have e5 : ∀ j, mI S 245 j = mI A 245 j := h.1 245 rfl
  have e6 : ∀ j, mI S 246 j = mI A 246 j := h.1 246 rfl
  have e7 : ∀ j, mI S 247 j = mI A 247 j := h.1 247 rfl
  have e8 : ∀ j, mI S 248 j = mI A 248 j := h.1 248 rfl
  unfold rReaNow
  simp only [h.1 208 rfl r, h.1 209 rfl r, h.2.1 35 rfl r, e5, e6, e7, e8]
theorem RF.mon (h : RF s0 S A nq nt) (mo q : Nat) : rMonNow S mo q = rMonNow A mo q := by
  unfold rMonNow
  simp only [h.2.1 34 rfl mo, h.1 193 rfl mo, h.1 194 rfl mo, h.1 195 rfl mo, h.setOf, h.hNq]
theorem RF.used (h : RF s0 S A nq nt) (a b d e : Int32) : rUsed S nt a b d e = rUsed A nt a b d e := rCnt_c nt (fun k _ => by
  unfold rUsedP
  rw [h.1 247 rfl k, h.tSq, h.1 226 rfl _, h.1 241 rfl k, h.1 245 rfl k, h.1 248 rfl k])
theorem RF.gone (h : RF s0 S A nq nt) (a : Int32) : ∀ k, rGone S nt a k = rGone A nt a k
  | 0 => rfl
  | k + 1 => by
    have e : rGoneC S nt a k = rGoneC A nt a k := by
      unfold rGoneC
      rw [h.used, h.used, h.used, h.1 257 rfl 0]
    unfold rGone
    rw [RF.gone h a k, e]
theorem RF.first (h : RF s0 S A nq nt) (a : Int32) : ∀ k, rFirst S a k = rFirst A a k
  | 0 => rfl
  | k + 1 => by
    unfold rFirst
    rw [RF.first h a k, h.1 247 rfl k, h.1 242 rfl k, h.1 252 rfl k, h.1 252 rfl _]
theorem sI_sw {S : HS} {f i g k : Nat} {a b : Int32} (h : ¬ f = g) : sI (sI S f i a) g k b = sI (sI S g k b) f i a := by
  show (_, _, up2 (up2 _ f i a) g k b, _) = _
  rw [up2_sw _ a b (fun y => h y.1)]; rfl
theorem seT0_sw {A : HS} {g j : Nat} : seT0 A g j = sI (sI (sI (sI (sI A 247 j 1) 251 j (nI g)) 261 0 (mI A 261 0 + 1)) 252 j (mI A 261 0)) 258 0 (mI A 258 0 - rLen (mI A 244 j) (mI A 243 j) (mI A 248 j)) := by
  unfold seT0
  rw [sI_sw (f := 252) (g := 261) (by decide)]
theorem rec_end {T : HS} {ns nj a b m j : Nat} {q x : Int32} (h : RF s0 T (sI (sI (sI (sI (sI A 249 j (nI b)) 250 j (nI m)) 248 j q) 195 m (mI A 195 m + 1)) 247 j x) nq nt) (em : m = sitN A a b) (eq : q = rQual A ns nj (sitN A a b) (tS A j) (nI a)) (ex : x = recS A j) (er : rRec A ns nj j a 3 = nI b) (hb : b < 3) : RF s0 T (recA A ns nj a j) nq nt := by
  subst em eq ex
  unfold recA
  rw [er, if_neg (nI_neg1 (by omega)), nI_clamp (by omega)]
  exact h
end RFS

