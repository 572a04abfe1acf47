/-! what the hours move: weary, sat, reports; the talks from 247 on; the wire, the sendings; what readers have; the queue -/
def hvM (t _ : Nat) : Bool := t == 35 || t == 60
def hiM (f _ : Nat) : Bool := (Nat.ble 247 f && Nat.ble f 255) || ((Nat.ble 193 f && Nat.ble f 195) || (f == 257 || (f == 258 || f == 261)))
def hrM (_ _ : Nat) : Bool := false
abbrev KM (A B : HS) : Prop := Kq hvM hiM hrM A B
theorem km_sQ {A B : HS} {n : Nat} {f : Nat → Int32} (k : KM A B) : KM A (sQ B n f) := k.tr ⟨fun t i z => by
  have c : ¬ (t = 60 ∧ i = 0) := fun y => by rw [y.1, y.2] at z; exact absurd z (by decide)
  exact ⟨rfl, rfl, up2_n c, rfl, up2_n c⟩, fun _ _ _ => rfl, fun _ _ _ => rfl, fun _ _ => ⟨rfl, rfl⟩⟩
theorem km_recB {A : HS} {ns nj x j b : Nat} : KM A (recB A ns nj x j b) := ((((Kq.rf.sI rfl).sI rfl).sI rfl).sI rfl).sI rfl
theorem km_recA {A : HS} {ns nj x j : Nat} : KM A (recA A ns nj x j) := by
  unfold recA
  split
  · exact Kq.rf
  · exact km_recB
theorem km_recL {A : HS} {ns nj g : Nat} : ∀ n, KM A (recL A ns nj g n)
  | 0 => Kq.rf
  | n + 1 => by
    show KM A (if mI A 241 n = nI g then recA (recL A ns nj g n) ns nj (g % 24) n else recL A ns nj g n)
    split
    · exact (km_recL n).tr km_recA
    · exact km_recL n
theorem km_tiL {A : HS} {x : Nat} : ∀ n, KM A (tiL A x n)
  | 0 => Kq.rf
  | n + 1 => ((km_tiL n).sI rfl).sI rfl
theorem km_stL {A : HS} {g : Nat} : ∀ n, KM A (stL A g n)
  | 0 => Kq.rf
  | n + 1 => by
    show KM A (if stG A g n = true then sI (stL A g n) 247 n 2 else stL A g n)
    split
    · exact (km_stL n).sI rfl
    · exact km_stL n
theorem km_goT {A : HS} {j : Nat} : ∀ n, KM A (goT A j n)
  | 0 => Kq.rf
  | n + 1 => by
    show KM A (if mA A 35 n j = 1 then sA (goT A j n) 35 n (upd (mA A 35 n) j 2) else goT A j n)
    split
    · exact (km_goT n).sA rfl
    · exact km_goT n
theorem km_goS {A : HS} {j : Nat} : ∀ n, KM A (goS A j n)
  | 0 => Kq.rf
  | n + 1 => by
    show KM A (if (sIn (mI A 208 n) (mI A 226 (tS A j)) && sIn (mI A 209 n) (mI A 242 j)) = true then sA (goS A j n) 35 n (upd (mA A 35 n) j 1) else goS A j n)
    split
    · exact (km_goS n).sA rfl
    · exact km_goS n
theorem km_enA {A : HS} {j : Nat} : KM A (enA A j) := by
  unfold enA
  split
  · exact km_sQ (Kq.rf.sI rfl)
  · exact Kq.rf
theorem km_seT0 {A : HS} {g j : Nat} : KM A (seT0 A g j) := ((((Kq.rf.sI rfl).sI rfl).sI rfl).sI rfl).sI rfl
theorem km_seT {A : HS} {nr g j : Nat} : KM A (seT A nr g j) := (km_seT0.tr (km_goS nr)).tr km_enA
/-- what the hours leave -/
theorem RC.pic {S A B : HS} {ns nj nt : Nat} (h : RC S A ns nj nt) (k : KM A B) : RC S B ns nj nt := by
  obtain ⟨h1, h2, h3, h4, h5, h6⟩ := h
  refine ⟨fun j hj => ?_, fun j hj => ?_, fun x q hx hq => ?_, fun j hj => ?_, ?_, fun x q l hx hq hl hn z => ?_⟩
  · rw [show mI B 229 j = mI A 229 j from k.I rfl, show mI B 224 j = mI A 224 j from k.I rfl, show mI B 225 j = mI A 225 j from k.I rfl, show mI B 226 j = mI A 226 j from k.I rfl, show mI B 227 j = mI A 227 j from k.I rfl, show mI B 228 j = mI A 228 j from k.I rfl]
    exact h1 j hj
  · rw [show mA B 33 j = mA A 33 j from (k.1 33 j rfl).2.2.2.2]; exact h2 j hj
  · rw [show mA B 36 x = mA A 36 x from (k.1 36 x rfl).2.2.2.2, show mA B 37 x = mA A 37 x from (k.1 37 x rfl).2.2.2.2]; exact h3 x q hx hq
  · rw [show mI B 240 j = mI A 240 j from k.I rfl, show mI B 241 j = mI A 241 j from k.I rfl, show mI B 242 j = mI A 242 j from k.I rfl, show mI B 243 j = mI A 243 j from k.I rfl, show mI B 244 j = mI A 244 j from k.I rfl, show mI B 245 j = mI A 245 j from k.I rfl]
    exact h4 j hj
  · rw [show mI B 259 0 = mI A 259 0 from k.I rfl]; exact h5
  · rw [show mA B 37 x = mA A 37 x from (k.1 37 x rfl).2.2.2.2] at z ⊢
    exact h6 x q l hx hq hl hn z
theorem RCd.pic {S A B : HS} {nr : Nat} (h : RCd S A nr) (k : KM A B) : RCd S B nr := fun r hr => by
  rw [show mI B 208 r = mI A 208 r from k.I rfl, show mI B 209 r = mI A 209 r from k.I rfl]; exact h r hr
theorem RCp.pic {S A B : HS} {nt : Nat} (h : RCp S A nt) (k : KM A B) : RCp S B nt := fun j hj => by
  rw [show mI B 246 j = mI A 246 j from k.I rfl]; exact h j hj
/-- .. of its order, too, where the talks' states and qualities are told -/
theorem AOK.pic {A B : HS} {ns nm nt : Nat} (h : AOK A ns nm nt) (k : KM A B) (hq : ∀ j, j < nt → mI B 247 j = -1 ∨ ∃ q m, 1 ≤ q ∧ q ≤ 18 ∧ m < nm ∧ mI B 248 j = nI q ∧ mI B 250 j = nI m) : AOK B ns nm nt := by
  obtain ⟨h1, h2, h3, h4⟩ := h
  refine ⟨fun x q hx hq => ?_, fun j hj => ?_, fun j hj => ?_, hq⟩
  · rw [show mA B 36 x = mA A 36 x from (k.1 36 x rfl).2.2.2.2, show mA B 37 x = mA A 37 x from (k.1 37 x rfl).2.2.2.2]; exact h1 x q hx hq
  · rw [show mI B 227 j = mI A 227 j from k.I rfl]; exact h2 j hj
  · rw [show mI B 241 j = mI A 241 j from k.I rfl, show mI B 243 j = mI A 243 j from k.I rfl, show mI B 244 j = mI A 244 j from k.I rfl, show mI B 245 j = mI A 245 j from k.I rfl, show mI B 246 j = mI A 246 j from k.I rfl]
    exact h3 j hj

