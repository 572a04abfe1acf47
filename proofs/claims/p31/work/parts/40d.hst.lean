/-- how a report made now stands -/
def recS (A : HS) (j : Nat) : Int32 := if rSort (mI A 244 j) = 0 then 4 else if rSort (mI A 244 j) < 3 ∧ sIn (mI A 259 0) (mI A 226 (tS A j)) = true then 3 else 0
/-- the record of the set b counts for the talk j -/
def recB (A : HS) (ns nj x j b : Nat) : HS := sI (sI (sI (sI (sI A 249 j (nI b)) 250 j (nI (sitN A x b))) 248 j (rQual A ns nj (sitN A x b) (tS A j) (nI x))) 195 (sitN A x b) (mI A 195 (sitN A x b) + 1)) 247 j (recS A j)
def recA (A : HS) (ns nj x j : Nat) : HS := if rRec A ns nj j x 3 = -1 then A else recB A ns nj x j (rRec A ns nj j x 3).toNatClampNeg
/-- the first n talks, those of this hour: reports -/
def recL (A : HS) (ns nj g : Nat) : Nat → HS
  | 0 => A
  | k + 1 => if mI A 241 k = nI g then recA (recL A ns nj g k) ns nj (g % 24) k else recL A ns nj g k
/-- the first n monitors: weary -/
def tiL (A : HS) (x : Nat) : Nat → HS
  | 0 => A
  | k + 1 => sI (sI (tiL A x k) 193 k (rHold (mI A 193 k + (if rSetOf A x (nI k) = -1 then -2 else 3)) 0 40)) 194 k (mI A 194 k + (if rSetOf A x (nI k) = -1 then 0 else 1))
def stG (A : HS) (g j : Nat) : Bool := decide (mI A 247 j = 0) && decide (24 ≤ nI g - mI A 241 j)
def stL (A : HS) (g : Nat) : Nat → HS
  | 0 => A
  | k + 1 => if stG A g k = true then sI (stL A g k) 247 k 2 else stL A g k
/-- the readers who have the report of the talk j have its correction, too -/
def goT (A : HS) (j : Nat) : Nat → HS
  | 0 => A
  | r + 1 => if mA A 35 r j = 1 then sA (goT A j r) 35 r (upd (mA A 35 r) j 2) else goT A j r
def coL (A : HS) (nr : Nat) : Nat → HS
  | 0 => A
  | k + 1 => goT (sI (sI (coL A nr k) 258 0 (mI (coL A nr k) 258 0 - 10)) 253 (qT A k) 2) (qT A k) nr
/-- how many corrections the wire takes -/
def coN (A : HS) : Nat := min ((mI A 258 0).toNatClampNeg / 10) (qN A)
def coA (A : HS) (nr : Nat) : HS := sQ (coL A nr (coN A)) (qN A - coN A) (fun i => mA A 60 0 (i + coN A))
/-- a report is sent: those who asked for it have it -/
def goS (A : HS) (j : Nat) : Nat → HS
  | 0 => A
  | r + 1 => if (sIn (mI A 208 r) (mI A 226 (tS A j)) && sIn (mI A 209 r) (mI A 242 j)) = true then sA (goS A j r) 35 r (upd (mA A 35 r) j 1) else goS A j r
def enA (A : HS) (j : Nat) : HS := if (rWrong (mI A 247 j) (mI A 246 j) (mI A 245 j) (mI A 248 j) && decide (mI A 253 j = 0)) = true then sQ (sI A 253 j 1) (qN A + 1) (upd (mA A 60 0) (qN A) (nI j)) else A
def seT0 (A : HS) (g j : Nat) : HS := sI (sI (sI (sI (sI A 247 j 1) 251 j (nI g)) 252 j (mI A 261 0)) 261 0 (mI A 261 0 + 1)) 258 0 (mI A 258 0 - rLen (mI A 244 j) (mI A 243 j) (mI A 248 j))
def seT (A : HS) (nr g j : Nat) : HS := enA (goS (seT0 A g j) j nr) j
/-- the next one for so many words -/
def nxP (A : HS) (g : Nat) (left : Int32) (j : Nat) : Bool := decide (mI A 247 j = 0) && (!(stG A g j) && decide (¬ left < rLen (mI A 244 j) (mI A 243 j) (mI A 248 j)))
def nxB (A : HS) (j b : Nat) : Bool := decide (rSort (mI A 244 b) < rSort (mI A 244 j)) || (decide (rSort (mI A 244 j) = rSort (mI A 244 b)) && decide (mI A 244 b < mI A 244 j))
def rNx (A : HS) (P : Nat → Bool) : Nat → Int32
  | 0 => -1
  | k + 1 => if P k = true ∧ (rNx A P k = -1 ∨ nxB A k (rNx A P k).toNatClampNeg = true) then nI k else rNx A P k
def seL (A : HS) (nt nr g : Nat) : Nat → HS
  | 0 => A
  | f + 1 => if rNx A (nxP A g (mI A 258 0)) nt = -1 then A else seL (seT A nr g (rNx A (nxP A g (mI A 258 0)) nt).toNatClampNeg) nt nr g f
def dyA (A : HS) (g : Nat) : HS := if (g + 1) % 24 = 0 then sI A 258 0 600 else A
/-- an hour that is over: what it does to the picture, but for the hour itself -/
def hoB (A : HS) (ns nj nm nt nr g : Nat) : HS := (seL (coA (stL (tiL (recL A ns nj g nt) (g % 24) nm) g nt) nr) nt nr g (nt + 1))
def hoA (A : HS) (ns nj nm nt nr g : Nat) : HS := dyA (sI (hoB A ns nj nm nt nr g) 257 0 (nI (g + 1))) g
/-- n hours -/
def hoN (A : HS) (ns nj nm nt nr g : Nat) : Nat → HS
  | 0 => A
  | n + 1 => hoA (hoN A ns nj nm nt nr g n) ns nj nm nt nr (g + n)

