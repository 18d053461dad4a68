/-! What the methods of the class do to d, in the order in which they do it. -/
def hasI (x : Int32) (i : Nat) : Int32 := if (x >>> (nI i &&& 31)) &&& 1 = 1 then 1 else 0
def withI (x : Int32) (i : Nat) : Int32 := x ||| ((1 : Int32) <<< (nI i &&& 31))
def woutI (x : Int32) (i : Nat) : Int32 := x &&& (((1 : Int32) <<< (nI i &&& 31)) ^^^ (-1))
def packI (b v : Int32) : Int32 := 2 * b + v
def balI (x : Int32) : Int32 := if x = -1 then -1 else x / 2
def votI (x : Int32) : Int32 := if x - x / 2 * 2 = 0 then 0 else 1
theorem lp_out {k B : Nat} {x : Int32} (hx : x = nI B) (hB : B < 2 ^ 31) (hk : k ≤ B) (c : x ≤ nI k) : k = B := by
  subst hx
  have := (nI_leI (a := B) (b := k) (by omega) (by omega)).mp c
  omega
theorem lp_in {k B : Nat} {x : Int32} (hx : x = nI B) (hB : B < 2 ^ 31) (hk : k ≤ B) (c : ¬ x ≤ nI k) : k < B := by
  subst hx
  rcases Nat.lt_or_ge k B with q | q
  · exact q
  · exact absurd (nI_le q (by omega)) c
theorem hasI_01 (x : Int32) (i : Nat) : hasI x i = 0 ∨ hasI x i = 1 := by unfold hasI; split <;> simp
/-- stores -/
def f_keep (d : DD) (s t k : Nat) (v : Int32) : DD := up2 (up2 (up2 (up2 d (s + 40) t 1) (s + 30) k (nI t)) (s + 50) t (withI (d (s + 50) t) k)) (8 * s + t + 70) k v
def lpUnlock (d : DD) (s : Nat) (t : Int32) : Nat → DD
  | 0 => d
  | k + 1 => if lpUnlock d s t k (s + 30) k = t then up2 (lpUnlock d s t k) (s + 30) k (-1) else lpUnlock d s t k
def f_abort (d : DD) (s t : Nat) : DD := lpUnlock (up2 d (s + 40) t 4) s (nI t) 4
def lpCommit (d : DD) (s t : Nat) : Nat → DD
  | 0 => d
  | k + 1 => if hasI (lpCommit d s t k (s + 50) t) k = 0 then lpCommit d s t k else up2 (lpCommit d s t k) (s + 20) k (lpCommit d s t k (8 * s + t + 70) k)
def f_commit (d : DD) (s t : Nat) : DD := lpUnlock (up2 (lpCommit d s t 4) (s + 40) t 3) s (nI t) 4
def lpAW (d : DD) (s : Nat) : Nat → DD
  | 0 => d
  | t + 1 => if lpAW d s t (s + 40) t = 1 then f_abort (lpAW d s t) s t else lpAW d s t
def lockedI (d : DD) (s t k : Nat) : Int32 := if d (s + 30) k = -1 then 0 else if d (s + 30) k = nI t then 0 else 1
def openI (d : DD) (s t : Nat) : Int32 := if d (s + 40) t = 0 then 1 else if d (s + 40) t = 1 then 1 else 0
/-- acceptors -/
def abvI (d : DD) (a t : Nat) (mem b : Int32) : Nat → Int32
  | 0 => 0
  | i + 1 => if hasI mem i = 0 then abvI d a t mem b i else if d (8 * a + t + 130) i ≤ b then abvI d a t mem b i else 1
def lpProm (d : DD) (a t : Nat) (mem b : Int32) : Nat → DD
  | 0 => d
  | i + 1 => if hasI mem i = 0 then lpProm d a t mem b i else up2 (lpProm d a t mem b i) (8 * a + t + 130) i b
def f_accept (d : DD) (a t s : Nat) (b v : Int32) : DD := up2 (up2 d (8 * a + t + 130) s b) (8 * a + t + 160) s (packI b v)
/-- ledgers -/
def lpFill (d : DD) (cn : Nat) (v : Int32) : Nat → DD
  | 0 => d
  | k + 1 => up2 (lpFill d cn v k) cn k v
def f_fill (d : DD) (cn n : Nat) (v : Int32) : DD := lpFill d cn v n
def fmI (x y : Int32) : Int32 := if 0 ≤ x ^^^ y then x - x / y * y else if x - x / y * y = 0 then x - x / y * y else x - x / y * y + y
def us (x : Int32) (k : Int32) : Int32 := (x.toUInt32 >>> (k.toUInt32 &&& Int32.toUInt32 31)).toInt32
def bcI (x : Int32) : Int32 :=
  let y1 := x - (us x 1 &&& 1431655765)
  let y2 := (y1 &&& 858993459) + (us y1 2 &&& 858993459)
  let y3 := (y2 + us y2 4) &&& 252645135
  let y4 := y3 + us y3 8
  let y5 := y4 + us y4 16
  y5 &&& 63
def lpDrop (d : DD) (i : Nat) : Nat → DD
  | 0 => d
  | a + 1 => up2 (lpDrop d i a) (i + 220) a 0
def lpForget (d : DD) (i : Nat) : Nat → DD
  | 0 => d
  | a + 1 => f_fill (lpForget d i a) (4 * i + a + 350) 3 (-1)
def f_forget (d : DD) (n i : Nat) : DD := lpForget (lpDrop (up2 (up2 d (i + 200) 1 1) (i + 200) 2 (-1)) i n) i n
def lpKR (d : DD) (i a : Nat) : Nat → DD
  | 0 => d
  | s + 1 => up2 (lpKR d i a s) (4 * i + a + 280) s (lpKR d i a s 551 s)
def cntI (d : DD) (i : Nat) : Nat → Int32
  | 0 => 0
  | a + 1 => cntI d i a + (if d (i + 220) a = 0 then 0 else 1)
def bstI (d : DD) (i s : Nat) : Nat → Int32
  | 0 => -1
  | a + 1 => if d (i + 220) a = 0 then bstI d i s a else if balI (d (4 * i + a + 280) s) ≤ balI (bstI d i s a) then bstI d i s a else d (4 * i + a + 280) s
def vtpI (d : DD) (n i s : Nat) : Int32 := if bstI d i s n = -1 then 0 else votI (bstI d i s n)
def f_hear (d : DD) (i a s : Nat) (b v : Int32) : DD := if b ≤ balI (d (4 * i + a + 350) s) then d else up2 d (4 * i + a + 350) s (packI b v)
def sameI (d : DD) (i s : Nat) (x : Int32) : Nat → Int32
  | 0 => 0
  | b + 1 => sameI d i s x b + (if d (4 * i + b + 350) s = x then 1 else 0)
def dvF (d : DD) (n i s : Nat) (mj : Int32) : Nat → Int32
  | 0 => -1
  | k + 1 => if d (4 * i + (n - (k + 1)) + 350) s = -1 then dvF d n i s mj k else if sameI d i s (d (4 * i + (n - (k + 1)) + 350) s) n < mj then dvF d n i s mj k else votI (d (4 * i + (n - (k + 1)) + 350) s)
def outF (d : DD) (n i : Nat) (mem mj : Int32) : Nat → Int32
  | 0 => 1
  | s + 1 => if hasI mem s = 0 then outF d n i mem mj s else if dvF d n i s mj n = -1 then -1 else outF d n i mem mj s
def jgF (d : DD) (n i : Nat) (mem mj : Int32) : Nat → Int32
  | 0 => outF d n i mem mj 3
  | k + 1 => if hasI mem (3 - (k + 1)) = 0 then jgF d n i mem mj k else if dvF d n i (3 - (k + 1)) mj n = 0 then 0 else jgF d n i mem mj k
/-- messages -/
def f_cl7 (d : DD) (j : Nat) (kd t : Int32) : DD := up2 (up2 (up2 (up2 (up2 (up2 (up2 d (j + 420) 0 kd) (j + 420) 1 t) (j + 420) 2 (-1)) (j + 420) 3 (-1)) (j + 420) 4 (-1)) (j + 420) 5 (-1)) (j + 420) 6 (-1)
def f_clear (d : DD) (j : Nat) (kd t : Int32) : DD := f_fill (f_cl7 d j kd t) (j + 490) 3 (-1)
def f_cm7 (d : DD) (a b : Nat) : DD := up2 (up2 (up2 (up2 (up2 (up2 (up2 d (b + 420) 0 (d (a + 420) 0)) (b + 420) 1 (d (a + 420) 1)) (b + 420) 2 (d (a + 420) 2)) (b + 420) 3 (d (a + 420) 3)) (b + 420) 4 (d (a + 420) 4)) (b + 420) 5 (d (a + 420) 5)) (b + 420) 6 (d (a + 420) 6)
def f_copy (d : DD) (a b : Nat) : DD := f_cp3 (f_cm7 d a b) (a + 490) (b + 490) 3
def rkI (x : Int32) : Int32 := if x = 0 then 0 else if x = 5 then 0 else if x = 1 then 1 else if x = 3 then 1 else 2
def rcvI (d : DD) (j : Nat) : Int32 := if rkI (d (j + 420) 0) = 0 then d (j + 420) 2 else if rkI (d (j + 420) 0) = 1 then d (j + 420) 3 else d (j + 420) 4
/-- the net -/
def shR (d : DD) (i : Nat) : Nat → DD
  | 0 => d
  | m + 1 => up2 (shR d i m) 8 (i + m) (shR d i m 8 (i + m + 1))
theorem abvI_01 (d : DD) (a t : Nat) (mem b : Int32) : ∀ i : Nat, abvI d a t mem b i = 0 ∨ abvI d a t mem b i = 1
  | 0 => Or.inl rfl
  | i + 1 => by
    unfold abvI
    split
    · exact abvI_01 d a t mem b i
    · split
      · exact abvI_01 d a t mem b i
      · exact Or.inr rfl
theorem dvF_skip {d : DD} {n i s a : Nat} {mj : Int32} (lt : a < n) (h : d (4 * i + a + 350) s = -1 ∨ sameI d i s (d (4 * i + a + 350) s) n < mj) : dvF d n i s mj (n - a) = dvF d n i s mj (n - (a + 1)) := by
  have e : n - a = (n - (a + 1)) + 1 := by omega
  have e2 : n - ((n - (a + 1)) + 1) = a := by omega
  rw [e]
  simp only [dvF, e2]
  rcases h with h | h
  · rw [if_pos h]
  · by_cases h0 : d (4 * i + a + 350) s = -1
    · rw [if_pos h0]
    · rw [if_neg h0, if_pos h]
theorem dvF_hit {d : DD} {n i s a : Nat} {mj : Int32} (lt : a < n) (h0 : ¬ d (4 * i + a + 350) s = -1) (h : ¬ sameI d i s (d (4 * i + a + 350) s) n < mj) : dvF d n i s mj (n - a) = votI (d (4 * i + a + 350) s) := by
  have e : n - a = (n - (a + 1)) + 1 := by omega
  have e2 : n - ((n - (a + 1)) + 1) = a := by omega
  rw [e]
  simp only [dvF, e2]
  rw [if_neg h0, if_neg h]
theorem jgF_out {d : DD} {n i s : Nat} {mem mj : Int32} (lt : s < 3) (h : hasI mem s = 0) : jgF d n i mem mj (3 - s) = jgF d n i mem mj (3 - (s + 1)) := by
  have e : 3 - s = (3 - (s + 1)) + 1 := by omega
  have e2 : 3 - ((3 - (s + 1)) + 1) = s := by omega
  rw [e]
  simp only [jgF, e2]
  rw [if_pos h]
theorem jgF_on {d : DD} {n i s : Nat} {mem mj : Int32} (lt : s < 3) (h : ¬ hasI mem s = 0) (h2 : ¬ dvF d n i s mj n = 0) : jgF d n i mem mj (3 - s) = jgF d n i mem mj (3 - (s + 1)) := by
  have e : 3 - s = (3 - (s + 1)) + 1 := by omega
  have e2 : 3 - ((3 - (s + 1)) + 1) = s := by omega
  rw [e]
  simp only [jgF, e2]
  rw [if_neg h, if_neg h2]
theorem jgF_zero {d : DD} {n i s : Nat} {mem mj : Int32} (lt : s < 3) (h : ¬ hasI mem s = 0) (h2 : dvF d n i s mj n = 0) : jgF d n i mem mj (3 - s) = 0 := by
  have e : 3 - s = (3 - (s + 1)) + 1 := by omega
  have e2 : 3 - ((3 - (s + 1)) + 1) = s := by omega
  rw [e]
  simp only [jgF, e2]
  rw [if_neg h, if_pos h2]
