/-! The class's face: when it throws what, what it does and answers otherwise. -/
abbrev IAE : String := "java/lang/IllegalArgumentException"
abbrev NSE : String := "java/util/NoSuchElementException"
abbrev ISE : String := "java/lang/IllegalStateException"
abbrev UOE : String := "java/lang/UnsupportedOperationException"
abbrev IOE : String := "java/lang/IndexOutOfBoundsException"
def cl (x : Int32) : Nat := x.toNatClampNeg
theorem cl_nI {j : Nat} (h : j < 2147483648) : cl (nI j) = j := nI_clamp h
abbrev xs (a b : Option String) : Option String := match a with
  | none => b
  | some e => some e
def rgX (x y : Int32) : Option String := if x < 0 then some IAE else if x < y then none else some IAE
def bgX (d : DD) (t : Int32) : Option String := if t < d 0 8 then none else some NSE
def upX (d : DD) (k w : Nat) : Option String := if hasI (d 4 k) w = 0 then some ISE else none
def msX (d : DD) (i : Int32) : Option String := if i < 0 then some IOE else if i < d 5 1 then none else some IOE
theorem rg_nat {x : Int32} {B : Nat} (hB : B < 2 ^ 31) (h : rgX x (nI B) = none) : ∃ j, j < B ∧ x = nI j := by
  unfold rgX at h
  split at h
  · cases h
  · rename_i h0
    split at h
    · rename_i h1
      obtain ⟨j, hj, rfl⟩ := nI_of h0
      exact ⟨j, (nI_ltI hj hB).mp h1, rfl⟩
    · cases h
theorem ms_nat {d : DD} {x : Int32} {z : Nat} (hz : z < 2 ^ 31) (fz : d 5 1 = nI z) (h : msX d x = none) : ∃ j, j < z ∧ x = nI j := by
  unfold msX at h
  rw [fz] at h
  split at h
  · cases h
  · rename_i h0
    split at h
    · rename_i h1
      obtain ⟨j, hj, rfl⟩ := nI_of h0
      exact ⟨j, (nI_ltI hj hz).mp h1, rfl⟩
    · cases h
def bnX (d : DD) : Option String := if d 0 8 < 8 then none else some ISE
def wrX (d : DD) (t s k : Int32) : Option String := xs (rgX t 8) (xs (rgX s 3) (xs (rgX k 4) (xs (bgX d t) (xs (upX d 0 (cl s)) (if lockedI d (cl s) (cl t) (cl k) = 0 then (if d 7 (cl t) = 0 then (if openI d (cl s) (cl t) = 0 then some UOE else none) else some UOE) else some ISE)))))
def f_write (d : DD) (t s k : Nat) (v : Int32) : DD := up2 (f_keep d s t k v) 6 t (withI (f_keep d s t k v 6 t) s)
def rqX (d : DD) (t : Int32) : Option String := xs (rgX t 8) (xs (bgX d t) (if d 6 (cl t) = 0 then some ISE else if d 7 (cl t) = 0 then none else some UOE))
def rfX (d : DD) (t s : Int32) : Option String := xs (rgX t 8) (xs (rgX s 3) (xs (bgX d t) (xs (upX d 0 (cl s)) (if d (cl s + 40) (cl t) = 1 then none else some UOE))))
def f_refuse (d : DD) (n t s : Nat) : DD := lpSV (f_abort d s t) (nI t) (nI s) 0 0 n
def tkX (d : DD) (ld t : Int32) : Option String := xs (rgX ld 2) (xs (rgX t 8) (xs (bgX d t) (xs (upX d 2 (cl ld)) (if d 7 (cl t) = 0 then some UOE else none))))
def f_take (d : DD) (n ld t : Nat) : DD := lpSA (f_raise d n (ld * 8 + t) (nI ld)) (nI t) (rsI (d (ld * 8 + t + 200) 0) (nI ld)) n
def vlX (s k : Int32) : Option String := xs (rgX s 3) (rgX k 4)
def stX (d : DD) (t s : Int32) : Option String := xs (rgX t 8) (xs (rgX s 3) (bgX d t))
def ocX (d : DD) (ld t : Int32) : Option String := xs (rgX ld 2) (xs (rgX t 8) (xs (bgX d t) (if d (cl ld * 8 + cl t + 200) 2 = -1 then some ISE else none)))
def ocI (x : Int32) : Int32 := if x = 1 then 0 else 1
def tnX (n : Nat) (d : DD) (a t s : Int32) : Option String := xs (rgX a (nI n)) (xs (rgX t 8) (xs (rgX s 3) (bgX d t)))
def tnI (d : DD) (a t s : Nat) (p : Int32) : Int32 := if p = 0 then d (8 * a + t + 160) s else d (8 * a + t + 130) s
def ctI (d : DD) (n : Nat) (x : Int32) : Int32 := if x = 0 then d 5 1 else if x = 1 then d 5 2 else if x = 2 then d 0 8 else if x = 3 then nI n else if x = 4 then d 4 0 else if x = 5 then d 4 1 else d 4 2
