/-! The reference's text. -/
def psI (l c : Int32) : Int32 := if 0 ≤ l then (if l = 0 then -c - 1 else l - 1) else l
def psL : Int32 → List Nat → Int32
  | l, [] => l
  | l, c :: L => psL (psI l (nI c)) L
def ppI (l c v : Int32) : Int32 := if 0 ≤ v then psL (psI l c) (dgl v.toNatClampNeg) else l
def pvI (l v : Int32) : Int32 := if 0 ≤ v then psI l (if v = 1 then 89 else 78) else l
def prI (d : DD) (i : Nat) (l : Int32) (s : Nat) : Int32 := if 0 ≤ d 624 (13 * i + 7 + s) then pvI (psL l (dgl (d 624 (13 * i + 7 + s)).toNatClampNeg)) (d 624 (13 * i + 10 + s)) else psI l 45
def pxI (d : DD) (i : Nat) (l : Int32) : Int32 := pvI (ppI (ppI (ppI (ppI (ppI (psI l (d 624 (13 * i))) 116 (d 624 (13 * i + 1))) 115 (d 624 (13 * i + 2))) 97 (d 624 (13 * i + 3))) 108 (d 624 (13 * i + 4))) 98 (d 624 (13 * i + 5))) (d 624 (13 * i + 6))
def pyI (d : DD) (i : Nat) (l : Int32) : Int32 := if d 624 (13 * i) = 82 then prI d i (prI d i (prI d i (pxI d i l) 0) 1) 2 else pxI d i l
def peI (l : Int32) : Int32 := if 0 ≤ l then -1 else -l - 1
def mR_text (d : DD) (i : Nat) (k : Int32) : Int32 := peI (pyI d i k)
def mC_text (d : DD) (i k : Int32) : Int32 := if 0 ≤ k then (if outI i (d 600 25) = 0 then 0 else 2) else 1
def MmTx (d : DD) (i : Nat) : Prop := (∀ k, 1 ≤ k → k ≤ 5 → nmB 10000 (d 624 (13 * i + k))) ∧ (d 624 (13 * i) = 82 → ∀ s, s < 3 → nmB 10000 (d 624 (13 * i + 7 + s)))
theorem nmB_pos {w : Nat} {x : Int32} (h : nmB w x) (h0 : 0 ≤ x) : ∃ v : Nat, v < w ∧ x = nI v := by
  rcases h with h | h
  · subst h; exact absurd h0 (by decide)
  · exact h
theorem psI_a {l c : Int32} (h : 0 ≤ l) (h2 : l = 0) : psI l c = -c - 1 := by unfold psI; rw [if_pos h, if_pos h2]
