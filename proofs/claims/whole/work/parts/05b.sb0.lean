/-! Texts: what a StringBuilder holds, as a list of letters. -/
abbrev sbW (G : GT) (sa va n m : Nat) (a : Nat → Int32) : va_W := [(sa, .inr (iSB, [.ref va, .int 0, .int 0, .int (nI n)])), (va, aI (gC G 8) m a)]
def sbL (t : List Nat) (a : Nat → Int32) : Prop := sb_Lat (fun j => t.getD j 0) t.length a
/-- a StringBuilder at sa that holds t -/
def SBH (G : GT) (sa : Nat) (t : List Nat) (H : Heap) : Prop := ∃ (va m : Nat) (a : Nat → Int32), va_P G.1 gcl (sbW G sa va t.length m a) H ∧ va_D (gAb G) (sbW G sa va t.length m a) ∧ sbL t a ∧ sb_Fit a ∧ t.length ≤ m ∧ (m = 16 ∨ m = 34)
def dgl (v : Nat) : List Nat := if v < 10 then [48 + v] else if v < 100 then [48 + v / 10, 48 + v % 10] else if v < 1000 then [48 + v / 100, 48 + v / 10 % 10, 48 + v % 10] else [48 + v / 1000, 48 + v / 100 % 10, 48 + v / 10 % 10, 48 + v % 10]
theorem dgl1 {v : Nat} (h : v < 10) : dgl v = [48 + v] := if_pos h
theorem dgl2 {v : Nat} (h : ¬ v < 10) (h2 : v < 100) : dgl v = [48 + v / 10, 48 + v % 10] := by unfold dgl; rw [if_neg h, if_pos h2]
theorem dgl3 {v : Nat} (h : ¬ v < 100) (h2 : v < 1000) : dgl v = [48 + v / 100, 48 + v / 10 % 10, 48 + v % 10] := by unfold dgl; rw [if_neg (by omega), if_neg h, if_pos h2]
theorem dgl4 {v : Nat} (h : ¬ v < 1000) : dgl v = [48 + v / 1000, 48 + v / 100 % 10, 48 + v / 10 % 10, 48 + v % 10] := by unfold dgl; rw [if_neg (by omega), if_neg (by omega), if_neg h]
theorem dgl_len (v : Nat) : 1 ≤ (dgl v).length ∧ (dgl v).length ≤ 4 := by unfold dgl; (repeat' split) <;> simp
theorem dgl_lt {v : Nat} (hv : v < 10000) : ∀ i, i < (dgl v).length → (dgl v).getD i 0 < 256 := by
  intro i hi
  have hi4 : i < 4 := Nat.lt_of_lt_of_le hi (dgl_len v).2
  unfold dgl
  rcases (by omega : i = 0 ∨ i = 1 ∨ i = 2 ∨ i = 3) with rfl | rfl | rfl | rfl <;> (repeat' split) <;> simp <;> omega
theorem sbL_app {t u : List Nat} {a a' : Nat → Int32} (h : sbL t a) (hk : ∀ j, j < t.length → a' j = a j) (hs : ∀ i, i < u.length → u.getD i 0 < 256 ∧ a' (t.length + i) = sb_b (u.getD i 0)) : sbL (t ++ u) a' := by
  have e : (fun j => (t ++ u).getD j 0) = sb_cat (fun j => t.getD j 0) t.length (fun j => u.getD j 0) := by
    funext j
    unfold sb_cat
    split
    · simp [List.getD, List.getElem?_append, *]
    · simp [List.getD, List.getElem?_append, *]
  unfold sbL
  rw [e, List.length_append]
  exact sb_latPut h hk hs
theorem sb_nb (c : Nat) : vp_nar .byte (nI c) = sb_b c := by rw [vp_nar_byte]; rfl
def mxI (x y : Int32) : Int32 := if x < y then y else x
def mnI (x y : Int32) : Int32 := if y < x then y else x
theorem sb_cmpn {v c : Nat} (hv : v < 2 ^ 31) (hc : c < 2 ^ 31) {x : Int32} (hx : x = -nI c) : (-nI v ≤ x ↔ c ≤ v) := by subst hx; exact sb_nle hv hc
theorem sb_cmpl {v c : Nat} (hv : v < 2 ^ 31) (hc : c < 2 ^ 31) {x : Int32} (hx : x = -nI c) : (x < -nI v ↔ v < c) := by subst hx; exact sb_nlt hc hv
theorem WW_nil {G : GT} {H : Heap} {locs : List Loc} (h : locs = []) : WW G H [] H locs := by
  subst h
  refine ⟨fun k q h => ?_, ⟨fun i j p q h => ?_, fun k q h => ?_⟩, va_S.rf⟩ <;> simp at h
theorem mx18 {b : Nat} (hb18 : b ≤ 18) : mxI (nI b) (nI 18) = nI 18 := by
  unfold mxI
  split
  · rfl
  · rename_i h
    have : ¬ b < 18 := fun q => h (nI_lt q (by decide))
    rw [show b = 18 by omega]
theorem sb_m16 {m q : Nat} (hm : m = 16 ∨ m = 34) (hq : q ≤ 34) (c : ¬ nI q - nI m ≤ 0) : m = 16 ∧ 16 < q := by
  have e : (nI q - nI m).toInt = (q : Int) - m := pk_sub_toInt (by omega) (by omega)
  have h : ¬ q ≤ m := fun z => c (by rw [Int32.le_iff_toInt_le, e, Int32.toInt_zero]; omega)
  omega
theorem sb_qle {m q : Nat} (hm : m = 16 ∨ m = 34) (hq : q ≤ 34) (c : nI q - nI m ≤ 0) : q ≤ m := by
  have e : (nI q - nI m).toInt = (q : Int) - m := pk_sub_toInt (by omega) (by omega)
  rw [Int32.le_iff_toInt_le, e, Int32.toInt_zero] at c
  omega
