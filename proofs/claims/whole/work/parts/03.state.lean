/-! What a state IS: every cell has a number; gad says where it lies; d says what it holds (d cell place). -/
abbrev DD : Type := Nat → Nat → Int32
/-- the tables' numbers; the classes of arrays; the addresses; where the world begins; how many acceptors -/
abbrev GT : Type := va_G × (Nat → ClassId) × (Nat → Nat) × Nat × Nat
abbrev gC (G : GT) (k : Nat) : ClassId := G.2.1 k
abbrev gad (G : GT) (c : Nat) : Nat := G.2.2.1 c
abbrev gbase (G : GT) : Nat := G.2.2.2.1
abbrev gn (G : GT) : Nat := G.2.2.2.2
abbrev gAb (G : GT) : Nat → Prop := fun q => gbase G ≤ q
def up2 (d : DD) (c k : Nat) (v : Int32) : DD := fun c' k' => if c' = c ∧ k' = k then v else d c' k'
abbrev aI (cA : ClassId) (n : Nat) (f : Nat → Int32) : va_E := .inl (cA, n, .inl f)
abbrev aJ (cA : ClassId) (n : Nat) (f : Nat → Int64) : va_E := .inl (cA, n, .inr (.inl f))
abbrev aR (cA : ClassId) (n : Nat) (f : Nat → Option Nat) : va_E := .inl (cA, n, .inr (.inr (.inr (.inr f))))
def f_cp3 (d : DD) (ca cb n : Nat) : DD := fun c k => if c = cb ∧ k < n then d ca k else d c k
def fsPC (G : GT) (r : Nat → Int32) : List Value := [.ref (gad G 1), .ref (gad G 2), .ref (gad G 3), .int (r 3), .ref (gad G 4), .ref (gad G 5), .ref (gad G 6), .ref (gad G 7), .int (r 8)]
def fsMo (G : GT) (r : Nat → Int32) : List Value := [.int (r 0), .int (r 1), .ref (gad G 602), .ref (gad G 603), .ref (gad G 604), .ref (gad G 605), .ref (gad G 606), .int (r 7), .ref (gad G 608), .ref (gad G 609), .ref (gad G 610), .ref (gad G 611), .ref (gad G 612), .ref (gad G 613), .ref (gad G 614), .ref (gad G 615), .ref (gad G 616), .ref (gad G 617), .ref (gad G 618), .ref (gad G 619), .ref (gad G 620), .ref (gad G 621), .ref (gad G 622), .ref (gad G 623), .ref (gad G 624), .int (r 25), .int (r 26)]
def fsNet (G : GT) (r : Nat → Int32) : List Value := [.ref (gad G 8), .int (r 1), .int (r 2), .ref (gad G 480), .ref (gad G 481)]
def ec (G : GT) (c : Nat) (r : Nat → Int32) : va_E :=
  if c < 1 then .inr (iPC, fsPC G r) else
  if c < 2 then aR (gC G 4) 3 (fun j => some (gad G (j + 10))) else
  if c < 3 then aR (gC G 5) (gn G) (fun j => some (gad G (j + 100))) else
  if c < 4 then aR (gC G 6) 16 (fun j => some (gad G (j + 200))) else
  if c < 5 then aI (gC G 0) 3 r else
  if c < 6 then .inr (iNet, fsNet G r) else
  if c < 7 then aI (gC G 0) 8 r else
  if c < 8 then aI (gC G 1) 8 r else
  if c < 9 then aR (gC G 7) 60 (fun j => some (gad G ((r j).toNatClampNeg + 420))) else
  if c < 10 then aJ (gC G 2) 1 (fun j => (r j).toInt64) else
  if c < 20 then .inr (iStore, [.ref (gad G (c + 10)), .ref (gad G (c + 20)), .ref (gad G (c + 30)), .ref (gad G (c + 40)), .ref (gad G (c + 50))]) else
  if c < 30 then aI (gC G 0) 4 r else
  if c < 40 then aI (gC G 0) 4 r else
  if c < 50 then aI (gC G 0) 8 r else
  if c < 60 then aI (gC G 0) 8 r else
  if c < 70 then aR (gC G 3) 8 (fun j => some (gad G (8 * (c - 60) + j + 70))) else
  if c < 100 then aI (gC G 0) 4 r else
  if c < 110 then .inr (iAcc, [.ref (gad G (c + 10)), .ref (gad G (c + 20))]) else
  if c < 120 then aR (gC G 3) 8 (fun j => some (gad G (8 * (c - 110) + j + 130))) else
  if c < 130 then aR (gC G 3) 8 (fun j => some (gad G (8 * (c - 120) + j + 160))) else
  if c < 160 then aI (gC G 0) 3 r else
  if c < 200 then aI (gC G 0) 3 r else
  if c < 220 then .inr (iLed, [.int (r 0), .int (r 1), .int (r 2), .ref (gad G (c + 20)), .ref (gad G (c + 40)), .ref (gad G (c + 60))]) else
  if c < 240 then aI (gC G 1) (gn G) r else
  if c < 260 then aR (gC G 3) (gn G) (fun j => some (gad G (4 * (c - 240) + j + 280))) else
  if c < 280 then aR (gC G 3) (gn G) (fun j => some (gad G (4 * (c - 260) + j + 350))) else
  if c < 350 then aI (gC G 0) 3 r else
  if c < 420 then aI (gC G 0) 3 r else
  if c < 490 then .inr (iMsg, [.int (r 0), .int (r 1), .int (r 2), .int (r 3), .int (r 4), .int (r 5), .int (r 6), .ref (gad G (c + 70))]) else
  if c < 600 then aI (gC G 0) 3 r else
  if c < 601 then .inr (iMo, fsMo G r) else
  if c < 603 then aI (gC G 1) 3 r else
  if c < 604 then aI (gC G 1) 3 r else
  if c < 605 then aI (gC G 1) 2 r else
  if c < 606 then aI (gC G 0) 12 r else
  if c < 607 then aI (gC G 0) 12 r else
  if c < 609 then aI (gC G 0) 8 r else
  if c < 610 then aI (gC G 1) 8 r else
  if c < 611 then aI (gC G 0) 24 r else
  if c < 612 then aI (gC G 0) 24 r else
  if c < 613 then aI (gC G 0) 96 r else
  if c < 614 then aI (gC G 0) 72 r else
  if c < 615 then aI (gC G 0) 72 r else
  if c < 616 then aI (gC G 0) 72 r else
  if c < 617 then aI (gC G 0) 16 r else
  if c < 618 then aI (gC G 1) 16 r else
  if c < 619 then aI (gC G 0) 16 r else
  if c < 620 then aI (gC G 1) 48 r else
  if c < 621 then aI (gC G 0) 144 r else
  if c < 622 then aI (gC G 0) 144 r else
  if c < 623 then aI (gC G 0) 144 r else
  if c < 624 then aI (gC G 0) 144 r else
  if c < 625 then aI (gC G 0) 793 r else
  aI (gC G 0) 0 r
def en (G : GT) (d : DD) (c : Nat) : va_E := ec G c (d c)
def okc (n c : Nat) : Prop := c = 0 ∨ c = 1 ∨ c = 2 ∨ c = 3 ∨ c = 4 ∨ c = 5 ∨ c = 6 ∨ c = 7 ∨ c = 8 ∨ c = 9 ∨ (10 ≤ c ∧ c < 13) ∨ (20 ≤ c ∧ c < 23) ∨ (30 ≤ c ∧ c < 33) ∨ (40 ≤ c ∧ c < 43) ∨ (50 ≤ c ∧ c < 53) ∨ (60 ≤ c ∧ c < 63) ∨ (70 ≤ c ∧ c < 94) ∨ (100 ≤ c ∧ c < 100 + n) ∨ (110 ≤ c ∧ c < 110 + n) ∨ (120 ≤ c ∧ c < 120 + n) ∨ (130 ≤ c ∧ c < 130 + 8 * n) ∨ (160 ≤ c ∧ c < 160 + 8 * n) ∨ (200 ≤ c ∧ c < 216) ∨ (220 ≤ c ∧ c < 236) ∨ (240 ≤ c ∧ c < 256) ∨ (260 ≤ c ∧ c < 276) ∨ (280 ≤ c ∧ c < 344 ∧ (c - 280) % 4 < n) ∨ (350 ≤ c ∧ c < 414 ∧ (c - 350) % 4 < n) ∨ (420 ≤ c ∧ c < 482) ∨ (490 ≤ c ∧ c < 552) ∨ c = 600 ∨ c = 602 ∨ c = 603 ∨ c = 604 ∨ c = 605 ∨ c = 606 ∨ c = 608 ∨ c = 609 ∨ c = 610 ∨ c = 611 ∨ c = 612 ∨ c = 613 ∨ c = 614 ∨ c = 615 ∨ c = 616 ∨ c = 617 ∨ c = 618 ∨ c = 619 ∨ c = 620 ∨ c = 621 ∨ c = 622 ∨ c = 623 ∨ c = 624
noncomputable def Cs (G : GT) : List Nat := (List.range 900).filter (fun c => @decide (okc (gn G) c ∧ gad G c ≠ 0) (Classical.propDecidable _))
/-- all cells are there: of the row of the law (9) nothing is said; what comes from 700 on is for texts -/
def GOK (G : GT) : Prop := gn G ≤ 3 ∧ 1 ≤ gn G ∧ ∀ c, okc (gn G) c → c ≠ 9 → c < 700 → gad G c ≠ 0
theorem mem_Cs {G : GT} {c : Nat} (h1 : c < 900) (h2 : okc (gn G) c) (h3 : gad G c ≠ 0) : c ∈ Cs G := List.mem_filter.mpr ⟨List.mem_range.mpr h1, @decide_eq_true _ (Classical.propDecidable _) ⟨h2, h3⟩⟩
noncomputable def wl (G : GT) (d : DD) : va_W := (Cs G).map (fun c => (gad G c, en G d c))
def tys (G : GT) : List (ClassId × FieldType) := [(gC G 0, .int), (gC G 1, .boolean), (gC G 2, .long), (gC G 3, .array .int), (gC G 4, .object "PaxosCommit$Store"), (gC G 5, .object "PaxosCommit$Acceptor"), (gC G 6, .object "PaxosCommit$Ledger"), (gC G 7, .object "PaxosCommit$Message"), (gC G 8, .byte)]
def WD (G : GT) (H0 : Heap) (d : DD) (H : Heap) (locs : List Loc) : Prop := va_P G.1 gcl (wl G d) H ∧ va_D (gAb G) (wl G d) ∧ va_S (gAb G) H0 H locs
/-- what kind of cell a number is -/
def IA (G : GT) (cn n : Nat) : Prop := cn ∈ Cs G ∧ n < 2 ^ 31 ∧ ∀ r : Nat → Int32, ec G cn r = aI (gC G 0) n r
def ZA (G : GT) (cn n : Nat) : Prop := cn ∈ Cs G ∧ n < 2 ^ 31 ∧ ∀ r : Nat → Int32, ec G cn r = aI (gC G 1) n r
def JA (G : GT) (cn n : Nat) : Prop := cn ∈ Cs G ∧ n < 2 ^ 31 ∧ ∀ r : Nat → Int32, ec G cn r = aJ (gC G 2) n (fun j => (r j).toInt64)
def QA (G : GT) (cn n t0 : Nat) (C : String) (f : (Nat → Int32) → Nat → Nat) : Prop := cn ∈ Cs G ∧ n < 2 ^ 31 ∧ (tys G)[t0]? = some (gC G t0, .object C) ∧ ∀ r : Nat → Int32, ec G cn r = aR (gC G t0) n (fun j => some (gad G (f r j)))
def AA (G : GT) (cn n : Nat) (f : Nat → Nat) : Prop := cn ∈ Cs G ∧ n < 2 ^ 31 ∧ ∀ r : Nat → Int32, ec G cn r = aR (gC G 3) n (fun j => some (gad G (f j)))
def OB (G : GT) (cn ci : Nat) (fs : (Nat → Int32) → List Value) : Prop := cn ∈ Cs G ∧ ∀ r : Nat → Int32, ec G cn r = .inr (ci, fs r)
theorem F_PC (G : GT) (hG : GOK G)  : OB G (0) iPC (fsPC G) := by
  have h7 := hG.1
  have ho : okc (gn G) (0) := (Or.inl (by omega))
  have hm : 0 ∈ Cs G := mem_Cs (by omega) ho (hG.2.2 _ ho (by omega) (by omega))
  exact ⟨hm, fun r => by
    unfold ec
    rw [if_pos (show 0 < 1 by omega)]⟩
theorem F_Stores (G : GT) (hG : GOK G)  : QA G (1) (3) 4 "PaxosCommit$Store" (fun _ j => j + 10) := by
  have h7 := hG.1
  have ho : okc (gn G) (1) := (Or.inr (Or.inl (by omega)))
  have hm : 1 ∈ Cs G := mem_Cs (by omega) ho (hG.2.2 _ ho (by omega) (by omega))
  exact ⟨hm, by decide, rfl, fun r => by
    unfold ec
    rw [if_neg (show ¬ 1 < 1 by omega), if_pos (show 1 < 2 by omega)]⟩
theorem F_Accs (G : GT) (hG : GOK G)  : QA G (2) (gn G) 5 "PaxosCommit$Acceptor" (fun _ j => j + 100) := by
  have h7 := hG.1
  have ho : okc (gn G) (2) := (Or.inr (Or.inr (Or.inl (by omega))))
  have hm : 2 ∈ Cs G := mem_Cs (by omega) ho (hG.2.2 _ ho (by omega) (by omega))
  exact ⟨hm, by omega, rfl, fun r => by
    unfold ec
    rw [if_neg (show ¬ 2 < 1 by omega), if_neg (show ¬ 2 < 2 by omega), if_pos (show 2 < 3 by omega)]⟩
theorem F_Leds (G : GT) (hG : GOK G)  : QA G (3) (16) 6 "PaxosCommit$Ledger" (fun _ j => j + 200) := by
  have h7 := hG.1
  have ho : okc (gn G) (3) := (Or.inr (Or.inr (Or.inr (Or.inl (by omega)))))
  have hm : 3 ∈ Cs G := mem_Cs (by omega) ho (hG.2.2 _ ho (by omega) (by omega))
  exact ⟨hm, by decide, rfl, fun r => by
    unfold ec
    rw [if_neg (show ¬ 3 < 1 by omega), if_neg (show ¬ 3 < 2 by omega), if_neg (show ¬ 3 < 3 by omega), if_pos (show 3 < 4 by omega)]⟩
theorem F_UpS (G : GT) (hG : GOK G)  : IA G (4) (3) := by
  have h7 := hG.1
  have ho : okc (gn G) (4) := (Or.inr (Or.inr (Or.inr (Or.inr (Or.inl (by omega))))))
  have hm : 4 ∈ Cs G := mem_Cs (by omega) ho (hG.2.2 _ ho (by omega) (by omega))
  exact ⟨hm, by decide, fun r => by
    unfold ec
    rw [if_neg (show ¬ 4 < 1 by omega), if_neg (show ¬ 4 < 2 by omega), if_neg (show ¬ 4 < 3 by omega), if_neg (show ¬ 4 < 4 by omega), if_pos (show 4 < 5 by omega)]⟩
theorem F_Net (G : GT) (hG : GOK G)  : OB G (5) iNet (fsNet G) := by
  have h7 := hG.1
  have ho : okc (gn G) (5) := (Or.inr (Or.inr (Or.inr (Or.inr (Or.inr (Or.inl (by omega)))))))
  have hm : 5 ∈ Cs G := mem_Cs (by omega) ho (hG.2.2 _ ho (by omega) (by omega))
  exact ⟨hm, fun r => by
    unfold ec
    rw [if_neg (show ¬ 5 < 1 by omega), if_neg (show ¬ 5 < 2 by omega), if_neg (show ¬ 5 < 3 by omega), if_neg (show ¬ 5 < 4 by omega), if_neg (show ¬ 5 < 5 by omega), if_pos (show 5 < 6 by omega)]⟩
theorem F_Mem (G : GT) (hG : GOK G)  : IA G (6) (8) := by
  have h7 := hG.1
  have ho : okc (gn G) (6) := (Or.inr (Or.inr (Or.inr (Or.inr (Or.inr (Or.inr (Or.inl (by omega))))))))
  have hm : 6 ∈ Cs G := mem_Cs (by omega) ho (hG.2.2 _ ho (by omega) (by omega))
  exact ⟨hm, by decide, fun r => by
    unfold ec
    rw [if_neg (show ¬ 6 < 1 by omega), if_neg (show ¬ 6 < 2 by omega), if_neg (show ¬ 6 < 3 by omega), if_neg (show ¬ 6 < 4 by omega), if_neg (show ¬ 6 < 5 by omega), if_neg (show ¬ 6 < 6 by omega), if_pos (show 6 < 7 by omega)]⟩
theorem F_Clo (G : GT) (hG : GOK G)  : ZA G (7) (8) := by
  have h7 := hG.1
  have ho : okc (gn G) (7) := (Or.inr (Or.inr (Or.inr (Or.inr (Or.inr (Or.inr (Or.inr (Or.inl (by omega)))))))))
  have hm : 7 ∈ Cs G := mem_Cs (by omega) ho (hG.2.2 _ ho (by omega) (by omega))
  exact ⟨hm, by decide, fun r => by
    unfold ec
    rw [if_neg (show ¬ 7 < 1 by omega), if_neg (show ¬ 7 < 2 by omega), if_neg (show ¬ 7 < 3 by omega), if_neg (show ¬ 7 < 4 by omega), if_neg (show ¬ 7 < 5 by omega), if_neg (show ¬ 7 < 6 by omega), if_neg (show ¬ 7 < 7 by omega), if_pos (show 7 < 8 by omega)]⟩
theorem F_Row (G : GT) (hG : GOK G)  : QA G (8) (60) 7 "PaxosCommit$Message" (fun r j => (r j).toNatClampNeg + 420) := by
  have h7 := hG.1
  have ho : okc (gn G) (8) := (Or.inr (Or.inr (Or.inr (Or.inr (Or.inr (Or.inr (Or.inr (Or.inr (Or.inl (by omega))))))))))
  have hm : 8 ∈ Cs G := mem_Cs (by omega) ho (hG.2.2 _ ho (by omega) (by omega))
  exact ⟨hm, by decide, rfl, fun r => by
    unfold ec
    rw [if_neg (show ¬ 8 < 1 by omega), if_neg (show ¬ 8 < 2 by omega), if_neg (show ¬ 8 < 3 by omega), if_neg (show ¬ 8 < 4 by omega), if_neg (show ¬ 8 < 5 by omega), if_neg (show ¬ 8 < 6 by omega), if_neg (show ¬ 8 < 7 by omega), if_neg (show ¬ 8 < 8 by omega), if_pos (show 8 < 9 by omega)]⟩
theorem F_Out (G : GT) (hG : GOK G) (h9 : gad G 9 ≠ 0) : JA G (9) (1) := by
  have h7 := hG.1
  have ho : okc (gn G) (9) := (Or.inr (Or.inr (Or.inr (Or.inr (Or.inr (Or.inr (Or.inr (Or.inr (Or.inr (Or.inl (by omega)))))))))))
  have hm : 9 ∈ Cs G := mem_Cs (by omega) ho h9
  exact ⟨hm, by decide, fun r => by
    unfold ec
    rw [if_neg (show ¬ 9 < 1 by omega), if_neg (show ¬ 9 < 2 by omega), if_neg (show ¬ 9 < 3 by omega), if_neg (show ¬ 9 < 4 by omega), if_neg (show ¬ 9 < 5 by omega), if_neg (show ¬ 9 < 6 by omega), if_neg (show ¬ 9 < 7 by omega), if_neg (show ¬ 9 < 8 by omega), if_neg (show ¬ 9 < 9 by omega), if_pos (show 9 < 10 by omega)]⟩
theorem F_Store (G : GT) (hG : GOK G) {i0 : Nat} (h0 : i0 < 3) : OB G (i0 + 10) iStore (fun _ => [.ref (gad G (i0 + 20)), .ref (gad G (i0 + 30)), .ref (gad G (i0 + 40)), .ref (gad G (i0 + 50)), .ref (gad G (i0 + 60))]) := by
  have h7 := hG.1
  have ho : okc (gn G) (i0 + 10) := (Or.inr (Or.inr (Or.inr (Or.inr (Or.inr (Or.inr (Or.inr (Or.inr (Or.inr (Or.inr (Or.inl (by omega))))))))))))
  have hm : i0 + 10 ∈ Cs G := mem_Cs (by omega) ho (hG.2.2 _ ho (by omega) (by omega))
  exact ⟨hm, fun r => by
    unfold ec
    rw [if_neg (show ¬ i0 + 10 < 1 by omega), if_neg (show ¬ i0 + 10 < 2 by omega), if_neg (show ¬ i0 + 10 < 3 by omega), if_neg (show ¬ i0 + 10 < 4 by omega), if_neg (show ¬ i0 + 10 < 5 by omega), if_neg (show ¬ i0 + 10 < 6 by omega), if_neg (show ¬ i0 + 10 < 7 by omega), if_neg (show ¬ i0 + 10 < 8 by omega), if_neg (show ¬ i0 + 10 < 9 by omega), if_neg (show ¬ i0 + 10 < 10 by omega), if_pos (show i0 + 10 < 20 by omega)]⟩
theorem F_Val (G : GT) (hG : GOK G) {i0 : Nat} (h0 : i0 < 3) : IA G (i0 + 20) (4) := by
  have h7 := hG.1
  have ho : okc (gn G) (i0 + 20) := (Or.inr (Or.inr (Or.inr (Or.inr (Or.inr (Or.inr (Or.inr (Or.inr (Or.inr (Or.inr (Or.inr (Or.inl (by omega)))))))))))))
  have hm : i0 + 20 ∈ Cs G := mem_Cs (by omega) ho (hG.2.2 _ ho (by omega) (by omega))
  exact ⟨hm, by decide, fun r => by
    unfold ec
    rw [if_neg (show ¬ i0 + 20 < 1 by omega), if_neg (show ¬ i0 + 20 < 2 by omega), if_neg (show ¬ i0 + 20 < 3 by omega), if_neg (show ¬ i0 + 20 < 4 by omega), if_neg (show ¬ i0 + 20 < 5 by omega), if_neg (show ¬ i0 + 20 < 6 by omega), if_neg (show ¬ i0 + 20 < 7 by omega), if_neg (show ¬ i0 + 20 < 8 by omega), if_neg (show ¬ i0 + 20 < 9 by omega), if_neg (show ¬ i0 + 20 < 10 by omega), if_neg (show ¬ i0 + 20 < 20 by omega), if_pos (show i0 + 20 < 30 by omega)]⟩
theorem F_Loc (G : GT) (hG : GOK G) {i0 : Nat} (h0 : i0 < 3) : IA G (i0 + 30) (4) := by
  have h7 := hG.1
  have ho : okc (gn G) (i0 + 30) := (Or.inr (Or.inr (Or.inr (Or.inr (Or.inr (Or.inr (Or.inr (Or.inr (Or.inr (Or.inr (Or.inr (Or.inr (Or.inl (by omega))))))))))))))
  have hm : i0 + 30 ∈ Cs G := mem_Cs (by omega) ho (hG.2.2 _ ho (by omega) (by omega))
  exact ⟨hm, by decide, fun r => by
    unfold ec
    rw [if_neg (show ¬ i0 + 30 < 1 by omega), if_neg (show ¬ i0 + 30 < 2 by omega), if_neg (show ¬ i0 + 30 < 3 by omega), if_neg (show ¬ i0 + 30 < 4 by omega), if_neg (show ¬ i0 + 30 < 5 by omega), if_neg (show ¬ i0 + 30 < 6 by omega), if_neg (show ¬ i0 + 30 < 7 by omega), if_neg (show ¬ i0 + 30 < 8 by omega), if_neg (show ¬ i0 + 30 < 9 by omega), if_neg (show ¬ i0 + 30 < 10 by omega), if_neg (show ¬ i0 + 30 < 20 by omega), if_neg (show ¬ i0 + 30 < 30 by omega), if_pos (show i0 + 30 < 40 by omega)]⟩
theorem F_Sta (G : GT) (hG : GOK G) {i0 : Nat} (h0 : i0 < 3) : IA G (i0 + 40) (8) := by
  have h7 := hG.1
  have ho : okc (gn G) (i0 + 40) := (Or.inr (Or.inr (Or.inr (Or.inr (Or.inr (Or.inr (Or.inr (Or.inr (Or.inr (Or.inr (Or.inr (Or.inr (Or.inr (Or.inl (by omega)))))))))))))))
  have hm : i0 + 40 ∈ Cs G := mem_Cs (by omega) ho (hG.2.2 _ ho (by omega) (by omega))
  exact ⟨hm, by decide, fun r => by
    unfold ec
    rw [if_neg (show ¬ i0 + 40 < 1 by omega), if_neg (show ¬ i0 + 40 < 2 by omega), if_neg (show ¬ i0 + 40 < 3 by omega), if_neg (show ¬ i0 + 40 < 4 by omega), if_neg (show ¬ i0 + 40 < 5 by omega), if_neg (show ¬ i0 + 40 < 6 by omega), if_neg (show ¬ i0 + 40 < 7 by omega), if_neg (show ¬ i0 + 40 < 8 by omega), if_neg (show ¬ i0 + 40 < 9 by omega), if_neg (show ¬ i0 + 40 < 10 by omega), if_neg (show ¬ i0 + 40 < 20 by omega), if_neg (show ¬ i0 + 40 < 30 by omega), if_neg (show ¬ i0 + 40 < 40 by omega), if_pos (show i0 + 40 < 50 by omega)]⟩
theorem F_Wrt (G : GT) (hG : GOK G) {i0 : Nat} (h0 : i0 < 3) : IA G (i0 + 50) (8) := by
  have h7 := hG.1
  have ho : okc (gn G) (i0 + 50) := (Or.inr (Or.inr (Or.inr (Or.inr (Or.inr (Or.inr (Or.inr (Or.inr (Or.inr (Or.inr (Or.inr (Or.inr (Or.inr (Or.inr (Or.inl (by omega))))))))))))))))
  have hm : i0 + 50 ∈ Cs G := mem_Cs (by omega) ho (hG.2.2 _ ho (by omega) (by omega))
  exact ⟨hm, by decide, fun r => by
    unfold ec
    rw [if_neg (show ¬ i0 + 50 < 1 by omega), if_neg (show ¬ i0 + 50 < 2 by omega), if_neg (show ¬ i0 + 50 < 3 by omega), if_neg (show ¬ i0 + 50 < 4 by omega), if_neg (show ¬ i0 + 50 < 5 by omega), if_neg (show ¬ i0 + 50 < 6 by omega), if_neg (show ¬ i0 + 50 < 7 by omega), if_neg (show ¬ i0 + 50 < 8 by omega), if_neg (show ¬ i0 + 50 < 9 by omega), if_neg (show ¬ i0 + 50 < 10 by omega), if_neg (show ¬ i0 + 50 < 20 by omega), if_neg (show ¬ i0 + 50 < 30 by omega), if_neg (show ¬ i0 + 50 < 40 by omega), if_neg (show ¬ i0 + 50 < 50 by omega), if_pos (show i0 + 50 < 60 by omega)]⟩
theorem F_Wrs (G : GT) (hG : GOK G) {i0 : Nat} (h0 : i0 < 3) : AA G (i0 + 60) (8) (fun j => 8 * i0 + j + 70) := by
  have h7 := hG.1
  have ho : okc (gn G) (i0 + 60) := (Or.inr (Or.inr (Or.inr (Or.inr (Or.inr (Or.inr (Or.inr (Or.inr (Or.inr (Or.inr (Or.inr (Or.inr (Or.inr (Or.inr (Or.inr (Or.inl (by omega)))))))))))))))))
  have hm : i0 + 60 ∈ Cs G := mem_Cs (by omega) ho (hG.2.2 _ ho (by omega) (by omega))
  exact ⟨hm, by decide, fun r => by
    unfold ec
    rw [if_neg (show ¬ i0 + 60 < 1 by omega), if_neg (show ¬ i0 + 60 < 2 by omega), if_neg (show ¬ i0 + 60 < 3 by omega), if_neg (show ¬ i0 + 60 < 4 by omega), if_neg (show ¬ i0 + 60 < 5 by omega), if_neg (show ¬ i0 + 60 < 6 by omega), if_neg (show ¬ i0 + 60 < 7 by omega), if_neg (show ¬ i0 + 60 < 8 by omega), if_neg (show ¬ i0 + 60 < 9 by omega), if_neg (show ¬ i0 + 60 < 10 by omega), if_neg (show ¬ i0 + 60 < 20 by omega), if_neg (show ¬ i0 + 60 < 30 by omega), if_neg (show ¬ i0 + 60 < 40 by omega), if_neg (show ¬ i0 + 60 < 50 by omega), if_neg (show ¬ i0 + 60 < 60 by omega), if_pos (show i0 + 60 < 70 by omega)]
    simp only [Nat.add_sub_cancel]⟩
theorem F_Wr (G : GT) (hG : GOK G) {i0 i1 : Nat} (h0 : i0 < 3) (h1 : i1 < 8) : IA G (8 * i0 + i1 + 70) (4) := by
  have h7 := hG.1
  have ho : okc (gn G) (8 * i0 + i1 + 70) := (Or.inr (Or.inr (Or.inr (Or.inr (Or.inr (Or.inr (Or.inr (Or.inr (Or.inr (Or.inr (Or.inr (Or.inr (Or.inr (Or.inr (Or.inr (Or.inr (Or.inl (by omega))))))))))))))))))
  have hm : 8 * i0 + i1 + 70 ∈ Cs G := mem_Cs (by omega) ho (hG.2.2 _ ho (by omega) (by omega))
  exact ⟨hm, by decide, fun r => by
    unfold ec
    rw [if_neg (show ¬ 8 * i0 + i1 + 70 < 1 by omega), if_neg (show ¬ 8 * i0 + i1 + 70 < 2 by omega), if_neg (show ¬ 8 * i0 + i1 + 70 < 3 by omega), if_neg (show ¬ 8 * i0 + i1 + 70 < 4 by omega), if_neg (show ¬ 8 * i0 + i1 + 70 < 5 by omega), if_neg (show ¬ 8 * i0 + i1 + 70 < 6 by omega), if_neg (show ¬ 8 * i0 + i1 + 70 < 7 by omega), if_neg (show ¬ 8 * i0 + i1 + 70 < 8 by omega), if_neg (show ¬ 8 * i0 + i1 + 70 < 9 by omega), if_neg (show ¬ 8 * i0 + i1 + 70 < 10 by omega), if_neg (show ¬ 8 * i0 + i1 + 70 < 20 by omega), if_neg (show ¬ 8 * i0 + i1 + 70 < 30 by omega), if_neg (show ¬ 8 * i0 + i1 + 70 < 40 by omega), if_neg (show ¬ 8 * i0 + i1 + 70 < 50 by omega), if_neg (show ¬ 8 * i0 + i1 + 70 < 60 by omega), if_neg (show ¬ 8 * i0 + i1 + 70 < 70 by omega), if_pos (show 8 * i0 + i1 + 70 < 100 by omega)]⟩
theorem F_Acc (G : GT) (hG : GOK G) {i0 : Nat} (h0 : i0 < gn G) : OB G (i0 + 100) iAcc (fun _ => [.ref (gad G (i0 + 110)), .ref (gad G (i0 + 120))]) := by
  have h7 := hG.1
  have ho : okc (gn G) (i0 + 100) := (Or.inr (Or.inr (Or.inr (Or.inr (Or.inr (Or.inr (Or.inr (Or.inr (Or.inr (Or.inr (Or.inr (Or.inr (Or.inr (Or.inr (Or.inr (Or.inr (Or.inr (Or.inl (by omega)))))))))))))))))))
  have hm : i0 + 100 ∈ Cs G := mem_Cs (by omega) ho (hG.2.2 _ ho (by omega) (by omega))
  exact ⟨hm, fun r => by
    unfold ec
    rw [if_neg (show ¬ i0 + 100 < 1 by omega), if_neg (show ¬ i0 + 100 < 2 by omega), if_neg (show ¬ i0 + 100 < 3 by omega), if_neg (show ¬ i0 + 100 < 4 by omega), if_neg (show ¬ i0 + 100 < 5 by omega), if_neg (show ¬ i0 + 100 < 6 by omega), if_neg (show ¬ i0 + 100 < 7 by omega), if_neg (show ¬ i0 + 100 < 8 by omega), if_neg (show ¬ i0 + 100 < 9 by omega), if_neg (show ¬ i0 + 100 < 10 by omega), if_neg (show ¬ i0 + 100 < 20 by omega), if_neg (show ¬ i0 + 100 < 30 by omega), if_neg (show ¬ i0 + 100 < 40 by omega), if_neg (show ¬ i0 + 100 < 50 by omega), if_neg (show ¬ i0 + 100 < 60 by omega), if_neg (show ¬ i0 + 100 < 70 by omega), if_neg (show ¬ i0 + 100 < 100 by omega), if_pos (show i0 + 100 < 110 by omega)]⟩
theorem F_Pro (G : GT) (hG : GOK G) {i0 : Nat} (h0 : i0 < gn G) : AA G (i0 + 110) (8) (fun j => 8 * i0 + j + 130) := by
  have h7 := hG.1
  have ho : okc (gn G) (i0 + 110) := (Or.inr (Or.inr (Or.inr (Or.inr (Or.inr (Or.inr (Or.inr (Or.inr (Or.inr (Or.inr (Or.inr (Or.inr (Or.inr (Or.inr (Or.inr (Or.inr (Or.inr (Or.inr (Or.inl (by omega))))))))))))))))))))
  have hm : i0 + 110 ∈ Cs G := mem_Cs (by omega) ho (hG.2.2 _ ho (by omega) (by omega))
  exact ⟨hm, by decide, fun r => by
    unfold ec
    rw [if_neg (show ¬ i0 + 110 < 1 by omega), if_neg (show ¬ i0 + 110 < 2 by omega), if_neg (show ¬ i0 + 110 < 3 by omega), if_neg (show ¬ i0 + 110 < 4 by omega), if_neg (show ¬ i0 + 110 < 5 by omega), if_neg (show ¬ i0 + 110 < 6 by omega), if_neg (show ¬ i0 + 110 < 7 by omega), if_neg (show ¬ i0 + 110 < 8 by omega), if_neg (show ¬ i0 + 110 < 9 by omega), if_neg (show ¬ i0 + 110 < 10 by omega), if_neg (show ¬ i0 + 110 < 20 by omega), if_neg (show ¬ i0 + 110 < 30 by omega), if_neg (show ¬ i0 + 110 < 40 by omega), if_neg (show ¬ i0 + 110 < 50 by omega), if_neg (show ¬ i0 + 110 < 60 by omega), if_neg (show ¬ i0 + 110 < 70 by omega), if_neg (show ¬ i0 + 110 < 100 by omega), if_neg (show ¬ i0 + 110 < 110 by omega), if_pos (show i0 + 110 < 120 by omega)]
    simp only [Nat.add_sub_cancel]⟩
theorem F_Tak (G : GT) (hG : GOK G) {i0 : Nat} (h0 : i0 < gn G) : AA G (i0 + 120) (8) (fun j => 8 * i0 + j + 160) := by
  have h7 := hG.1
  have ho : okc (gn G) (i0 + 120) := (Or.inr (Or.inr (Or.inr (Or.inr (Or.inr (Or.inr (Or.inr (Or.inr (Or.inr (Or.inr (Or.inr (Or.inr (Or.inr (Or.inr (Or.inr (Or.inr (Or.inr (Or.inr (Or.inr (Or.inl (by omega)))))))))))))))))))))
  have hm : i0 + 120 ∈ Cs G := mem_Cs (by omega) ho (hG.2.2 _ ho (by omega) (by omega))
  exact ⟨hm, by decide, fun r => by
    unfold ec
    rw [if_neg (show ¬ i0 + 120 < 1 by omega), if_neg (show ¬ i0 + 120 < 2 by omega), if_neg (show ¬ i0 + 120 < 3 by omega), if_neg (show ¬ i0 + 120 < 4 by omega), if_neg (show ¬ i0 + 120 < 5 by omega), if_neg (show ¬ i0 + 120 < 6 by omega), if_neg (show ¬ i0 + 120 < 7 by omega), if_neg (show ¬ i0 + 120 < 8 by omega), if_neg (show ¬ i0 + 120 < 9 by omega), if_neg (show ¬ i0 + 120 < 10 by omega), if_neg (show ¬ i0 + 120 < 20 by omega), if_neg (show ¬ i0 + 120 < 30 by omega), if_neg (show ¬ i0 + 120 < 40 by omega), if_neg (show ¬ i0 + 120 < 50 by omega), if_neg (show ¬ i0 + 120 < 60 by omega), if_neg (show ¬ i0 + 120 < 70 by omega), if_neg (show ¬ i0 + 120 < 100 by omega), if_neg (show ¬ i0 + 120 < 110 by omega), if_neg (show ¬ i0 + 120 < 120 by omega), if_pos (show i0 + 120 < 130 by omega)]
    simp only [Nat.add_sub_cancel]⟩
theorem F_PrR (G : GT) (hG : GOK G) {i0 i1 : Nat} (h0 : i0 < gn G) (h1 : i1 < 8) : IA G (8 * i0 + i1 + 130) (3) := by
  have h7 := hG.1
  have ho : okc (gn G) (8 * i0 + i1 + 130) := (Or.inr (Or.inr (Or.inr (Or.inr (Or.inr (Or.inr (Or.inr (Or.inr (Or.inr (Or.inr (Or.inr (Or.inr (Or.inr (Or.inr (Or.inr (Or.inr (Or.inr (Or.inr (Or.inr (Or.inr (Or.inl (by omega))))))))))))))))))))))
  have hm : 8 * i0 + i1 + 130 ∈ Cs G := mem_Cs (by omega) ho (hG.2.2 _ ho (by omega) (by omega))
  exact ⟨hm, by decide, fun r => by
    unfold ec
    rw [if_neg (show ¬ 8 * i0 + i1 + 130 < 1 by omega), if_neg (show ¬ 8 * i0 + i1 + 130 < 2 by omega), if_neg (show ¬ 8 * i0 + i1 + 130 < 3 by omega), if_neg (show ¬ 8 * i0 + i1 + 130 < 4 by omega), if_neg (show ¬ 8 * i0 + i1 + 130 < 5 by omega), if_neg (show ¬ 8 * i0 + i1 + 130 < 6 by omega), if_neg (show ¬ 8 * i0 + i1 + 130 < 7 by omega), if_neg (show ¬ 8 * i0 + i1 + 130 < 8 by omega), if_neg (show ¬ 8 * i0 + i1 + 130 < 9 by omega), if_neg (show ¬ 8 * i0 + i1 + 130 < 10 by omega), if_neg (show ¬ 8 * i0 + i1 + 130 < 20 by omega), if_neg (show ¬ 8 * i0 + i1 + 130 < 30 by omega), if_neg (show ¬ 8 * i0 + i1 + 130 < 40 by omega), if_neg (show ¬ 8 * i0 + i1 + 130 < 50 by omega), if_neg (show ¬ 8 * i0 + i1 + 130 < 60 by omega), if_neg (show ¬ 8 * i0 + i1 + 130 < 70 by omega), if_neg (show ¬ 8 * i0 + i1 + 130 < 100 by omega), if_neg (show ¬ 8 * i0 + i1 + 130 < 110 by omega), if_neg (show ¬ 8 * i0 + i1 + 130 < 120 by omega), if_neg (show ¬ 8 * i0 + i1 + 130 < 130 by omega), if_pos (show 8 * i0 + i1 + 130 < 160 by omega)]⟩
theorem F_TkR (G : GT) (hG : GOK G) {i0 i1 : Nat} (h0 : i0 < gn G) (h1 : i1 < 8) : IA G (8 * i0 + i1 + 160) (3) := by
  have h7 := hG.1
  have ho : okc (gn G) (8 * i0 + i1 + 160) := (Or.inr (Or.inr (Or.inr (Or.inr (Or.inr (Or.inr (Or.inr (Or.inr (Or.inr (Or.inr (Or.inr (Or.inr (Or.inr (Or.inr (Or.inr (Or.inr (Or.inr (Or.inr (Or.inr (Or.inr (Or.inr (Or.inl (by omega)))))))))))))))))))))))
  have hm : 8 * i0 + i1 + 160 ∈ Cs G := mem_Cs (by omega) ho (hG.2.2 _ ho (by omega) (by omega))
  exact ⟨hm, by decide, fun r => by
    unfold ec
    rw [if_neg (show ¬ 8 * i0 + i1 + 160 < 1 by omega), if_neg (show ¬ 8 * i0 + i1 + 160 < 2 by omega), if_neg (show ¬ 8 * i0 + i1 + 160 < 3 by omega), if_neg (show ¬ 8 * i0 + i1 + 160 < 4 by omega), if_neg (show ¬ 8 * i0 + i1 + 160 < 5 by omega), if_neg (show ¬ 8 * i0 + i1 + 160 < 6 by omega), if_neg (show ¬ 8 * i0 + i1 + 160 < 7 by omega), if_neg (show ¬ 8 * i0 + i1 + 160 < 8 by omega), if_neg (show ¬ 8 * i0 + i1 + 160 < 9 by omega), if_neg (show ¬ 8 * i0 + i1 + 160 < 10 by omega), if_neg (show ¬ 8 * i0 + i1 + 160 < 20 by omega), if_neg (show ¬ 8 * i0 + i1 + 160 < 30 by omega), if_neg (show ¬ 8 * i0 + i1 + 160 < 40 by omega), if_neg (show ¬ 8 * i0 + i1 + 160 < 50 by omega), if_neg (show ¬ 8 * i0 + i1 + 160 < 60 by omega), if_neg (show ¬ 8 * i0 + i1 + 160 < 70 by omega), if_neg (show ¬ 8 * i0 + i1 + 160 < 100 by omega), if_neg (show ¬ 8 * i0 + i1 + 160 < 110 by omega), if_neg (show ¬ 8 * i0 + i1 + 160 < 120 by omega), if_neg (show ¬ 8 * i0 + i1 + 160 < 130 by omega), if_neg (show ¬ 8 * i0 + i1 + 160 < 160 by omega), if_pos (show 8 * i0 + i1 + 160 < 200 by omega)]⟩
theorem F_Led (G : GT) (hG : GOK G) {i0 : Nat} (h0 : i0 < 16) : OB G (i0 + 200) iLed (fun r => [.int (r 0), .int (r 1), .int (r 2), .ref (gad G (i0 + 220)), .ref (gad G (i0 + 240)), .ref (gad G (i0 + 260))]) := by
  have h7 := hG.1
  have ho : okc (gn G) (i0 + 200) := (Or.inr (Or.inr (Or.inr (Or.inr (Or.inr (Or.inr (Or.inr (Or.inr (Or.inr (Or.inr (Or.inr (Or.inr (Or.inr (Or.inr (Or.inr (Or.inr (Or.inr (Or.inr (Or.inr (Or.inr (Or.inr (Or.inr (Or.inl (by omega))))))))))))))))))))))))
  have hm : i0 + 200 ∈ Cs G := mem_Cs (by omega) ho (hG.2.2 _ ho (by omega) (by omega))
  exact ⟨hm, fun r => by
    unfold ec
    rw [if_neg (show ¬ i0 + 200 < 1 by omega), if_neg (show ¬ i0 + 200 < 2 by omega), if_neg (show ¬ i0 + 200 < 3 by omega), if_neg (show ¬ i0 + 200 < 4 by omega), if_neg (show ¬ i0 + 200 < 5 by omega), if_neg (show ¬ i0 + 200 < 6 by omega), if_neg (show ¬ i0 + 200 < 7 by omega), if_neg (show ¬ i0 + 200 < 8 by omega), if_neg (show ¬ i0 + 200 < 9 by omega), if_neg (show ¬ i0 + 200 < 10 by omega), if_neg (show ¬ i0 + 200 < 20 by omega), if_neg (show ¬ i0 + 200 < 30 by omega), if_neg (show ¬ i0 + 200 < 40 by omega), if_neg (show ¬ i0 + 200 < 50 by omega), if_neg (show ¬ i0 + 200 < 60 by omega), if_neg (show ¬ i0 + 200 < 70 by omega), if_neg (show ¬ i0 + 200 < 100 by omega), if_neg (show ¬ i0 + 200 < 110 by omega), if_neg (show ¬ i0 + 200 < 120 by omega), if_neg (show ¬ i0 + 200 < 130 by omega), if_neg (show ¬ i0 + 200 < 160 by omega), if_neg (show ¬ i0 + 200 < 200 by omega), if_pos (show i0 + 200 < 220 by omega)]⟩
theorem F_HR (G : GT) (hG : GOK G) {i0 : Nat} (h0 : i0 < 16) : ZA G (i0 + 220) (gn G) := by
  have h7 := hG.1
  have ho : okc (gn G) (i0 + 220) := (Or.inr (Or.inr (Or.inr (Or.inr (Or.inr (Or.inr (Or.inr (Or.inr (Or.inr (Or.inr (Or.inr (Or.inr (Or.inr (Or.inr (Or.inr (Or.inr (Or.inr (Or.inr (Or.inr (Or.inr (Or.inr (Or.inr (Or.inr (Or.inl (by omega)))))))))))))))))))))))))
  have hm : i0 + 220 ∈ Cs G := mem_Cs (by omega) ho (hG.2.2 _ ho (by omega) (by omega))
  exact ⟨hm, by omega, fun r => by
    unfold ec
    rw [if_neg (show ¬ i0 + 220 < 1 by omega), if_neg (show ¬ i0 + 220 < 2 by omega), if_neg (show ¬ i0 + 220 < 3 by omega), if_neg (show ¬ i0 + 220 < 4 by omega), if_neg (show ¬ i0 + 220 < 5 by omega), if_neg (show ¬ i0 + 220 < 6 by omega), if_neg (show ¬ i0 + 220 < 7 by omega), if_neg (show ¬ i0 + 220 < 8 by omega), if_neg (show ¬ i0 + 220 < 9 by omega), if_neg (show ¬ i0 + 220 < 10 by omega), if_neg (show ¬ i0 + 220 < 20 by omega), if_neg (show ¬ i0 + 220 < 30 by omega), if_neg (show ¬ i0 + 220 < 40 by omega), if_neg (show ¬ i0 + 220 < 50 by omega), if_neg (show ¬ i0 + 220 < 60 by omega), if_neg (show ¬ i0 + 220 < 70 by omega), if_neg (show ¬ i0 + 220 < 100 by omega), if_neg (show ¬ i0 + 220 < 110 by omega), if_neg (show ¬ i0 + 220 < 120 by omega), if_neg (show ¬ i0 + 220 < 130 by omega), if_neg (show ¬ i0 + 220 < 160 by omega), if_neg (show ¬ i0 + 220 < 200 by omega), if_neg (show ¬ i0 + 220 < 220 by omega), if_pos (show i0 + 220 < 240 by omega)]⟩
theorem F_Rpl (G : GT) (hG : GOK G) {i0 : Nat} (h0 : i0 < 16) : AA G (i0 + 240) (gn G) (fun j => 4 * i0 + j + 280) := by
  have h7 := hG.1
  have ho : okc (gn G) (i0 + 240) := (Or.inr (Or.inr (Or.inr (Or.inr (Or.inr (Or.inr (Or.inr (Or.inr (Or.inr (Or.inr (Or.inr (Or.inr (Or.inr (Or.inr (Or.inr (Or.inr (Or.inr (Or.inr (Or.inr (Or.inr (Or.inr (Or.inr (Or.inr (Or.inr (Or.inl (by omega))))))))))))))))))))))))))
  have hm : i0 + 240 ∈ Cs G := mem_Cs (by omega) ho (hG.2.2 _ ho (by omega) (by omega))
  exact ⟨hm, by omega, fun r => by
    unfold ec
    rw [if_neg (show ¬ i0 + 240 < 1 by omega), if_neg (show ¬ i0 + 240 < 2 by omega), if_neg (show ¬ i0 + 240 < 3 by omega), if_neg (show ¬ i0 + 240 < 4 by omega), if_neg (show ¬ i0 + 240 < 5 by omega), if_neg (show ¬ i0 + 240 < 6 by omega), if_neg (show ¬ i0 + 240 < 7 by omega), if_neg (show ¬ i0 + 240 < 8 by omega), if_neg (show ¬ i0 + 240 < 9 by omega), if_neg (show ¬ i0 + 240 < 10 by omega), if_neg (show ¬ i0 + 240 < 20 by omega), if_neg (show ¬ i0 + 240 < 30 by omega), if_neg (show ¬ i0 + 240 < 40 by omega), if_neg (show ¬ i0 + 240 < 50 by omega), if_neg (show ¬ i0 + 240 < 60 by omega), if_neg (show ¬ i0 + 240 < 70 by omega), if_neg (show ¬ i0 + 240 < 100 by omega), if_neg (show ¬ i0 + 240 < 110 by omega), if_neg (show ¬ i0 + 240 < 120 by omega), if_neg (show ¬ i0 + 240 < 130 by omega), if_neg (show ¬ i0 + 240 < 160 by omega), if_neg (show ¬ i0 + 240 < 200 by omega), if_neg (show ¬ i0 + 240 < 220 by omega), if_neg (show ¬ i0 + 240 < 240 by omega), if_pos (show i0 + 240 < 260 by omega)]
    simp only [Nat.add_sub_cancel]⟩
theorem F_Lat (G : GT) (hG : GOK G) {i0 : Nat} (h0 : i0 < 16) : AA G (i0 + 260) (gn G) (fun j => 4 * i0 + j + 350) := by
  have h7 := hG.1
  have ho : okc (gn G) (i0 + 260) := (Or.inr (Or.inr (Or.inr (Or.inr (Or.inr (Or.inr (Or.inr (Or.inr (Or.inr (Or.inr (Or.inr (Or.inr (Or.inr (Or.inr (Or.inr (Or.inr (Or.inr (Or.inr (Or.inr (Or.inr (Or.inr (Or.inr (Or.inr (Or.inr (Or.inr (Or.inl (by omega)))))))))))))))))))))))))))
  have hm : i0 + 260 ∈ Cs G := mem_Cs (by omega) ho (hG.2.2 _ ho (by omega) (by omega))
  exact ⟨hm, by omega, fun r => by
    unfold ec
    rw [if_neg (show ¬ i0 + 260 < 1 by omega), if_neg (show ¬ i0 + 260 < 2 by omega), if_neg (show ¬ i0 + 260 < 3 by omega), if_neg (show ¬ i0 + 260 < 4 by omega), if_neg (show ¬ i0 + 260 < 5 by omega), if_neg (show ¬ i0 + 260 < 6 by omega), if_neg (show ¬ i0 + 260 < 7 by omega), if_neg (show ¬ i0 + 260 < 8 by omega), if_neg (show ¬ i0 + 260 < 9 by omega), if_neg (show ¬ i0 + 260 < 10 by omega), if_neg (show ¬ i0 + 260 < 20 by omega), if_neg (show ¬ i0 + 260 < 30 by omega), if_neg (show ¬ i0 + 260 < 40 by omega), if_neg (show ¬ i0 + 260 < 50 by omega), if_neg (show ¬ i0 + 260 < 60 by omega), if_neg (show ¬ i0 + 260 < 70 by omega), if_neg (show ¬ i0 + 260 < 100 by omega), if_neg (show ¬ i0 + 260 < 110 by omega), if_neg (show ¬ i0 + 260 < 120 by omega), if_neg (show ¬ i0 + 260 < 130 by omega), if_neg (show ¬ i0 + 260 < 160 by omega), if_neg (show ¬ i0 + 260 < 200 by omega), if_neg (show ¬ i0 + 260 < 220 by omega), if_neg (show ¬ i0 + 260 < 240 by omega), if_neg (show ¬ i0 + 260 < 260 by omega), if_pos (show i0 + 260 < 280 by omega)]
    simp only [Nat.add_sub_cancel]⟩
theorem F_RpR (G : GT) (hG : GOK G) {i0 i1 : Nat} (h0 : i0 < 16) (h1 : i1 < gn G) : IA G (4 * i0 + i1 + 280) (3) := by
  have h7 := hG.1
  have ho : okc (gn G) (4 * i0 + i1 + 280) := (Or.inr (Or.inr (Or.inr (Or.inr (Or.inr (Or.inr (Or.inr (Or.inr (Or.inr (Or.inr (Or.inr (Or.inr (Or.inr (Or.inr (Or.inr (Or.inr (Or.inr (Or.inr (Or.inr (Or.inr (Or.inr (Or.inr (Or.inr (Or.inr (Or.inr (Or.inr (Or.inl (by omega))))))))))))))))))))))))))))
  have hm : 4 * i0 + i1 + 280 ∈ Cs G := mem_Cs (by omega) ho (hG.2.2 _ ho (by omega) (by omega))
  exact ⟨hm, by decide, fun r => by
    unfold ec
    rw [if_neg (show ¬ 4 * i0 + i1 + 280 < 1 by omega), if_neg (show ¬ 4 * i0 + i1 + 280 < 2 by omega), if_neg (show ¬ 4 * i0 + i1 + 280 < 3 by omega), if_neg (show ¬ 4 * i0 + i1 + 280 < 4 by omega), if_neg (show ¬ 4 * i0 + i1 + 280 < 5 by omega), if_neg (show ¬ 4 * i0 + i1 + 280 < 6 by omega), if_neg (show ¬ 4 * i0 + i1 + 280 < 7 by omega), if_neg (show ¬ 4 * i0 + i1 + 280 < 8 by omega), if_neg (show ¬ 4 * i0 + i1 + 280 < 9 by omega), if_neg (show ¬ 4 * i0 + i1 + 280 < 10 by omega), if_neg (show ¬ 4 * i0 + i1 + 280 < 20 by omega), if_neg (show ¬ 4 * i0 + i1 + 280 < 30 by omega), if_neg (show ¬ 4 * i0 + i1 + 280 < 40 by omega), if_neg (show ¬ 4 * i0 + i1 + 280 < 50 by omega), if_neg (show ¬ 4 * i0 + i1 + 280 < 60 by omega), if_neg (show ¬ 4 * i0 + i1 + 280 < 70 by omega), if_neg (show ¬ 4 * i0 + i1 + 280 < 100 by omega), if_neg (show ¬ 4 * i0 + i1 + 280 < 110 by omega), if_neg (show ¬ 4 * i0 + i1 + 280 < 120 by omega), if_neg (show ¬ 4 * i0 + i1 + 280 < 130 by omega), if_neg (show ¬ 4 * i0 + i1 + 280 < 160 by omega), if_neg (show ¬ 4 * i0 + i1 + 280 < 200 by omega), if_neg (show ¬ 4 * i0 + i1 + 280 < 220 by omega), if_neg (show ¬ 4 * i0 + i1 + 280 < 240 by omega), if_neg (show ¬ 4 * i0 + i1 + 280 < 260 by omega), if_neg (show ¬ 4 * i0 + i1 + 280 < 280 by omega), if_pos (show 4 * i0 + i1 + 280 < 350 by omega)]⟩
theorem F_LtR (G : GT) (hG : GOK G) {i0 i1 : Nat} (h0 : i0 < 16) (h1 : i1 < gn G) : IA G (4 * i0 + i1 + 350) (3) := by
  have h7 := hG.1
  have ho : okc (gn G) (4 * i0 + i1 + 350) := (Or.inr (Or.inr (Or.inr (Or.inr (Or.inr (Or.inr (Or.inr (Or.inr (Or.inr (Or.inr (Or.inr (Or.inr (Or.inr (Or.inr (Or.inr (Or.inr (Or.inr (Or.inr (Or.inr (Or.inr (Or.inr (Or.inr (Or.inr (Or.inr (Or.inr (Or.inr (Or.inr (Or.inl (by omega)))))))))))))))))))))))))))))
  have hm : 4 * i0 + i1 + 350 ∈ Cs G := mem_Cs (by omega) ho (hG.2.2 _ ho (by omega) (by omega))
  exact ⟨hm, by decide, fun r => by
    unfold ec
    rw [if_neg (show ¬ 4 * i0 + i1 + 350 < 1 by omega), if_neg (show ¬ 4 * i0 + i1 + 350 < 2 by omega), if_neg (show ¬ 4 * i0 + i1 + 350 < 3 by omega), if_neg (show ¬ 4 * i0 + i1 + 350 < 4 by omega), if_neg (show ¬ 4 * i0 + i1 + 350 < 5 by omega), if_neg (show ¬ 4 * i0 + i1 + 350 < 6 by omega), if_neg (show ¬ 4 * i0 + i1 + 350 < 7 by omega), if_neg (show ¬ 4 * i0 + i1 + 350 < 8 by omega), if_neg (show ¬ 4 * i0 + i1 + 350 < 9 by omega), if_neg (show ¬ 4 * i0 + i1 + 350 < 10 by omega), if_neg (show ¬ 4 * i0 + i1 + 350 < 20 by omega), if_neg (show ¬ 4 * i0 + i1 + 350 < 30 by omega), if_neg (show ¬ 4 * i0 + i1 + 350 < 40 by omega), if_neg (show ¬ 4 * i0 + i1 + 350 < 50 by omega), if_neg (show ¬ 4 * i0 + i1 + 350 < 60 by omega), if_neg (show ¬ 4 * i0 + i1 + 350 < 70 by omega), if_neg (show ¬ 4 * i0 + i1 + 350 < 100 by omega), if_neg (show ¬ 4 * i0 + i1 + 350 < 110 by omega), if_neg (show ¬ 4 * i0 + i1 + 350 < 120 by omega), if_neg (show ¬ 4 * i0 + i1 + 350 < 130 by omega), if_neg (show ¬ 4 * i0 + i1 + 350 < 160 by omega), if_neg (show ¬ 4 * i0 + i1 + 350 < 200 by omega), if_neg (show ¬ 4 * i0 + i1 + 350 < 220 by omega), if_neg (show ¬ 4 * i0 + i1 + 350 < 240 by omega), if_neg (show ¬ 4 * i0 + i1 + 350 < 260 by omega), if_neg (show ¬ 4 * i0 + i1 + 350 < 280 by omega), if_neg (show ¬ 4 * i0 + i1 + 350 < 350 by omega), if_pos (show 4 * i0 + i1 + 350 < 420 by omega)]⟩
theorem F_Msg (G : GT) (hG : GOK G) {i0 : Nat} (h0 : i0 < 62) : OB G (i0 + 420) iMsg (fun r => [.int (r 0), .int (r 1), .int (r 2), .int (r 3), .int (r 4), .int (r 5), .int (r 6), .ref (gad G (i0 + 490))]) := by
  have h7 := hG.1
  have ho : okc (gn G) (i0 + 420) := (Or.inr (Or.inr (Or.inr (Or.inr (Or.inr (Or.inr (Or.inr (Or.inr (Or.inr (Or.inr (Or.inr (Or.inr (Or.inr (Or.inr (Or.inr (Or.inr (Or.inr (Or.inr (Or.inr (Or.inr (Or.inr (Or.inr (Or.inr (Or.inr (Or.inr (Or.inr (Or.inr (Or.inr (Or.inl (by omega))))))))))))))))))))))))))))))
  have hm : i0 + 420 ∈ Cs G := mem_Cs (by omega) ho (hG.2.2 _ ho (by omega) (by omega))
  exact ⟨hm, fun r => by
    unfold ec
    rw [if_neg (show ¬ i0 + 420 < 1 by omega), if_neg (show ¬ i0 + 420 < 2 by omega), if_neg (show ¬ i0 + 420 < 3 by omega), if_neg (show ¬ i0 + 420 < 4 by omega), if_neg (show ¬ i0 + 420 < 5 by omega), if_neg (show ¬ i0 + 420 < 6 by omega), if_neg (show ¬ i0 + 420 < 7 by omega), if_neg (show ¬ i0 + 420 < 8 by omega), if_neg (show ¬ i0 + 420 < 9 by omega), if_neg (show ¬ i0 + 420 < 10 by omega), if_neg (show ¬ i0 + 420 < 20 by omega), if_neg (show ¬ i0 + 420 < 30 by omega), if_neg (show ¬ i0 + 420 < 40 by omega), if_neg (show ¬ i0 + 420 < 50 by omega), if_neg (show ¬ i0 + 420 < 60 by omega), if_neg (show ¬ i0 + 420 < 70 by omega), if_neg (show ¬ i0 + 420 < 100 by omega), if_neg (show ¬ i0 + 420 < 110 by omega), if_neg (show ¬ i0 + 420 < 120 by omega), if_neg (show ¬ i0 + 420 < 130 by omega), if_neg (show ¬ i0 + 420 < 160 by omega), if_neg (show ¬ i0 + 420 < 200 by omega), if_neg (show ¬ i0 + 420 < 220 by omega), if_neg (show ¬ i0 + 420 < 240 by omega), if_neg (show ¬ i0 + 420 < 260 by omega), if_neg (show ¬ i0 + 420 < 280 by omega), if_neg (show ¬ i0 + 420 < 350 by omega), if_neg (show ¬ i0 + 420 < 420 by omega), if_pos (show i0 + 420 < 490 by omega)]⟩
theorem F_Rep (G : GT) (hG : GOK G) {i0 : Nat} (h0 : i0 < 62) : IA G (i0 + 490) (3) := by
  have h7 := hG.1
  have ho : okc (gn G) (i0 + 490) := (Or.inr (Or.inr (Or.inr (Or.inr (Or.inr (Or.inr (Or.inr (Or.inr (Or.inr (Or.inr (Or.inr (Or.inr (Or.inr (Or.inr (Or.inr (Or.inr (Or.inr (Or.inr (Or.inr (Or.inr (Or.inr (Or.inr (Or.inr (Or.inr (Or.inr (Or.inr (Or.inr (Or.inr (Or.inr (Or.inl (by omega)))))))))))))))))))))))))))))))
  have hm : i0 + 490 ∈ Cs G := mem_Cs (by omega) ho (hG.2.2 _ ho (by omega) (by omega))
  exact ⟨hm, by decide, fun r => by
    unfold ec
    rw [if_neg (show ¬ i0 + 490 < 1 by omega), if_neg (show ¬ i0 + 490 < 2 by omega), if_neg (show ¬ i0 + 490 < 3 by omega), if_neg (show ¬ i0 + 490 < 4 by omega), if_neg (show ¬ i0 + 490 < 5 by omega), if_neg (show ¬ i0 + 490 < 6 by omega), if_neg (show ¬ i0 + 490 < 7 by omega), if_neg (show ¬ i0 + 490 < 8 by omega), if_neg (show ¬ i0 + 490 < 9 by omega), if_neg (show ¬ i0 + 490 < 10 by omega), if_neg (show ¬ i0 + 490 < 20 by omega), if_neg (show ¬ i0 + 490 < 30 by omega), if_neg (show ¬ i0 + 490 < 40 by omega), if_neg (show ¬ i0 + 490 < 50 by omega), if_neg (show ¬ i0 + 490 < 60 by omega), if_neg (show ¬ i0 + 490 < 70 by omega), if_neg (show ¬ i0 + 490 < 100 by omega), if_neg (show ¬ i0 + 490 < 110 by omega), if_neg (show ¬ i0 + 490 < 120 by omega), if_neg (show ¬ i0 + 490 < 130 by omega), if_neg (show ¬ i0 + 490 < 160 by omega), if_neg (show ¬ i0 + 490 < 200 by omega), if_neg (show ¬ i0 + 490 < 220 by omega), if_neg (show ¬ i0 + 490 < 240 by omega), if_neg (show ¬ i0 + 490 < 260 by omega), if_neg (show ¬ i0 + 490 < 280 by omega), if_neg (show ¬ i0 + 490 < 350 by omega), if_neg (show ¬ i0 + 490 < 420 by omega), if_neg (show ¬ i0 + 490 < 490 by omega), if_pos (show i0 + 490 < 600 by omega)]⟩
theorem F_Mo (G : GT) (hG : GOK G)  : OB G (600) iMo (fsMo G) := by
  have h7 := hG.1
  have ho : okc (gn G) (600) := (Or.inr (Or.inr (Or.inr (Or.inr (Or.inr (Or.inr (Or.inr (Or.inr (Or.inr (Or.inr (Or.inr (Or.inr (Or.inr (Or.inr (Or.inr (Or.inr (Or.inr (Or.inr (Or.inr (Or.inr (Or.inr (Or.inr (Or.inr (Or.inr (Or.inr (Or.inr (Or.inr (Or.inr (Or.inr (Or.inr (Or.inl (by omega))))))))))))))))))))))))))))))))
  have hm : 600 ∈ Cs G := mem_Cs (by omega) ho (hG.2.2 _ ho (by omega) (by omega))
  exact ⟨hm, fun r => by
    unfold ec
    rw [if_neg (show ¬ 600 < 1 by omega), if_neg (show ¬ 600 < 2 by omega), if_neg (show ¬ 600 < 3 by omega), if_neg (show ¬ 600 < 4 by omega), if_neg (show ¬ 600 < 5 by omega), if_neg (show ¬ 600 < 6 by omega), if_neg (show ¬ 600 < 7 by omega), if_neg (show ¬ 600 < 8 by omega), if_neg (show ¬ 600 < 9 by omega), if_neg (show ¬ 600 < 10 by omega), if_neg (show ¬ 600 < 20 by omega), if_neg (show ¬ 600 < 30 by omega), if_neg (show ¬ 600 < 40 by omega), if_neg (show ¬ 600 < 50 by omega), if_neg (show ¬ 600 < 60 by omega), if_neg (show ¬ 600 < 70 by omega), if_neg (show ¬ 600 < 100 by omega), if_neg (show ¬ 600 < 110 by omega), if_neg (show ¬ 600 < 120 by omega), if_neg (show ¬ 600 < 130 by omega), if_neg (show ¬ 600 < 160 by omega), if_neg (show ¬ 600 < 200 by omega), if_neg (show ¬ 600 < 220 by omega), if_neg (show ¬ 600 < 240 by omega), if_neg (show ¬ 600 < 260 by omega), if_neg (show ¬ 600 < 280 by omega), if_neg (show ¬ 600 < 350 by omega), if_neg (show ¬ 600 < 420 by omega), if_neg (show ¬ 600 < 490 by omega), if_neg (show ¬ 600 < 600 by omega), if_pos (show 600 < 601 by omega)]⟩
theorem F_MstoreDown (G : GT) (hG : GOK G)  : ZA G (602) (3) := by
  have h7 := hG.1
  have ho : okc (gn G) (602) := (Or.inr (Or.inr (Or.inr (Or.inr (Or.inr (Or.inr (Or.inr (Or.inr (Or.inr (Or.inr (Or.inr (Or.inr (Or.inr (Or.inr (Or.inr (Or.inr (Or.inr (Or.inr (Or.inr (Or.inr (Or.inr (Or.inr (Or.inr (Or.inr (Or.inr (Or.inr (Or.inr (Or.inr (Or.inr (Or.inr (Or.inr (Or.inl (by omega)))))))))))))))))))))))))))))))))
  have hm : 602 ∈ Cs G := mem_Cs (by omega) ho (hG.2.2 _ ho (by omega) (by omega))
  exact ⟨hm, by decide, fun r => by
    unfold ec
    rw [if_neg (show ¬ 602 < 1 by omega), if_neg (show ¬ 602 < 2 by omega), if_neg (show ¬ 602 < 3 by omega), if_neg (show ¬ 602 < 4 by omega), if_neg (show ¬ 602 < 5 by omega), if_neg (show ¬ 602 < 6 by omega), if_neg (show ¬ 602 < 7 by omega), if_neg (show ¬ 602 < 8 by omega), if_neg (show ¬ 602 < 9 by omega), if_neg (show ¬ 602 < 10 by omega), if_neg (show ¬ 602 < 20 by omega), if_neg (show ¬ 602 < 30 by omega), if_neg (show ¬ 602 < 40 by omega), if_neg (show ¬ 602 < 50 by omega), if_neg (show ¬ 602 < 60 by omega), if_neg (show ¬ 602 < 70 by omega), if_neg (show ¬ 602 < 100 by omega), if_neg (show ¬ 602 < 110 by omega), if_neg (show ¬ 602 < 120 by omega), if_neg (show ¬ 602 < 130 by omega), if_neg (show ¬ 602 < 160 by omega), if_neg (show ¬ 602 < 200 by omega), if_neg (show ¬ 602 < 220 by omega), if_neg (show ¬ 602 < 240 by omega), if_neg (show ¬ 602 < 260 by omega), if_neg (show ¬ 602 < 280 by omega), if_neg (show ¬ 602 < 350 by omega), if_neg (show ¬ 602 < 420 by omega), if_neg (show ¬ 602 < 490 by omega), if_neg (show ¬ 602 < 600 by omega), if_neg (show ¬ 602 < 601 by omega), if_pos (show 602 < 603 by omega)]⟩
theorem F_MacceptorDown (G : GT) (hG : GOK G)  : ZA G (603) (3) := by
  have h7 := hG.1
  have ho : okc (gn G) (603) := (Or.inr (Or.inr (Or.inr (Or.inr (Or.inr (Or.inr (Or.inr (Or.inr (Or.inr (Or.inr (Or.inr (Or.inr (Or.inr (Or.inr (Or.inr (Or.inr (Or.inr (Or.inr (Or.inr (Or.inr (Or.inr (Or.inr (Or.inr (Or.inr (Or.inr (Or.inr (Or.inr (Or.inr (Or.inr (Or.inr (Or.inr (Or.inr (Or.inl (by omega))))))))))))))))))))))))))))))))))
  have hm : 603 ∈ Cs G := mem_Cs (by omega) ho (hG.2.2 _ ho (by omega) (by omega))
  exact ⟨hm, by decide, fun r => by
    unfold ec
    rw [if_neg (show ¬ 603 < 1 by omega), if_neg (show ¬ 603 < 2 by omega), if_neg (show ¬ 603 < 3 by omega), if_neg (show ¬ 603 < 4 by omega), if_neg (show ¬ 603 < 5 by omega), if_neg (show ¬ 603 < 6 by omega), if_neg (show ¬ 603 < 7 by omega), if_neg (show ¬ 603 < 8 by omega), if_neg (show ¬ 603 < 9 by omega), if_neg (show ¬ 603 < 10 by omega), if_neg (show ¬ 603 < 20 by omega), if_neg (show ¬ 603 < 30 by omega), if_neg (show ¬ 603 < 40 by omega), if_neg (show ¬ 603 < 50 by omega), if_neg (show ¬ 603 < 60 by omega), if_neg (show ¬ 603 < 70 by omega), if_neg (show ¬ 603 < 100 by omega), if_neg (show ¬ 603 < 110 by omega), if_neg (show ¬ 603 < 120 by omega), if_neg (show ¬ 603 < 130 by omega), if_neg (show ¬ 603 < 160 by omega), if_neg (show ¬ 603 < 200 by omega), if_neg (show ¬ 603 < 220 by omega), if_neg (show ¬ 603 < 240 by omega), if_neg (show ¬ 603 < 260 by omega), if_neg (show ¬ 603 < 280 by omega), if_neg (show ¬ 603 < 350 by omega), if_neg (show ¬ 603 < 420 by omega), if_neg (show ¬ 603 < 490 by omega), if_neg (show ¬ 603 < 600 by omega), if_neg (show ¬ 603 < 601 by omega), if_neg (show ¬ 603 < 603 by omega), if_pos (show 603 < 604 by omega)]⟩
theorem F_MleaderDown (G : GT) (hG : GOK G)  : ZA G (604) (2) := by
  have h7 := hG.1
  have ho : okc (gn G) (604) := (Or.inr (Or.inr (Or.inr (Or.inr (Or.inr (Or.inr (Or.inr (Or.inr (Or.inr (Or.inr (Or.inr (Or.inr (Or.inr (Or.inr (Or.inr (Or.inr (Or.inr (Or.inr (Or.inr (Or.inr (Or.inr (Or.inr (Or.inr (Or.inr (Or.inr (Or.inr (Or.inr (Or.inr (Or.inr (Or.inr (Or.inr (Or.inr (Or.inr (Or.inl (by omega)))))))))))))))))))))))))))))))))))
  have hm : 604 ∈ Cs G := mem_Cs (by omega) ho (hG.2.2 _ ho (by omega) (by omega))
  exact ⟨hm, by decide, fun r => by
    unfold ec
    rw [if_neg (show ¬ 604 < 1 by omega), if_neg (show ¬ 604 < 2 by omega), if_neg (show ¬ 604 < 3 by omega), if_neg (show ¬ 604 < 4 by omega), if_neg (show ¬ 604 < 5 by omega), if_neg (show ¬ 604 < 6 by omega), if_neg (show ¬ 604 < 7 by omega), if_neg (show ¬ 604 < 8 by omega), if_neg (show ¬ 604 < 9 by omega), if_neg (show ¬ 604 < 10 by omega), if_neg (show ¬ 604 < 20 by omega), if_neg (show ¬ 604 < 30 by omega), if_neg (show ¬ 604 < 40 by omega), if_neg (show ¬ 604 < 50 by omega), if_neg (show ¬ 604 < 60 by omega), if_neg (show ¬ 604 < 70 by omega), if_neg (show ¬ 604 < 100 by omega), if_neg (show ¬ 604 < 110 by omega), if_neg (show ¬ 604 < 120 by omega), if_neg (show ¬ 604 < 130 by omega), if_neg (show ¬ 604 < 160 by omega), if_neg (show ¬ 604 < 200 by omega), if_neg (show ¬ 604 < 220 by omega), if_neg (show ¬ 604 < 240 by omega), if_neg (show ¬ 604 < 260 by omega), if_neg (show ¬ 604 < 280 by omega), if_neg (show ¬ 604 < 350 by omega), if_neg (show ¬ 604 < 420 by omega), if_neg (show ¬ 604 < 490 by omega), if_neg (show ¬ 604 < 600 by omega), if_neg (show ¬ 604 < 601 by omega), if_neg (show ¬ 604 < 603 by omega), if_neg (show ¬ 604 < 604 by omega), if_pos (show 604 < 605 by omega)]⟩
theorem F_Mvalue (G : GT) (hG : GOK G)  : IA G (605) (12) := by
  have h7 := hG.1
  have ho : okc (gn G) (605) := (Or.inr (Or.inr (Or.inr (Or.inr (Or.inr (Or.inr (Or.inr (Or.inr (Or.inr (Or.inr (Or.inr (Or.inr (Or.inr (Or.inr (Or.inr (Or.inr (Or.inr (Or.inr (Or.inr (Or.inr (Or.inr (Or.inr (Or.inr (Or.inr (Or.inr (Or.inr (Or.inr (Or.inr (Or.inr (Or.inr (Or.inr (Or.inr (Or.inr (Or.inr (Or.inl (by omega))))))))))))))))))))))))))))))))))))
  have hm : 605 ∈ Cs G := mem_Cs (by omega) ho (hG.2.2 _ ho (by omega) (by omega))
  exact ⟨hm, by decide, fun r => by
    unfold ec
    rw [if_neg (show ¬ 605 < 1 by omega), if_neg (show ¬ 605 < 2 by omega), if_neg (show ¬ 605 < 3 by omega), if_neg (show ¬ 605 < 4 by omega), if_neg (show ¬ 605 < 5 by omega), if_neg (show ¬ 605 < 6 by omega), if_neg (show ¬ 605 < 7 by omega), if_neg (show ¬ 605 < 8 by omega), if_neg (show ¬ 605 < 9 by omega), if_neg (show ¬ 605 < 10 by omega), if_neg (show ¬ 605 < 20 by omega), if_neg (show ¬ 605 < 30 by omega), if_neg (show ¬ 605 < 40 by omega), if_neg (show ¬ 605 < 50 by omega), if_neg (show ¬ 605 < 60 by omega), if_neg (show ¬ 605 < 70 by omega), if_neg (show ¬ 605 < 100 by omega), if_neg (show ¬ 605 < 110 by omega), if_neg (show ¬ 605 < 120 by omega), if_neg (show ¬ 605 < 130 by omega), if_neg (show ¬ 605 < 160 by omega), if_neg (show ¬ 605 < 200 by omega), if_neg (show ¬ 605 < 220 by omega), if_neg (show ¬ 605 < 240 by omega), if_neg (show ¬ 605 < 260 by omega), if_neg (show ¬ 605 < 280 by omega), if_neg (show ¬ 605 < 350 by omega), if_neg (show ¬ 605 < 420 by omega), if_neg (show ¬ 605 < 490 by omega), if_neg (show ¬ 605 < 600 by omega), if_neg (show ¬ 605 < 601 by omega), if_neg (show ¬ 605 < 603 by omega), if_neg (show ¬ 605 < 604 by omega), if_neg (show ¬ 605 < 605 by omega), if_pos (show 605 < 606 by omega)]⟩
theorem F_Mlock (G : GT) (hG : GOK G)  : IA G (606) (12) := by
  have h7 := hG.1
  have ho : okc (gn G) (606) := (Or.inr (Or.inr (Or.inr (Or.inr (Or.inr (Or.inr (Or.inr (Or.inr (Or.inr (Or.inr (Or.inr (Or.inr (Or.inr (Or.inr (Or.inr (Or.inr (Or.inr (Or.inr (Or.inr (Or.inr (Or.inr (Or.inr (Or.inr (Or.inr (Or.inr (Or.inr (Or.inr (Or.inr (Or.inr (Or.inr (Or.inr (Or.inr (Or.inr (Or.inr (Or.inr (Or.inl (by omega)))))))))))))))))))))))))))))))))))))
  have hm : 606 ∈ Cs G := mem_Cs (by omega) ho (hG.2.2 _ ho (by omega) (by omega))
  exact ⟨hm, by decide, fun r => by
    unfold ec
    rw [if_neg (show ¬ 606 < 1 by omega), if_neg (show ¬ 606 < 2 by omega), if_neg (show ¬ 606 < 3 by omega), if_neg (show ¬ 606 < 4 by omega), if_neg (show ¬ 606 < 5 by omega), if_neg (show ¬ 606 < 6 by omega), if_neg (show ¬ 606 < 7 by omega), if_neg (show ¬ 606 < 8 by omega), if_neg (show ¬ 606 < 9 by omega), if_neg (show ¬ 606 < 10 by omega), if_neg (show ¬ 606 < 20 by omega), if_neg (show ¬ 606 < 30 by omega), if_neg (show ¬ 606 < 40 by omega), if_neg (show ¬ 606 < 50 by omega), if_neg (show ¬ 606 < 60 by omega), if_neg (show ¬ 606 < 70 by omega), if_neg (show ¬ 606 < 100 by omega), if_neg (show ¬ 606 < 110 by omega), if_neg (show ¬ 606 < 120 by omega), if_neg (show ¬ 606 < 130 by omega), if_neg (show ¬ 606 < 160 by omega), if_neg (show ¬ 606 < 200 by omega), if_neg (show ¬ 606 < 220 by omega), if_neg (show ¬ 606 < 240 by omega), if_neg (show ¬ 606 < 260 by omega), if_neg (show ¬ 606 < 280 by omega), if_neg (show ¬ 606 < 350 by omega), if_neg (show ¬ 606 < 420 by omega), if_neg (show ¬ 606 < 490 by omega), if_neg (show ¬ 606 < 600 by omega), if_neg (show ¬ 606 < 601 by omega), if_neg (show ¬ 606 < 603 by omega), if_neg (show ¬ 606 < 604 by omega), if_neg (show ¬ 606 < 605 by omega), if_neg (show ¬ 606 < 606 by omega), if_pos (show 606 < 607 by omega)]⟩
theorem F_Mmembers (G : GT) (hG : GOK G)  : IA G (608) (8) := by
  have h7 := hG.1
  have ho : okc (gn G) (608) := (Or.inr (Or.inr (Or.inr (Or.inr (Or.inr (Or.inr (Or.inr (Or.inr (Or.inr (Or.inr (Or.inr (Or.inr (Or.inr (Or.inr (Or.inr (Or.inr (Or.inr (Or.inr (Or.inr (Or.inr (Or.inr (Or.inr (Or.inr (Or.inr (Or.inr (Or.inr (Or.inr (Or.inr (Or.inr (Or.inr (Or.inr (Or.inr (Or.inr (Or.inr (Or.inr (Or.inr (Or.inl (by omega))))))))))))))))))))))))))))))))))))))
  have hm : 608 ∈ Cs G := mem_Cs (by omega) ho (hG.2.2 _ ho (by omega) (by omega))
  exact ⟨hm, by decide, fun r => by
    unfold ec
    rw [if_neg (show ¬ 608 < 1 by omega), if_neg (show ¬ 608 < 2 by omega), if_neg (show ¬ 608 < 3 by omega), if_neg (show ¬ 608 < 4 by omega), if_neg (show ¬ 608 < 5 by omega), if_neg (show ¬ 608 < 6 by omega), if_neg (show ¬ 608 < 7 by omega), if_neg (show ¬ 608 < 8 by omega), if_neg (show ¬ 608 < 9 by omega), if_neg (show ¬ 608 < 10 by omega), if_neg (show ¬ 608 < 20 by omega), if_neg (show ¬ 608 < 30 by omega), if_neg (show ¬ 608 < 40 by omega), if_neg (show ¬ 608 < 50 by omega), if_neg (show ¬ 608 < 60 by omega), if_neg (show ¬ 608 < 70 by omega), if_neg (show ¬ 608 < 100 by omega), if_neg (show ¬ 608 < 110 by omega), if_neg (show ¬ 608 < 120 by omega), if_neg (show ¬ 608 < 130 by omega), if_neg (show ¬ 608 < 160 by omega), if_neg (show ¬ 608 < 200 by omega), if_neg (show ¬ 608 < 220 by omega), if_neg (show ¬ 608 < 240 by omega), if_neg (show ¬ 608 < 260 by omega), if_neg (show ¬ 608 < 280 by omega), if_neg (show ¬ 608 < 350 by omega), if_neg (show ¬ 608 < 420 by omega), if_neg (show ¬ 608 < 490 by omega), if_neg (show ¬ 608 < 600 by omega), if_neg (show ¬ 608 < 601 by omega), if_neg (show ¬ 608 < 603 by omega), if_neg (show ¬ 608 < 604 by omega), if_neg (show ¬ 608 < 605 by omega), if_neg (show ¬ 608 < 606 by omega), if_neg (show ¬ 608 < 607 by omega), if_pos (show 608 < 609 by omega)]⟩
theorem F_Mclosed (G : GT) (hG : GOK G)  : ZA G (609) (8) := by
  have h7 := hG.1
  have ho : okc (gn G) (609) := (Or.inr (Or.inr (Or.inr (Or.inr (Or.inr (Or.inr (Or.inr (Or.inr (Or.inr (Or.inr (Or.inr (Or.inr (Or.inr (Or.inr (Or.inr (Or.inr (Or.inr (Or.inr (Or.inr (Or.inr (Or.inr (Or.inr (Or.inr (Or.inr (Or.inr (Or.inr (Or.inr (Or.inr (Or.inr (Or.inr (Or.inr (Or.inr (Or.inr (Or.inr (Or.inr (Or.inr (Or.inr (Or.inl (by omega)))))))))))))))))))))))))))))))))))))))
  have hm : 609 ∈ Cs G := mem_Cs (by omega) ho (hG.2.2 _ ho (by omega) (by omega))
  exact ⟨hm, by decide, fun r => by
    unfold ec
    rw [if_neg (show ¬ 609 < 1 by omega), if_neg (show ¬ 609 < 2 by omega), if_neg (show ¬ 609 < 3 by omega), if_neg (show ¬ 609 < 4 by omega), if_neg (show ¬ 609 < 5 by omega), if_neg (show ¬ 609 < 6 by omega), if_neg (show ¬ 609 < 7 by omega), if_neg (show ¬ 609 < 8 by omega), if_neg (show ¬ 609 < 9 by omega), if_neg (show ¬ 609 < 10 by omega), if_neg (show ¬ 609 < 20 by omega), if_neg (show ¬ 609 < 30 by omega), if_neg (show ¬ 609 < 40 by omega), if_neg (show ¬ 609 < 50 by omega), if_neg (show ¬ 609 < 60 by omega), if_neg (show ¬ 609 < 70 by omega), if_neg (show ¬ 609 < 100 by omega), if_neg (show ¬ 609 < 110 by omega), if_neg (show ¬ 609 < 120 by omega), if_neg (show ¬ 609 < 130 by omega), if_neg (show ¬ 609 < 160 by omega), if_neg (show ¬ 609 < 200 by omega), if_neg (show ¬ 609 < 220 by omega), if_neg (show ¬ 609 < 240 by omega), if_neg (show ¬ 609 < 260 by omega), if_neg (show ¬ 609 < 280 by omega), if_neg (show ¬ 609 < 350 by omega), if_neg (show ¬ 609 < 420 by omega), if_neg (show ¬ 609 < 490 by omega), if_neg (show ¬ 609 < 600 by omega), if_neg (show ¬ 609 < 601 by omega), if_neg (show ¬ 609 < 603 by omega), if_neg (show ¬ 609 < 604 by omega), if_neg (show ¬ 609 < 605 by omega), if_neg (show ¬ 609 < 606 by omega), if_neg (show ¬ 609 < 607 by omega), if_neg (show ¬ 609 < 609 by omega), if_pos (show 609 < 610 by omega)]⟩
theorem F_Mstate (G : GT) (hG : GOK G)  : IA G (610) (24) := by
  have h7 := hG.1
  have ho : okc (gn G) (610) := (Or.inr (Or.inr (Or.inr (Or.inr (Or.inr (Or.inr (Or.inr (Or.inr (Or.inr (Or.inr (Or.inr (Or.inr (Or.inr (Or.inr (Or.inr (Or.inr (Or.inr (Or.inr (Or.inr (Or.inr (Or.inr (Or.inr (Or.inr (Or.inr (Or.inr (Or.inr (Or.inr (Or.inr (Or.inr (Or.inr (Or.inr (Or.inr (Or.inr (Or.inr (Or.inr (Or.inr (Or.inr (Or.inr (Or.inl (by omega))))))))))))))))))))))))))))))))))))))))
  have hm : 610 ∈ Cs G := mem_Cs (by omega) ho (hG.2.2 _ ho (by omega) (by omega))
  exact ⟨hm, by decide, fun r => by
    unfold ec
    rw [if_neg (show ¬ 610 < 1 by omega), if_neg (show ¬ 610 < 2 by omega), if_neg (show ¬ 610 < 3 by omega), if_neg (show ¬ 610 < 4 by omega), if_neg (show ¬ 610 < 5 by omega), if_neg (show ¬ 610 < 6 by omega), if_neg (show ¬ 610 < 7 by omega), if_neg (show ¬ 610 < 8 by omega), if_neg (show ¬ 610 < 9 by omega), if_neg (show ¬ 610 < 10 by omega), if_neg (show ¬ 610 < 20 by omega), if_neg (show ¬ 610 < 30 by omega), if_neg (show ¬ 610 < 40 by omega), if_neg (show ¬ 610 < 50 by omega), if_neg (show ¬ 610 < 60 by omega), if_neg (show ¬ 610 < 70 by omega), if_neg (show ¬ 610 < 100 by omega), if_neg (show ¬ 610 < 110 by omega), if_neg (show ¬ 610 < 120 by omega), if_neg (show ¬ 610 < 130 by omega), if_neg (show ¬ 610 < 160 by omega), if_neg (show ¬ 610 < 200 by omega), if_neg (show ¬ 610 < 220 by omega), if_neg (show ¬ 610 < 240 by omega), if_neg (show ¬ 610 < 260 by omega), if_neg (show ¬ 610 < 280 by omega), if_neg (show ¬ 610 < 350 by omega), if_neg (show ¬ 610 < 420 by omega), if_neg (show ¬ 610 < 490 by omega), if_neg (show ¬ 610 < 600 by omega), if_neg (show ¬ 610 < 601 by omega), if_neg (show ¬ 610 < 603 by omega), if_neg (show ¬ 610 < 604 by omega), if_neg (show ¬ 610 < 605 by omega), if_neg (show ¬ 610 < 606 by omega), if_neg (show ¬ 610 < 607 by omega), if_neg (show ¬ 610 < 609 by omega), if_neg (show ¬ 610 < 610 by omega), if_pos (show 610 < 611 by omega)]⟩
theorem F_Mwrites (G : GT) (hG : GOK G)  : IA G (611) (24) := by
  have h7 := hG.1
  have ho : okc (gn G) (611) := (Or.inr (Or.inr (Or.inr (Or.inr (Or.inr (Or.inr (Or.inr (Or.inr (Or.inr (Or.inr (Or.inr (Or.inr (Or.inr (Or.inr (Or.inr (Or.inr (Or.inr (Or.inr (Or.inr (Or.inr (Or.inr (Or.inr (Or.inr (Or.inr (Or.inr (Or.inr (Or.inr (Or.inr (Or.inr (Or.inr (Or.inr (Or.inr (Or.inr (Or.inr (Or.inr (Or.inr (Or.inr (Or.inr (Or.inr (Or.inl (by omega)))))))))))))))))))))))))))))))))))))))))
  have hm : 611 ∈ Cs G := mem_Cs (by omega) ho (hG.2.2 _ ho (by omega) (by omega))
  exact ⟨hm, by decide, fun r => by
    unfold ec
    rw [if_neg (show ¬ 611 < 1 by omega), if_neg (show ¬ 611 < 2 by omega), if_neg (show ¬ 611 < 3 by omega), if_neg (show ¬ 611 < 4 by omega), if_neg (show ¬ 611 < 5 by omega), if_neg (show ¬ 611 < 6 by omega), if_neg (show ¬ 611 < 7 by omega), if_neg (show ¬ 611 < 8 by omega), if_neg (show ¬ 611 < 9 by omega), if_neg (show ¬ 611 < 10 by omega), if_neg (show ¬ 611 < 20 by omega), if_neg (show ¬ 611 < 30 by omega), if_neg (show ¬ 611 < 40 by omega), if_neg (show ¬ 611 < 50 by omega), if_neg (show ¬ 611 < 60 by omega), if_neg (show ¬ 611 < 70 by omega), if_neg (show ¬ 611 < 100 by omega), if_neg (show ¬ 611 < 110 by omega), if_neg (show ¬ 611 < 120 by omega), if_neg (show ¬ 611 < 130 by omega), if_neg (show ¬ 611 < 160 by omega), if_neg (show ¬ 611 < 200 by omega), if_neg (show ¬ 611 < 220 by omega), if_neg (show ¬ 611 < 240 by omega), if_neg (show ¬ 611 < 260 by omega), if_neg (show ¬ 611 < 280 by omega), if_neg (show ¬ 611 < 350 by omega), if_neg (show ¬ 611 < 420 by omega), if_neg (show ¬ 611 < 490 by omega), if_neg (show ¬ 611 < 600 by omega), if_neg (show ¬ 611 < 601 by omega), if_neg (show ¬ 611 < 603 by omega), if_neg (show ¬ 611 < 604 by omega), if_neg (show ¬ 611 < 605 by omega), if_neg (show ¬ 611 < 606 by omega), if_neg (show ¬ 611 < 607 by omega), if_neg (show ¬ 611 < 609 by omega), if_neg (show ¬ 611 < 610 by omega), if_neg (show ¬ 611 < 611 by omega), if_pos (show 611 < 612 by omega)]⟩
theorem F_Mwritten (G : GT) (hG : GOK G)  : IA G (612) (96) := by
  have h7 := hG.1
  have ho : okc (gn G) (612) := (Or.inr (Or.inr (Or.inr (Or.inr (Or.inr (Or.inr (Or.inr (Or.inr (Or.inr (Or.inr (Or.inr (Or.inr (Or.inr (Or.inr (Or.inr (Or.inr (Or.inr (Or.inr (Or.inr (Or.inr (Or.inr (Or.inr (Or.inr (Or.inr (Or.inr (Or.inr (Or.inr (Or.inr (Or.inr (Or.inr (Or.inr (Or.inr (Or.inr (Or.inr (Or.inr (Or.inr (Or.inr (Or.inr (Or.inr (Or.inr (Or.inl (by omega))))))))))))))))))))))))))))))))))))))))))
  have hm : 612 ∈ Cs G := mem_Cs (by omega) ho (hG.2.2 _ ho (by omega) (by omega))
  exact ⟨hm, by decide, fun r => by
    unfold ec
    rw [if_neg (show ¬ 612 < 1 by omega), if_neg (show ¬ 612 < 2 by omega), if_neg (show ¬ 612 < 3 by omega), if_neg (show ¬ 612 < 4 by omega), if_neg (show ¬ 612 < 5 by omega), if_neg (show ¬ 612 < 6 by omega), if_neg (show ¬ 612 < 7 by omega), if_neg (show ¬ 612 < 8 by omega), if_neg (show ¬ 612 < 9 by omega), if_neg (show ¬ 612 < 10 by omega), if_neg (show ¬ 612 < 20 by omega), if_neg (show ¬ 612 < 30 by omega), if_neg (show ¬ 612 < 40 by omega), if_neg (show ¬ 612 < 50 by omega), if_neg (show ¬ 612 < 60 by omega), if_neg (show ¬ 612 < 70 by omega), if_neg (show ¬ 612 < 100 by omega), if_neg (show ¬ 612 < 110 by omega), if_neg (show ¬ 612 < 120 by omega), if_neg (show ¬ 612 < 130 by omega), if_neg (show ¬ 612 < 160 by omega), if_neg (show ¬ 612 < 200 by omega), if_neg (show ¬ 612 < 220 by omega), if_neg (show ¬ 612 < 240 by omega), if_neg (show ¬ 612 < 260 by omega), if_neg (show ¬ 612 < 280 by omega), if_neg (show ¬ 612 < 350 by omega), if_neg (show ¬ 612 < 420 by omega), if_neg (show ¬ 612 < 490 by omega), if_neg (show ¬ 612 < 600 by omega), if_neg (show ¬ 612 < 601 by omega), if_neg (show ¬ 612 < 603 by omega), if_neg (show ¬ 612 < 604 by omega), if_neg (show ¬ 612 < 605 by omega), if_neg (show ¬ 612 < 606 by omega), if_neg (show ¬ 612 < 607 by omega), if_neg (show ¬ 612 < 609 by omega), if_neg (show ¬ 612 < 610 by omega), if_neg (show ¬ 612 < 611 by omega), if_neg (show ¬ 612 < 612 by omega), if_pos (show 612 < 613 by omega)]⟩
theorem F_Mpromised (G : GT) (hG : GOK G)  : IA G (613) (72) := by
  have h7 := hG.1
  have ho : okc (gn G) (613) := (Or.inr (Or.inr (Or.inr (Or.inr (Or.inr (Or.inr (Or.inr (Or.inr (Or.inr (Or.inr (Or.inr (Or.inr (Or.inr (Or.inr (Or.inr (Or.inr (Or.inr (Or.inr (Or.inr (Or.inr (Or.inr (Or.inr (Or.inr (Or.inr (Or.inr (Or.inr (Or.inr (Or.inr (Or.inr (Or.inr (Or.inr (Or.inr (Or.inr (Or.inr (Or.inr (Or.inr (Or.inr (Or.inr (Or.inr (Or.inr (Or.inr (Or.inl (by omega)))))))))))))))))))))))))))))))))))))))))))
  have hm : 613 ∈ Cs G := mem_Cs (by omega) ho (hG.2.2 _ ho (by omega) (by omega))
  exact ⟨hm, by decide, fun r => by
    unfold ec
    rw [if_neg (show ¬ 613 < 1 by omega), if_neg (show ¬ 613 < 2 by omega), if_neg (show ¬ 613 < 3 by omega), if_neg (show ¬ 613 < 4 by omega), if_neg (show ¬ 613 < 5 by omega), if_neg (show ¬ 613 < 6 by omega), if_neg (show ¬ 613 < 7 by omega), if_neg (show ¬ 613 < 8 by omega), if_neg (show ¬ 613 < 9 by omega), if_neg (show ¬ 613 < 10 by omega), if_neg (show ¬ 613 < 20 by omega), if_neg (show ¬ 613 < 30 by omega), if_neg (show ¬ 613 < 40 by omega), if_neg (show ¬ 613 < 50 by omega), if_neg (show ¬ 613 < 60 by omega), if_neg (show ¬ 613 < 70 by omega), if_neg (show ¬ 613 < 100 by omega), if_neg (show ¬ 613 < 110 by omega), if_neg (show ¬ 613 < 120 by omega), if_neg (show ¬ 613 < 130 by omega), if_neg (show ¬ 613 < 160 by omega), if_neg (show ¬ 613 < 200 by omega), if_neg (show ¬ 613 < 220 by omega), if_neg (show ¬ 613 < 240 by omega), if_neg (show ¬ 613 < 260 by omega), if_neg (show ¬ 613 < 280 by omega), if_neg (show ¬ 613 < 350 by omega), if_neg (show ¬ 613 < 420 by omega), if_neg (show ¬ 613 < 490 by omega), if_neg (show ¬ 613 < 600 by omega), if_neg (show ¬ 613 < 601 by omega), if_neg (show ¬ 613 < 603 by omega), if_neg (show ¬ 613 < 604 by omega), if_neg (show ¬ 613 < 605 by omega), if_neg (show ¬ 613 < 606 by omega), if_neg (show ¬ 613 < 607 by omega), if_neg (show ¬ 613 < 609 by omega), if_neg (show ¬ 613 < 610 by omega), if_neg (show ¬ 613 < 611 by omega), if_neg (show ¬ 613 < 612 by omega), if_neg (show ¬ 613 < 613 by omega), if_pos (show 613 < 614 by omega)]⟩
theorem F_MtakenBallot (G : GT) (hG : GOK G)  : IA G (614) (72) := by
  have h7 := hG.1
  have ho : okc (gn G) (614) := (Or.inr (Or.inr (Or.inr (Or.inr (Or.inr (Or.inr (Or.inr (Or.inr (Or.inr (Or.inr (Or.inr (Or.inr (Or.inr (Or.inr (Or.inr (Or.inr (Or.inr (Or.inr (Or.inr (Or.inr (Or.inr (Or.inr (Or.inr (Or.inr (Or.inr (Or.inr (Or.inr (Or.inr (Or.inr (Or.inr (Or.inr (Or.inr (Or.inr (Or.inr (Or.inr (Or.inr (Or.inr (Or.inr (Or.inr (Or.inr (Or.inr (Or.inr (Or.inl (by omega))))))))))))))))))))))))))))))))))))))))))))
  have hm : 614 ∈ Cs G := mem_Cs (by omega) ho (hG.2.2 _ ho (by omega) (by omega))
  exact ⟨hm, by decide, fun r => by
    unfold ec
    rw [if_neg (show ¬ 614 < 1 by omega), if_neg (show ¬ 614 < 2 by omega), if_neg (show ¬ 614 < 3 by omega), if_neg (show ¬ 614 < 4 by omega), if_neg (show ¬ 614 < 5 by omega), if_neg (show ¬ 614 < 6 by omega), if_neg (show ¬ 614 < 7 by omega), if_neg (show ¬ 614 < 8 by omega), if_neg (show ¬ 614 < 9 by omega), if_neg (show ¬ 614 < 10 by omega), if_neg (show ¬ 614 < 20 by omega), if_neg (show ¬ 614 < 30 by omega), if_neg (show ¬ 614 < 40 by omega), if_neg (show ¬ 614 < 50 by omega), if_neg (show ¬ 614 < 60 by omega), if_neg (show ¬ 614 < 70 by omega), if_neg (show ¬ 614 < 100 by omega), if_neg (show ¬ 614 < 110 by omega), if_neg (show ¬ 614 < 120 by omega), if_neg (show ¬ 614 < 130 by omega), if_neg (show ¬ 614 < 160 by omega), if_neg (show ¬ 614 < 200 by omega), if_neg (show ¬ 614 < 220 by omega), if_neg (show ¬ 614 < 240 by omega), if_neg (show ¬ 614 < 260 by omega), if_neg (show ¬ 614 < 280 by omega), if_neg (show ¬ 614 < 350 by omega), if_neg (show ¬ 614 < 420 by omega), if_neg (show ¬ 614 < 490 by omega), if_neg (show ¬ 614 < 600 by omega), if_neg (show ¬ 614 < 601 by omega), if_neg (show ¬ 614 < 603 by omega), if_neg (show ¬ 614 < 604 by omega), if_neg (show ¬ 614 < 605 by omega), if_neg (show ¬ 614 < 606 by omega), if_neg (show ¬ 614 < 607 by omega), if_neg (show ¬ 614 < 609 by omega), if_neg (show ¬ 614 < 610 by omega), if_neg (show ¬ 614 < 611 by omega), if_neg (show ¬ 614 < 612 by omega), if_neg (show ¬ 614 < 613 by omega), if_neg (show ¬ 614 < 614 by omega), if_pos (show 614 < 615 by omega)]⟩
theorem F_MtakenVote (G : GT) (hG : GOK G)  : IA G (615) (72) := by
  have h7 := hG.1
  have ho : okc (gn G) (615) := (Or.inr (Or.inr (Or.inr (Or.inr (Or.inr (Or.inr (Or.inr (Or.inr (Or.inr (Or.inr (Or.inr (Or.inr (Or.inr (Or.inr (Or.inr (Or.inr (Or.inr (Or.inr (Or.inr (Or.inr (Or.inr (Or.inr (Or.inr (Or.inr (Or.inr (Or.inr (Or.inr (Or.inr (Or.inr (Or.inr (Or.inr (Or.inr (Or.inr (Or.inr (Or.inr (Or.inr (Or.inr (Or.inr (Or.inr (Or.inr (Or.inr (Or.inr (Or.inr (Or.inl (by omega)))))))))))))))))))))))))))))))))))))))))))))
  have hm : 615 ∈ Cs G := mem_Cs (by omega) ho (hG.2.2 _ ho (by omega) (by omega))
  exact ⟨hm, by decide, fun r => by
    unfold ec
    rw [if_neg (show ¬ 615 < 1 by omega), if_neg (show ¬ 615 < 2 by omega), if_neg (show ¬ 615 < 3 by omega), if_neg (show ¬ 615 < 4 by omega), if_neg (show ¬ 615 < 5 by omega), if_neg (show ¬ 615 < 6 by omega), if_neg (show ¬ 615 < 7 by omega), if_neg (show ¬ 615 < 8 by omega), if_neg (show ¬ 615 < 9 by omega), if_neg (show ¬ 615 < 10 by omega), if_neg (show ¬ 615 < 20 by omega), if_neg (show ¬ 615 < 30 by omega), if_neg (show ¬ 615 < 40 by omega), if_neg (show ¬ 615 < 50 by omega), if_neg (show ¬ 615 < 60 by omega), if_neg (show ¬ 615 < 70 by omega), if_neg (show ¬ 615 < 100 by omega), if_neg (show ¬ 615 < 110 by omega), if_neg (show ¬ 615 < 120 by omega), if_neg (show ¬ 615 < 130 by omega), if_neg (show ¬ 615 < 160 by omega), if_neg (show ¬ 615 < 200 by omega), if_neg (show ¬ 615 < 220 by omega), if_neg (show ¬ 615 < 240 by omega), if_neg (show ¬ 615 < 260 by omega), if_neg (show ¬ 615 < 280 by omega), if_neg (show ¬ 615 < 350 by omega), if_neg (show ¬ 615 < 420 by omega), if_neg (show ¬ 615 < 490 by omega), if_neg (show ¬ 615 < 600 by omega), if_neg (show ¬ 615 < 601 by omega), if_neg (show ¬ 615 < 603 by omega), if_neg (show ¬ 615 < 604 by omega), if_neg (show ¬ 615 < 605 by omega), if_neg (show ¬ 615 < 606 by omega), if_neg (show ¬ 615 < 607 by omega), if_neg (show ¬ 615 < 609 by omega), if_neg (show ¬ 615 < 610 by omega), if_neg (show ¬ 615 < 611 by omega), if_neg (show ¬ 615 < 612 by omega), if_neg (show ¬ 615 < 613 by omega), if_neg (show ¬ 615 < 614 by omega), if_neg (show ¬ 615 < 615 by omega), if_pos (show 615 < 616 by omega)]⟩
theorem F_Mballot (G : GT) (hG : GOK G)  : IA G (616) (16) := by
  have h7 := hG.1
  have ho : okc (gn G) (616) := (Or.inr (Or.inr (Or.inr (Or.inr (Or.inr (Or.inr (Or.inr (Or.inr (Or.inr (Or.inr (Or.inr (Or.inr (Or.inr (Or.inr (Or.inr (Or.inr (Or.inr (Or.inr (Or.inr (Or.inr (Or.inr (Or.inr (Or.inr (Or.inr (Or.inr (Or.inr (Or.inr (Or.inr (Or.inr (Or.inr (Or.inr (Or.inr (Or.inr (Or.inr (Or.inr (Or.inr (Or.inr (Or.inr (Or.inr (Or.inr (Or.inr (Or.inr (Or.inr (Or.inr (Or.inl (by omega))))))))))))))))))))))))))))))))))))))))))))))
  have hm : 616 ∈ Cs G := mem_Cs (by omega) ho (hG.2.2 _ ho (by omega) (by omega))
  exact ⟨hm, by decide, fun r => by
    unfold ec
    rw [if_neg (show ¬ 616 < 1 by omega), if_neg (show ¬ 616 < 2 by omega), if_neg (show ¬ 616 < 3 by omega), if_neg (show ¬ 616 < 4 by omega), if_neg (show ¬ 616 < 5 by omega), if_neg (show ¬ 616 < 6 by omega), if_neg (show ¬ 616 < 7 by omega), if_neg (show ¬ 616 < 8 by omega), if_neg (show ¬ 616 < 9 by omega), if_neg (show ¬ 616 < 10 by omega), if_neg (show ¬ 616 < 20 by omega), if_neg (show ¬ 616 < 30 by omega), if_neg (show ¬ 616 < 40 by omega), if_neg (show ¬ 616 < 50 by omega), if_neg (show ¬ 616 < 60 by omega), if_neg (show ¬ 616 < 70 by omega), if_neg (show ¬ 616 < 100 by omega), if_neg (show ¬ 616 < 110 by omega), if_neg (show ¬ 616 < 120 by omega), if_neg (show ¬ 616 < 130 by omega), if_neg (show ¬ 616 < 160 by omega), if_neg (show ¬ 616 < 200 by omega), if_neg (show ¬ 616 < 220 by omega), if_neg (show ¬ 616 < 240 by omega), if_neg (show ¬ 616 < 260 by omega), if_neg (show ¬ 616 < 280 by omega), if_neg (show ¬ 616 < 350 by omega), if_neg (show ¬ 616 < 420 by omega), if_neg (show ¬ 616 < 490 by omega), if_neg (show ¬ 616 < 600 by omega), if_neg (show ¬ 616 < 601 by omega), if_neg (show ¬ 616 < 603 by omega), if_neg (show ¬ 616 < 604 by omega), if_neg (show ¬ 616 < 605 by omega), if_neg (show ¬ 616 < 606 by omega), if_neg (show ¬ 616 < 607 by omega), if_neg (show ¬ 616 < 609 by omega), if_neg (show ¬ 616 < 610 by omega), if_neg (show ¬ 616 < 611 by omega), if_neg (show ¬ 616 < 612 by omega), if_neg (show ¬ 616 < 613 by omega), if_neg (show ¬ 616 < 614 by omega), if_neg (show ¬ 616 < 615 by omega), if_neg (show ¬ 616 < 616 by omega), if_pos (show 616 < 617 by omega)]⟩
theorem F_Mproposed (G : GT) (hG : GOK G)  : ZA G (617) (16) := by
  have h7 := hG.1
  have ho : okc (gn G) (617) := (Or.inr (Or.inr (Or.inr (Or.inr (Or.inr (Or.inr (Or.inr (Or.inr (Or.inr (Or.inr (Or.inr (Or.inr (Or.inr (Or.inr (Or.inr (Or.inr (Or.inr (Or.inr (Or.inr (Or.inr (Or.inr (Or.inr (Or.inr (Or.inr (Or.inr (Or.inr (Or.inr (Or.inr (Or.inr (Or.inr (Or.inr (Or.inr (Or.inr (Or.inr (Or.inr (Or.inr (Or.inr (Or.inr (Or.inr (Or.inr (Or.inr (Or.inr (Or.inr (Or.inr (Or.inr (Or.inl (by omega)))))))))))))))))))))))))))))))))))))))))))))))
  have hm : 617 ∈ Cs G := mem_Cs (by omega) ho (hG.2.2 _ ho (by omega) (by omega))
  exact ⟨hm, by decide, fun r => by
    unfold ec
    rw [if_neg (show ¬ 617 < 1 by omega), if_neg (show ¬ 617 < 2 by omega), if_neg (show ¬ 617 < 3 by omega), if_neg (show ¬ 617 < 4 by omega), if_neg (show ¬ 617 < 5 by omega), if_neg (show ¬ 617 < 6 by omega), if_neg (show ¬ 617 < 7 by omega), if_neg (show ¬ 617 < 8 by omega), if_neg (show ¬ 617 < 9 by omega), if_neg (show ¬ 617 < 10 by omega), if_neg (show ¬ 617 < 20 by omega), if_neg (show ¬ 617 < 30 by omega), if_neg (show ¬ 617 < 40 by omega), if_neg (show ¬ 617 < 50 by omega), if_neg (show ¬ 617 < 60 by omega), if_neg (show ¬ 617 < 70 by omega), if_neg (show ¬ 617 < 100 by omega), if_neg (show ¬ 617 < 110 by omega), if_neg (show ¬ 617 < 120 by omega), if_neg (show ¬ 617 < 130 by omega), if_neg (show ¬ 617 < 160 by omega), if_neg (show ¬ 617 < 200 by omega), if_neg (show ¬ 617 < 220 by omega), if_neg (show ¬ 617 < 240 by omega), if_neg (show ¬ 617 < 260 by omega), if_neg (show ¬ 617 < 280 by omega), if_neg (show ¬ 617 < 350 by omega), if_neg (show ¬ 617 < 420 by omega), if_neg (show ¬ 617 < 490 by omega), if_neg (show ¬ 617 < 600 by omega), if_neg (show ¬ 617 < 601 by omega), if_neg (show ¬ 617 < 603 by omega), if_neg (show ¬ 617 < 604 by omega), if_neg (show ¬ 617 < 605 by omega), if_neg (show ¬ 617 < 606 by omega), if_neg (show ¬ 617 < 607 by omega), if_neg (show ¬ 617 < 609 by omega), if_neg (show ¬ 617 < 610 by omega), if_neg (show ¬ 617 < 611 by omega), if_neg (show ¬ 617 < 612 by omega), if_neg (show ¬ 617 < 613 by omega), if_neg (show ¬ 617 < 614 by omega), if_neg (show ¬ 617 < 615 by omega), if_neg (show ¬ 617 < 616 by omega), if_neg (show ¬ 617 < 617 by omega), if_pos (show 617 < 618 by omega)]⟩
theorem F_Mknown (G : GT) (hG : GOK G)  : IA G (618) (16) := by
  have h7 := hG.1
  have ho : okc (gn G) (618) := (Or.inr (Or.inr (Or.inr (Or.inr (Or.inr (Or.inr (Or.inr (Or.inr (Or.inr (Or.inr (Or.inr (Or.inr (Or.inr (Or.inr (Or.inr (Or.inr (Or.inr (Or.inr (Or.inr (Or.inr (Or.inr (Or.inr (Or.inr (Or.inr (Or.inr (Or.inr (Or.inr (Or.inr (Or.inr (Or.inr (Or.inr (Or.inr (Or.inr (Or.inr (Or.inr (Or.inr (Or.inr (Or.inr (Or.inr (Or.inr (Or.inr (Or.inr (Or.inr (Or.inr (Or.inr (Or.inr (Or.inl (by omega))))))))))))))))))))))))))))))))))))))))))))))))
  have hm : 618 ∈ Cs G := mem_Cs (by omega) ho (hG.2.2 _ ho (by omega) (by omega))
  exact ⟨hm, by decide, fun r => by
    unfold ec
    rw [if_neg (show ¬ 618 < 1 by omega), if_neg (show ¬ 618 < 2 by omega), if_neg (show ¬ 618 < 3 by omega), if_neg (show ¬ 618 < 4 by omega), if_neg (show ¬ 618 < 5 by omega), if_neg (show ¬ 618 < 6 by omega), if_neg (show ¬ 618 < 7 by omega), if_neg (show ¬ 618 < 8 by omega), if_neg (show ¬ 618 < 9 by omega), if_neg (show ¬ 618 < 10 by omega), if_neg (show ¬ 618 < 20 by omega), if_neg (show ¬ 618 < 30 by omega), if_neg (show ¬ 618 < 40 by omega), if_neg (show ¬ 618 < 50 by omega), if_neg (show ¬ 618 < 60 by omega), if_neg (show ¬ 618 < 70 by omega), if_neg (show ¬ 618 < 100 by omega), if_neg (show ¬ 618 < 110 by omega), if_neg (show ¬ 618 < 120 by omega), if_neg (show ¬ 618 < 130 by omega), if_neg (show ¬ 618 < 160 by omega), if_neg (show ¬ 618 < 200 by omega), if_neg (show ¬ 618 < 220 by omega), if_neg (show ¬ 618 < 240 by omega), if_neg (show ¬ 618 < 260 by omega), if_neg (show ¬ 618 < 280 by omega), if_neg (show ¬ 618 < 350 by omega), if_neg (show ¬ 618 < 420 by omega), if_neg (show ¬ 618 < 490 by omega), if_neg (show ¬ 618 < 600 by omega), if_neg (show ¬ 618 < 601 by omega), if_neg (show ¬ 618 < 603 by omega), if_neg (show ¬ 618 < 604 by omega), if_neg (show ¬ 618 < 605 by omega), if_neg (show ¬ 618 < 606 by omega), if_neg (show ¬ 618 < 607 by omega), if_neg (show ¬ 618 < 609 by omega), if_neg (show ¬ 618 < 610 by omega), if_neg (show ¬ 618 < 611 by omega), if_neg (show ¬ 618 < 612 by omega), if_neg (show ¬ 618 < 613 by omega), if_neg (show ¬ 618 < 614 by omega), if_neg (show ¬ 618 < 615 by omega), if_neg (show ¬ 618 < 616 by omega), if_neg (show ¬ 618 < 617 by omega), if_neg (show ¬ 618 < 618 by omega), if_pos (show 618 < 619 by omega)]⟩
theorem F_Mreplied (G : GT) (hG : GOK G)  : ZA G (619) (48) := by
  have h7 := hG.1
  have ho : okc (gn G) (619) := (Or.inr (Or.inr (Or.inr (Or.inr (Or.inr (Or.inr (Or.inr (Or.inr (Or.inr (Or.inr (Or.inr (Or.inr (Or.inr (Or.inr (Or.inr (Or.inr (Or.inr (Or.inr (Or.inr (Or.inr (Or.inr (Or.inr (Or.inr (Or.inr (Or.inr (Or.inr (Or.inr (Or.inr (Or.inr (Or.inr (Or.inr (Or.inr (Or.inr (Or.inr (Or.inr (Or.inr (Or.inr (Or.inr (Or.inr (Or.inr (Or.inr (Or.inr (Or.inr (Or.inr (Or.inr (Or.inr (Or.inr (Or.inl (by omega)))))))))))))))))))))))))))))))))))))))))))))))))
  have hm : 619 ∈ Cs G := mem_Cs (by omega) ho (hG.2.2 _ ho (by omega) (by omega))
  exact ⟨hm, by decide, fun r => by
    unfold ec
    rw [if_neg (show ¬ 619 < 1 by omega), if_neg (show ¬ 619 < 2 by omega), if_neg (show ¬ 619 < 3 by omega), if_neg (show ¬ 619 < 4 by omega), if_neg (show ¬ 619 < 5 by omega), if_neg (show ¬ 619 < 6 by omega), if_neg (show ¬ 619 < 7 by omega), if_neg (show ¬ 619 < 8 by omega), if_neg (show ¬ 619 < 9 by omega), if_neg (show ¬ 619 < 10 by omega), if_neg (show ¬ 619 < 20 by omega), if_neg (show ¬ 619 < 30 by omega), if_neg (show ¬ 619 < 40 by omega), if_neg (show ¬ 619 < 50 by omega), if_neg (show ¬ 619 < 60 by omega), if_neg (show ¬ 619 < 70 by omega), if_neg (show ¬ 619 < 100 by omega), if_neg (show ¬ 619 < 110 by omega), if_neg (show ¬ 619 < 120 by omega), if_neg (show ¬ 619 < 130 by omega), if_neg (show ¬ 619 < 160 by omega), if_neg (show ¬ 619 < 200 by omega), if_neg (show ¬ 619 < 220 by omega), if_neg (show ¬ 619 < 240 by omega), if_neg (show ¬ 619 < 260 by omega), if_neg (show ¬ 619 < 280 by omega), if_neg (show ¬ 619 < 350 by omega), if_neg (show ¬ 619 < 420 by omega), if_neg (show ¬ 619 < 490 by omega), if_neg (show ¬ 619 < 600 by omega), if_neg (show ¬ 619 < 601 by omega), if_neg (show ¬ 619 < 603 by omega), if_neg (show ¬ 619 < 604 by omega), if_neg (show ¬ 619 < 605 by omega), if_neg (show ¬ 619 < 606 by omega), if_neg (show ¬ 619 < 607 by omega), if_neg (show ¬ 619 < 609 by omega), if_neg (show ¬ 619 < 610 by omega), if_neg (show ¬ 619 < 611 by omega), if_neg (show ¬ 619 < 612 by omega), if_neg (show ¬ 619 < 613 by omega), if_neg (show ¬ 619 < 614 by omega), if_neg (show ¬ 619 < 615 by omega), if_neg (show ¬ 619 < 616 by omega), if_neg (show ¬ 619 < 617 by omega), if_neg (show ¬ 619 < 618 by omega), if_neg (show ¬ 619 < 619 by omega), if_pos (show 619 < 620 by omega)]⟩
theorem F_MreplyBallot (G : GT) (hG : GOK G)  : IA G (620) (144) := by
  have h7 := hG.1
  have ho : okc (gn G) (620) := (Or.inr (Or.inr (Or.inr (Or.inr (Or.inr (Or.inr (Or.inr (Or.inr (Or.inr (Or.inr (Or.inr (Or.inr (Or.inr (Or.inr (Or.inr (Or.inr (Or.inr (Or.inr (Or.inr (Or.inr (Or.inr (Or.inr (Or.inr (Or.inr (Or.inr (Or.inr (Or.inr (Or.inr (Or.inr (Or.inr (Or.inr (Or.inr (Or.inr (Or.inr (Or.inr (Or.inr (Or.inr (Or.inr (Or.inr (Or.inr (Or.inr (Or.inr (Or.inr (Or.inr (Or.inr (Or.inr (Or.inr (Or.inr (Or.inl (by omega))))))))))))))))))))))))))))))))))))))))))))))))))
  have hm : 620 ∈ Cs G := mem_Cs (by omega) ho (hG.2.2 _ ho (by omega) (by omega))
  exact ⟨hm, by decide, fun r => by
    unfold ec
    rw [if_neg (show ¬ 620 < 1 by omega), if_neg (show ¬ 620 < 2 by omega), if_neg (show ¬ 620 < 3 by omega), if_neg (show ¬ 620 < 4 by omega), if_neg (show ¬ 620 < 5 by omega), if_neg (show ¬ 620 < 6 by omega), if_neg (show ¬ 620 < 7 by omega), if_neg (show ¬ 620 < 8 by omega), if_neg (show ¬ 620 < 9 by omega), if_neg (show ¬ 620 < 10 by omega), if_neg (show ¬ 620 < 20 by omega), if_neg (show ¬ 620 < 30 by omega), if_neg (show ¬ 620 < 40 by omega), if_neg (show ¬ 620 < 50 by omega), if_neg (show ¬ 620 < 60 by omega), if_neg (show ¬ 620 < 70 by omega), if_neg (show ¬ 620 < 100 by omega), if_neg (show ¬ 620 < 110 by omega), if_neg (show ¬ 620 < 120 by omega), if_neg (show ¬ 620 < 130 by omega), if_neg (show ¬ 620 < 160 by omega), if_neg (show ¬ 620 < 200 by omega), if_neg (show ¬ 620 < 220 by omega), if_neg (show ¬ 620 < 240 by omega), if_neg (show ¬ 620 < 260 by omega), if_neg (show ¬ 620 < 280 by omega), if_neg (show ¬ 620 < 350 by omega), if_neg (show ¬ 620 < 420 by omega), if_neg (show ¬ 620 < 490 by omega), if_neg (show ¬ 620 < 600 by omega), if_neg (show ¬ 620 < 601 by omega), if_neg (show ¬ 620 < 603 by omega), if_neg (show ¬ 620 < 604 by omega), if_neg (show ¬ 620 < 605 by omega), if_neg (show ¬ 620 < 606 by omega), if_neg (show ¬ 620 < 607 by omega), if_neg (show ¬ 620 < 609 by omega), if_neg (show ¬ 620 < 610 by omega), if_neg (show ¬ 620 < 611 by omega), if_neg (show ¬ 620 < 612 by omega), if_neg (show ¬ 620 < 613 by omega), if_neg (show ¬ 620 < 614 by omega), if_neg (show ¬ 620 < 615 by omega), if_neg (show ¬ 620 < 616 by omega), if_neg (show ¬ 620 < 617 by omega), if_neg (show ¬ 620 < 618 by omega), if_neg (show ¬ 620 < 619 by omega), if_neg (show ¬ 620 < 620 by omega), if_pos (show 620 < 621 by omega)]⟩
theorem F_MreplyVote (G : GT) (hG : GOK G)  : IA G (621) (144) := by
  have h7 := hG.1
  have ho : okc (gn G) (621) := (Or.inr (Or.inr (Or.inr (Or.inr (Or.inr (Or.inr (Or.inr (Or.inr (Or.inr (Or.inr (Or.inr (Or.inr (Or.inr (Or.inr (Or.inr (Or.inr (Or.inr (Or.inr (Or.inr (Or.inr (Or.inr (Or.inr (Or.inr (Or.inr (Or.inr (Or.inr (Or.inr (Or.inr (Or.inr (Or.inr (Or.inr (Or.inr (Or.inr (Or.inr (Or.inr (Or.inr (Or.inr (Or.inr (Or.inr (Or.inr (Or.inr (Or.inr (Or.inr (Or.inr (Or.inr (Or.inr (Or.inr (Or.inr (Or.inr (Or.inl (by omega)))))))))))))))))))))))))))))))))))))))))))))))))))
  have hm : 621 ∈ Cs G := mem_Cs (by omega) ho (hG.2.2 _ ho (by omega) (by omega))
  exact ⟨hm, by decide, fun r => by
    unfold ec
    rw [if_neg (show ¬ 621 < 1 by omega), if_neg (show ¬ 621 < 2 by omega), if_neg (show ¬ 621 < 3 by omega), if_neg (show ¬ 621 < 4 by omega), if_neg (show ¬ 621 < 5 by omega), if_neg (show ¬ 621 < 6 by omega), if_neg (show ¬ 621 < 7 by omega), if_neg (show ¬ 621 < 8 by omega), if_neg (show ¬ 621 < 9 by omega), if_neg (show ¬ 621 < 10 by omega), if_neg (show ¬ 621 < 20 by omega), if_neg (show ¬ 621 < 30 by omega), if_neg (show ¬ 621 < 40 by omega), if_neg (show ¬ 621 < 50 by omega), if_neg (show ¬ 621 < 60 by omega), if_neg (show ¬ 621 < 70 by omega), if_neg (show ¬ 621 < 100 by omega), if_neg (show ¬ 621 < 110 by omega), if_neg (show ¬ 621 < 120 by omega), if_neg (show ¬ 621 < 130 by omega), if_neg (show ¬ 621 < 160 by omega), if_neg (show ¬ 621 < 200 by omega), if_neg (show ¬ 621 < 220 by omega), if_neg (show ¬ 621 < 240 by omega), if_neg (show ¬ 621 < 260 by omega), if_neg (show ¬ 621 < 280 by omega), if_neg (show ¬ 621 < 350 by omega), if_neg (show ¬ 621 < 420 by omega), if_neg (show ¬ 621 < 490 by omega), if_neg (show ¬ 621 < 600 by omega), if_neg (show ¬ 621 < 601 by omega), if_neg (show ¬ 621 < 603 by omega), if_neg (show ¬ 621 < 604 by omega), if_neg (show ¬ 621 < 605 by omega), if_neg (show ¬ 621 < 606 by omega), if_neg (show ¬ 621 < 607 by omega), if_neg (show ¬ 621 < 609 by omega), if_neg (show ¬ 621 < 610 by omega), if_neg (show ¬ 621 < 611 by omega), if_neg (show ¬ 621 < 612 by omega), if_neg (show ¬ 621 < 613 by omega), if_neg (show ¬ 621 < 614 by omega), if_neg (show ¬ 621 < 615 by omega), if_neg (show ¬ 621 < 616 by omega), if_neg (show ¬ 621 < 617 by omega), if_neg (show ¬ 621 < 618 by omega), if_neg (show ¬ 621 < 619 by omega), if_neg (show ¬ 621 < 620 by omega), if_neg (show ¬ 621 < 621 by omega), if_pos (show 621 < 622 by omega)]⟩
theorem F_MlatestBallot (G : GT) (hG : GOK G)  : IA G (622) (144) := by
  have h7 := hG.1
  have ho : okc (gn G) (622) := (Or.inr (Or.inr (Or.inr (Or.inr (Or.inr (Or.inr (Or.inr (Or.inr (Or.inr (Or.inr (Or.inr (Or.inr (Or.inr (Or.inr (Or.inr (Or.inr (Or.inr (Or.inr (Or.inr (Or.inr (Or.inr (Or.inr (Or.inr (Or.inr (Or.inr (Or.inr (Or.inr (Or.inr (Or.inr (Or.inr (Or.inr (Or.inr (Or.inr (Or.inr (Or.inr (Or.inr (Or.inr (Or.inr (Or.inr (Or.inr (Or.inr (Or.inr (Or.inr (Or.inr (Or.inr (Or.inr (Or.inr (Or.inr (Or.inr (Or.inr (Or.inl (by omega))))))))))))))))))))))))))))))))))))))))))))))))))))
  have hm : 622 ∈ Cs G := mem_Cs (by omega) ho (hG.2.2 _ ho (by omega) (by omega))
  exact ⟨hm, by decide, fun r => by
    unfold ec
    rw [if_neg (show ¬ 622 < 1 by omega), if_neg (show ¬ 622 < 2 by omega), if_neg (show ¬ 622 < 3 by omega), if_neg (show ¬ 622 < 4 by omega), if_neg (show ¬ 622 < 5 by omega), if_neg (show ¬ 622 < 6 by omega), if_neg (show ¬ 622 < 7 by omega), if_neg (show ¬ 622 < 8 by omega), if_neg (show ¬ 622 < 9 by omega), if_neg (show ¬ 622 < 10 by omega), if_neg (show ¬ 622 < 20 by omega), if_neg (show ¬ 622 < 30 by omega), if_neg (show ¬ 622 < 40 by omega), if_neg (show ¬ 622 < 50 by omega), if_neg (show ¬ 622 < 60 by omega), if_neg (show ¬ 622 < 70 by omega), if_neg (show ¬ 622 < 100 by omega), if_neg (show ¬ 622 < 110 by omega), if_neg (show ¬ 622 < 120 by omega), if_neg (show ¬ 622 < 130 by omega), if_neg (show ¬ 622 < 160 by omega), if_neg (show ¬ 622 < 200 by omega), if_neg (show ¬ 622 < 220 by omega), if_neg (show ¬ 622 < 240 by omega), if_neg (show ¬ 622 < 260 by omega), if_neg (show ¬ 622 < 280 by omega), if_neg (show ¬ 622 < 350 by omega), if_neg (show ¬ 622 < 420 by omega), if_neg (show ¬ 622 < 490 by omega), if_neg (show ¬ 622 < 600 by omega), if_neg (show ¬ 622 < 601 by omega), if_neg (show ¬ 622 < 603 by omega), if_neg (show ¬ 622 < 604 by omega), if_neg (show ¬ 622 < 605 by omega), if_neg (show ¬ 622 < 606 by omega), if_neg (show ¬ 622 < 607 by omega), if_neg (show ¬ 622 < 609 by omega), if_neg (show ¬ 622 < 610 by omega), if_neg (show ¬ 622 < 611 by omega), if_neg (show ¬ 622 < 612 by omega), if_neg (show ¬ 622 < 613 by omega), if_neg (show ¬ 622 < 614 by omega), if_neg (show ¬ 622 < 615 by omega), if_neg (show ¬ 622 < 616 by omega), if_neg (show ¬ 622 < 617 by omega), if_neg (show ¬ 622 < 618 by omega), if_neg (show ¬ 622 < 619 by omega), if_neg (show ¬ 622 < 620 by omega), if_neg (show ¬ 622 < 621 by omega), if_neg (show ¬ 622 < 622 by omega), if_pos (show 622 < 623 by omega)]⟩
theorem F_MlatestVote (G : GT) (hG : GOK G)  : IA G (623) (144) := by
  have h7 := hG.1
  have ho : okc (gn G) (623) := (Or.inr (Or.inr (Or.inr (Or.inr (Or.inr (Or.inr (Or.inr (Or.inr (Or.inr (Or.inr (Or.inr (Or.inr (Or.inr (Or.inr (Or.inr (Or.inr (Or.inr (Or.inr (Or.inr (Or.inr (Or.inr (Or.inr (Or.inr (Or.inr (Or.inr (Or.inr (Or.inr (Or.inr (Or.inr (Or.inr (Or.inr (Or.inr (Or.inr (Or.inr (Or.inr (Or.inr (Or.inr (Or.inr (Or.inr (Or.inr (Or.inr (Or.inr (Or.inr (Or.inr (Or.inr (Or.inr (Or.inr (Or.inr (Or.inr (Or.inr (Or.inr (Or.inl (by omega)))))))))))))))))))))))))))))))))))))))))))))))))))))
  have hm : 623 ∈ Cs G := mem_Cs (by omega) ho (hG.2.2 _ ho (by omega) (by omega))
  exact ⟨hm, by decide, fun r => by
    unfold ec
    rw [if_neg (show ¬ 623 < 1 by omega), if_neg (show ¬ 623 < 2 by omega), if_neg (show ¬ 623 < 3 by omega), if_neg (show ¬ 623 < 4 by omega), if_neg (show ¬ 623 < 5 by omega), if_neg (show ¬ 623 < 6 by omega), if_neg (show ¬ 623 < 7 by omega), if_neg (show ¬ 623 < 8 by omega), if_neg (show ¬ 623 < 9 by omega), if_neg (show ¬ 623 < 10 by omega), if_neg (show ¬ 623 < 20 by omega), if_neg (show ¬ 623 < 30 by omega), if_neg (show ¬ 623 < 40 by omega), if_neg (show ¬ 623 < 50 by omega), if_neg (show ¬ 623 < 60 by omega), if_neg (show ¬ 623 < 70 by omega), if_neg (show ¬ 623 < 100 by omega), if_neg (show ¬ 623 < 110 by omega), if_neg (show ¬ 623 < 120 by omega), if_neg (show ¬ 623 < 130 by omega), if_neg (show ¬ 623 < 160 by omega), if_neg (show ¬ 623 < 200 by omega), if_neg (show ¬ 623 < 220 by omega), if_neg (show ¬ 623 < 240 by omega), if_neg (show ¬ 623 < 260 by omega), if_neg (show ¬ 623 < 280 by omega), if_neg (show ¬ 623 < 350 by omega), if_neg (show ¬ 623 < 420 by omega), if_neg (show ¬ 623 < 490 by omega), if_neg (show ¬ 623 < 600 by omega), if_neg (show ¬ 623 < 601 by omega), if_neg (show ¬ 623 < 603 by omega), if_neg (show ¬ 623 < 604 by omega), if_neg (show ¬ 623 < 605 by omega), if_neg (show ¬ 623 < 606 by omega), if_neg (show ¬ 623 < 607 by omega), if_neg (show ¬ 623 < 609 by omega), if_neg (show ¬ 623 < 610 by omega), if_neg (show ¬ 623 < 611 by omega), if_neg (show ¬ 623 < 612 by omega), if_neg (show ¬ 623 < 613 by omega), if_neg (show ¬ 623 < 614 by omega), if_neg (show ¬ 623 < 615 by omega), if_neg (show ¬ 623 < 616 by omega), if_neg (show ¬ 623 < 617 by omega), if_neg (show ¬ 623 < 618 by omega), if_neg (show ¬ 623 < 619 by omega), if_neg (show ¬ 623 < 620 by omega), if_neg (show ¬ 623 < 621 by omega), if_neg (show ¬ 623 < 622 by omega), if_neg (show ¬ 623 < 623 by omega), if_pos (show 623 < 624 by omega)]⟩
theorem F_Mnet (G : GT) (hG : GOK G)  : IA G (624) (793) := by
  have h7 := hG.1
  have ho : okc (gn G) (624) := (Or.inr (Or.inr (Or.inr (Or.inr (Or.inr (Or.inr (Or.inr (Or.inr (Or.inr (Or.inr (Or.inr (Or.inr (Or.inr (Or.inr (Or.inr (Or.inr (Or.inr (Or.inr (Or.inr (Or.inr (Or.inr (Or.inr (Or.inr (Or.inr (Or.inr (Or.inr (Or.inr (Or.inr (Or.inr (Or.inr (Or.inr (Or.inr (Or.inr (Or.inr (Or.inr (Or.inr (Or.inr (Or.inr (Or.inr (Or.inr (Or.inr (Or.inr (Or.inr (Or.inr (Or.inr (Or.inr (Or.inr (Or.inr (Or.inr (Or.inr (Or.inr (Or.inr (by omega)))))))))))))))))))))))))))))))))))))))))))))))))))))
  have hm : 624 ∈ Cs G := mem_Cs (by omega) ho (hG.2.2 _ ho (by omega) (by omega))
  exact ⟨hm, by decide, fun r => by
    unfold ec
    rw [if_neg (show ¬ 624 < 1 by omega), if_neg (show ¬ 624 < 2 by omega), if_neg (show ¬ 624 < 3 by omega), if_neg (show ¬ 624 < 4 by omega), if_neg (show ¬ 624 < 5 by omega), if_neg (show ¬ 624 < 6 by omega), if_neg (show ¬ 624 < 7 by omega), if_neg (show ¬ 624 < 8 by omega), if_neg (show ¬ 624 < 9 by omega), if_neg (show ¬ 624 < 10 by omega), if_neg (show ¬ 624 < 20 by omega), if_neg (show ¬ 624 < 30 by omega), if_neg (show ¬ 624 < 40 by omega), if_neg (show ¬ 624 < 50 by omega), if_neg (show ¬ 624 < 60 by omega), if_neg (show ¬ 624 < 70 by omega), if_neg (show ¬ 624 < 100 by omega), if_neg (show ¬ 624 < 110 by omega), if_neg (show ¬ 624 < 120 by omega), if_neg (show ¬ 624 < 130 by omega), if_neg (show ¬ 624 < 160 by omega), if_neg (show ¬ 624 < 200 by omega), if_neg (show ¬ 624 < 220 by omega), if_neg (show ¬ 624 < 240 by omega), if_neg (show ¬ 624 < 260 by omega), if_neg (show ¬ 624 < 280 by omega), if_neg (show ¬ 624 < 350 by omega), if_neg (show ¬ 624 < 420 by omega), if_neg (show ¬ 624 < 490 by omega), if_neg (show ¬ 624 < 600 by omega), if_neg (show ¬ 624 < 601 by omega), if_neg (show ¬ 624 < 603 by omega), if_neg (show ¬ 624 < 604 by omega), if_neg (show ¬ 624 < 605 by omega), if_neg (show ¬ 624 < 606 by omega), if_neg (show ¬ 624 < 607 by omega), if_neg (show ¬ 624 < 609 by omega), if_neg (show ¬ 624 < 610 by omega), if_neg (show ¬ 624 < 611 by omega), if_neg (show ¬ 624 < 612 by omega), if_neg (show ¬ 624 < 613 by omega), if_neg (show ¬ 624 < 614 by omega), if_neg (show ¬ 624 < 615 by omega), if_neg (show ¬ 624 < 616 by omega), if_neg (show ¬ 624 < 617 by omega), if_neg (show ¬ 624 < 618 by omega), if_neg (show ¬ 624 < 619 by omega), if_neg (show ¬ 624 < 620 by omega), if_neg (show ¬ 624 < 621 by omega), if_neg (show ¬ 624 < 622 by omega), if_neg (show ¬ 624 < 623 by omega), if_neg (show ¬ 624 < 624 by omega), if_pos (show 624 < 625 by omega)]⟩
