/-! What a state IS: every cell has a number; gad says where it lies; d says what it holds (d cell place). -/
abbrev DD : Type := Nat → Nat → Int32
/-- the tables' numbers; the classes of arrays; the addresses; where the world begins; how many acceptors -/
abbrev GT : Type := va_G × (Nat → ClassId) × (Nat → Nat) × Nat × Nat
abbrev gC (G : GT) (k : Nat) : ClassId := G.2.1 k
abbrev gad (G : GT) (c : Nat) : Nat := G.2.2.1 c
abbrev gbase (G : GT) : Nat := G.2.2.2.1
abbrev gn (G : GT) : Nat := G.2.2.2.2
abbrev gAb (G : GT) : Nat → Prop := fun q => gbase G ≤ q
def GOK (G : GT) : Prop := gn G ≤ 3 ∧ 1 ≤ gn G
def up2 (d : DD) (c k : Nat) (v : Int32) : DD := fun c' k' => if c' = c ∧ k' = k then v else d c' k'
abbrev aI (cA : ClassId) (n : Nat) (f : Nat → Int32) : va_E := .inl (cA, n, .inl f)
abbrev aJ (cA : ClassId) (n : Nat) (f : Nat → Int64) : va_E := .inl (cA, n, .inr (.inl f))
abbrev aR (cA : ClassId) (n : Nat) (f : Nat → Option Nat) : va_E := .inl (cA, n, .inr (.inr (.inr (.inr f))))
def f_cp3 (d : DD) (ca cb n : Nat) : DD := fun c k => if c = cb ∧ k < n then d ca k else d c k
def fsPC (G : GT) (r : Nat → Int32) : List Value := [.ref (gad G 1), .ref (gad G 2), .ref (gad G 3), .int (r 3), .ref (gad G 4), .ref (gad G 5), .ref (gad G 6), .ref (gad G 7), .int (r 8)]
def fsNet (G : GT) (r : Nat → Int32) : List Value := [.ref (gad G 8), .int (r 1), .int (r 2), .ref (gad G 480), .ref (gad G 481)]
def ec (G : GT) (c : Nat) (r : Nat → Int32) : va_E :=
  if c < 1 then .inr (iPC, fsPC G r) else
  if c < 2 then aR (gC G 4) 3 (fun j => some (gad G (j + 10))) else
  if c < 3 then aR (gC G 5) (gn G) (fun j => some (gad G (j + 100))) else
  if c < 4 then aR (gC G 6) 16 (fun j => some (gad G (j + 200))) else
  if c < 5 then aI (gC G 0) 3 r else
  if c < 6 then .inr (iNet, fsNet G r) else
  if c < 7 then aI (gC G 0) 8 r else
  if c < 8 then aI (gC G 1) 8 r else
  if c < 9 then aR (gC G 7) 60 (fun j => some (gad G ((r j).toNatClampNeg + 420))) else
  if c < 10 then aJ (gC G 2) 1 (fun j => (r j).toInt64) else
  if c < 20 then .inr (iStore, [.ref (gad G (c + 10)), .ref (gad G (c + 20)), .ref (gad G (c + 30)), .ref (gad G (c + 40)), .ref (gad G (c + 50))]) else
  if c < 30 then aI (gC G 0) 4 r else
  if c < 40 then aI (gC G 0) 4 r else
  if c < 50 then aI (gC G 0) 8 r else
  if c < 60 then aI (gC G 0) 8 r else
  if c < 70 then aR (gC G 3) 8 (fun j => some (gad G (8 * (c - 60) + j + 70))) else
  if c < 100 then aI (gC G 0) 4 r else
  if c < 110 then .inr (iAcc, [.ref (gad G (c + 10)), .ref (gad G (c + 20))]) else
  if c < 120 then aR (gC G 3) 8 (fun j => some (gad G (8 * (c - 110) + j + 130))) else
  if c < 130 then aR (gC G 3) 8 (fun j => some (gad G (8 * (c - 120) + j + 160))) else
  if c < 160 then aI (gC G 0) 3 r else
  if c < 200 then aI (gC G 0) 3 r else
  if c < 220 then .inr (iLed, [.int (r 0), .int (r 1), .int (r 2), .ref (gad G (c + 20)), .ref (gad G (c + 40)), .ref (gad G (c + 60))]) else
  if c < 240 then aI (gC G 1) (gn G) r else
  if c < 260 then aR (gC G 3) (gn G) (fun j => some (gad G (4 * (c - 240) + j + 280))) else
  if c < 280 then aR (gC G 3) (gn G) (fun j => some (gad G (4 * (c - 260) + j + 350))) else
  if c < 350 then aI (gC G 0) 3 r else
  if c < 420 then aI (gC G 0) 3 r else
  if c < 490 then .inr (iMsg, [.int (r 0), .int (r 1), .int (r 2), .int (r 3), .int (r 4), .int (r 5), .int (r 6), .ref (gad G (c + 70))]) else
  if c < 600 then aI (gC G 0) 3 r else
  aI (gC G 0) 0 r
def en (G : GT) (d : DD) (c : Nat) : va_E := ec G c (d c)
def okc (n c : Nat) : Prop := c = 0 ∨ c = 1 ∨ c = 2 ∨ c = 3 ∨ c = 4 ∨ c = 5 ∨ c = 6 ∨ c = 7 ∨ c = 8 ∨ c = 9 ∨ (10 ≤ c ∧ c < 13) ∨ (20 ≤ c ∧ c < 23) ∨ (30 ≤ c ∧ c < 33) ∨ (40 ≤ c ∧ c < 43) ∨ (50 ≤ c ∧ c < 53) ∨ (60 ≤ c ∧ c < 63) ∨ (70 ≤ c ∧ c < 94) ∨ (100 ≤ c ∧ c < 100 + n) ∨ (110 ≤ c ∧ c < 110 + n) ∨ (120 ≤ c ∧ c < 120 + n) ∨ (130 ≤ c ∧ c < 130 + 8 * n) ∨ (160 ≤ c ∧ c < 160 + 8 * n) ∨ (200 ≤ c ∧ c < 216) ∨ (220 ≤ c ∧ c < 236) ∨ (240 ≤ c ∧ c < 256) ∨ (260 ≤ c ∧ c < 276) ∨ (280 ≤ c ∧ c < 344 ∧ (c - 280) % 4 < n) ∨ (350 ≤ c ∧ c < 414 ∧ (c - 350) % 4 < n) ∨ (420 ≤ c ∧ c < 482) ∨ (490 ≤ c ∧ c < 552)
noncomputable def Cs (G : GT) : List Nat := (List.range 900).filter (fun c => @decide (okc (gn G) c) (Classical.propDecidable _))
theorem mem_Cs {G : GT} {c : Nat} (h1 : c < 900) (h2 : okc (gn G) c) : c ∈ Cs G := List.mem_filter.mpr ⟨List.mem_range.mpr h1, @decide_eq_true _ (Classical.propDecidable _) h2⟩
noncomputable def wl (G : GT) (d : DD) : va_W := (Cs G).map (fun c => (gad G c, en G d c))
def tys (G : GT) : List (ClassId × FieldType) := [(gC G 0, .int), (gC G 1, .boolean), (gC G 2, .long), (gC G 3, .array .int), (gC G 4, .object "PaxosCommit$Store"), (gC G 5, .object "PaxosCommit$Acceptor"), (gC G 6, .object "PaxosCommit$Ledger"), (gC G 7, .object "PaxosCommit$Message")]
def WD (G : GT) (H0 : Heap) (d : DD) (H : Heap) (locs : List Loc) : Prop := va_P G.1 gcl (wl G d) H ∧ va_D (gAb G) (wl G d) ∧ va_S (gAb G) H0 H locs
/-- what kind of cell a number is -/
def IA (G : GT) (cn n : Nat) : Prop := cn ∈ Cs G ∧ n < 2 ^ 31 ∧ ∀ r : Nat → Int32, ec G cn r = aI (gC G 0) n r
def ZA (G : GT) (cn n : Nat) : Prop := cn ∈ Cs G ∧ n < 2 ^ 31 ∧ ∀ r : Nat → Int32, ec G cn r = aI (gC G 1) n r
def JA (G : GT) (cn n : Nat) : Prop := cn ∈ Cs G ∧ n < 2 ^ 31 ∧ ∀ r : Nat → Int32, ec G cn r = aJ (gC G 2) n (fun j => (r j).toInt64)
def QA (G : GT) (cn n t0 : Nat) (C : String) (f : (Nat → Int32) → Nat → Nat) : Prop := cn ∈ Cs G ∧ n < 2 ^ 31 ∧ (tys G)[t0]? = some (gC G t0, .object C) ∧ ∀ r : Nat → Int32, ec G cn r = aR (gC G t0) n (fun j => some (gad G (f r j)))
def AA (G : GT) (cn n : Nat) (f : Nat → Nat) : Prop := cn ∈ Cs G ∧ n < 2 ^ 31 ∧ ∀ r : Nat → Int32, ec G cn r = aR (gC G 3) n (fun j => some (gad G (f j)))
def OB (G : GT) (cn ci : Nat) (fs : (Nat → Int32) → List Value) : Prop := cn ∈ Cs G ∧ ∀ r : Nat → Int32, ec G cn r = .inr (ci, fs r)
theorem F_PC (G : GT) (hG : GOK G)  : OB G (0) iPC (fsPC G) := by
  have h7 := hG.1
  have hm : 0 ∈ Cs G := mem_Cs (by omega) (Or.inl (by omega))
  exact ⟨hm, fun r => by
    unfold ec
    rw [if_pos (show 0 < 1 by omega)]⟩
theorem F_Stores (G : GT) (hG : GOK G)  : QA G (1) (3) 4 "PaxosCommit$Store" (fun _ j => j + 10) := by
  have h7 := hG.1
  have hm : 1 ∈ Cs G := mem_Cs (by omega) (Or.inr (Or.inl (by omega)))
  exact ⟨hm, by decide, rfl, fun r => by
    unfold ec
    rw [if_neg (show ¬ 1 < 1 by omega), if_pos (show 1 < 2 by omega)]⟩
theorem F_Accs (G : GT) (hG : GOK G)  : QA G (2) (gn G) 5 "PaxosCommit$Acceptor" (fun _ j => j + 100) := by
  have h7 := hG.1
  have hm : 2 ∈ Cs G := mem_Cs (by omega) (Or.inr (Or.inr (Or.inl (by omega))))
  exact ⟨hm, by omega, rfl, fun r => by
    unfold ec
    rw [if_neg (show ¬ 2 < 1 by omega), if_neg (show ¬ 2 < 2 by omega), if_pos (show 2 < 3 by omega)]⟩
theorem F_Leds (G : GT) (hG : GOK G)  : QA G (3) (16) 6 "PaxosCommit$Ledger" (fun _ j => j + 200) := by
  have h7 := hG.1
  have hm : 3 ∈ Cs G := mem_Cs (by omega) (Or.inr (Or.inr (Or.inr (Or.inl (by omega)))))
  exact ⟨hm, by decide, rfl, fun r => by
    unfold ec
    rw [if_neg (show ¬ 3 < 1 by omega), if_neg (show ¬ 3 < 2 by omega), if_neg (show ¬ 3 < 3 by omega), if_pos (show 3 < 4 by omega)]⟩
theorem F_UpS (G : GT) (hG : GOK G)  : IA G (4) (3) := by
  have h7 := hG.1
  have hm : 4 ∈ Cs G := mem_Cs (by omega) (Or.inr (Or.inr (Or.inr (Or.inr (Or.inl (by omega))))))
  exact ⟨hm, by decide, fun r => by
    unfold ec
    rw [if_neg (show ¬ 4 < 1 by omega), if_neg (show ¬ 4 < 2 by omega), if_neg (show ¬ 4 < 3 by omega), if_neg (show ¬ 4 < 4 by omega), if_pos (show 4 < 5 by omega)]⟩
theorem F_Net (G : GT) (hG : GOK G)  : OB G (5) iNet (fsNet G) := by
  have h7 := hG.1
  have hm : 5 ∈ Cs G := mem_Cs (by omega) (Or.inr (Or.inr (Or.inr (Or.inr (Or.inr (Or.inl (by omega)))))))
  exact ⟨hm, fun r => by
    unfold ec
    rw [if_neg (show ¬ 5 < 1 by omega), if_neg (show ¬ 5 < 2 by omega), if_neg (show ¬ 5 < 3 by omega), if_neg (show ¬ 5 < 4 by omega), if_neg (show ¬ 5 < 5 by omega), if_pos (show 5 < 6 by omega)]⟩
theorem F_Mem (G : GT) (hG : GOK G)  : IA G (6) (8) := by
  have h7 := hG.1
  have hm : 6 ∈ Cs G := mem_Cs (by omega) (Or.inr (Or.inr (Or.inr (Or.inr (Or.inr (Or.inr (Or.inl (by omega))))))))
  exact ⟨hm, by decide, fun r => by
    unfold ec
    rw [if_neg (show ¬ 6 < 1 by omega), if_neg (show ¬ 6 < 2 by omega), if_neg (show ¬ 6 < 3 by omega), if_neg (show ¬ 6 < 4 by omega), if_neg (show ¬ 6 < 5 by omega), if_neg (show ¬ 6 < 6 by omega), if_pos (show 6 < 7 by omega)]⟩
theorem F_Clo (G : GT) (hG : GOK G)  : ZA G (7) (8) := by
  have h7 := hG.1
  have hm : 7 ∈ Cs G := mem_Cs (by omega) (Or.inr (Or.inr (Or.inr (Or.inr (Or.inr (Or.inr (Or.inr (Or.inl (by omega)))))))))
  exact ⟨hm, by decide, fun r => by
    unfold ec
    rw [if_neg (show ¬ 7 < 1 by omega), if_neg (show ¬ 7 < 2 by omega), if_neg (show ¬ 7 < 3 by omega), if_neg (show ¬ 7 < 4 by omega), if_neg (show ¬ 7 < 5 by omega), if_neg (show ¬ 7 < 6 by omega), if_neg (show ¬ 7 < 7 by omega), if_pos (show 7 < 8 by omega)]⟩
theorem F_Row (G : GT) (hG : GOK G)  : QA G (8) (60) 7 "PaxosCommit$Message" (fun r j => (r j).toNatClampNeg + 420) := by
  have h7 := hG.1
  have hm : 8 ∈ Cs G := mem_Cs (by omega) (Or.inr (Or.inr (Or.inr (Or.inr (Or.inr (Or.inr (Or.inr (Or.inr (Or.inl (by omega))))))))))
  exact ⟨hm, by decide, rfl, fun r => by
    unfold ec
    rw [if_neg (show ¬ 8 < 1 by omega), if_neg (show ¬ 8 < 2 by omega), if_neg (show ¬ 8 < 3 by omega), if_neg (show ¬ 8 < 4 by omega), if_neg (show ¬ 8 < 5 by omega), if_neg (show ¬ 8 < 6 by omega), if_neg (show ¬ 8 < 7 by omega), if_neg (show ¬ 8 < 8 by omega), if_pos (show 8 < 9 by omega)]⟩
theorem F_Out (G : GT) (hG : GOK G)  : JA G (9) (1) := by
  have h7 := hG.1
  have hm : 9 ∈ Cs G := mem_Cs (by omega) (Or.inr (Or.inr (Or.inr (Or.inr (Or.inr (Or.inr (Or.inr (Or.inr (Or.inr (Or.inl (by omega)))))))))))
  exact ⟨hm, by decide, fun r => by
    unfold ec
    rw [if_neg (show ¬ 9 < 1 by omega), if_neg (show ¬ 9 < 2 by omega), if_neg (show ¬ 9 < 3 by omega), if_neg (show ¬ 9 < 4 by omega), if_neg (show ¬ 9 < 5 by omega), if_neg (show ¬ 9 < 6 by omega), if_neg (show ¬ 9 < 7 by omega), if_neg (show ¬ 9 < 8 by omega), if_neg (show ¬ 9 < 9 by omega), if_pos (show 9 < 10 by omega)]⟩
theorem F_Store (G : GT) (hG : GOK G) {i0 : Nat} (h0 : i0 < 3) : OB G (i0 + 10) iStore (fun _ => [.ref (gad G (i0 + 20)), .ref (gad G (i0 + 30)), .ref (gad G (i0 + 40)), .ref (gad G (i0 + 50)), .ref (gad G (i0 + 60))]) := by
  have h7 := hG.1
  have hm : i0 + 10 ∈ Cs G := mem_Cs (by omega) (Or.inr (Or.inr (Or.inr (Or.inr (Or.inr (Or.inr (Or.inr (Or.inr (Or.inr (Or.inr (Or.inl (by omega))))))))))))
  exact ⟨hm, fun r => by
    unfold ec
    rw [if_neg (show ¬ i0 + 10 < 1 by omega), if_neg (show ¬ i0 + 10 < 2 by omega), if_neg (show ¬ i0 + 10 < 3 by omega), if_neg (show ¬ i0 + 10 < 4 by omega), if_neg (show ¬ i0 + 10 < 5 by omega), if_neg (show ¬ i0 + 10 < 6 by omega), if_neg (show ¬ i0 + 10 < 7 by omega), if_neg (show ¬ i0 + 10 < 8 by omega), if_neg (show ¬ i0 + 10 < 9 by omega), if_neg (show ¬ i0 + 10 < 10 by omega), if_pos (show i0 + 10 < 20 by omega)]⟩
theorem F_Val (G : GT) (hG : GOK G) {i0 : Nat} (h0 : i0 < 3) : IA G (i0 + 20) (4) := by
  have h7 := hG.1
  have hm : i0 + 20 ∈ Cs G := mem_Cs (by omega) (Or.inr (Or.inr (Or.inr (Or.inr (Or.inr (Or.inr (Or.inr (Or.inr (Or.inr (Or.inr (Or.inr (Or.inl (by omega)))))))))))))
  exact ⟨hm, by decide, fun r => by
    unfold ec
    rw [if_neg (show ¬ i0 + 20 < 1 by omega), if_neg (show ¬ i0 + 20 < 2 by omega), if_neg (show ¬ i0 + 20 < 3 by omega), if_neg (show ¬ i0 + 20 < 4 by omega), if_neg (show ¬ i0 + 20 < 5 by omega), if_neg (show ¬ i0 + 20 < 6 by omega), if_neg (show ¬ i0 + 20 < 7 by omega), if_neg (show ¬ i0 + 20 < 8 by omega), if_neg (show ¬ i0 + 20 < 9 by omega), if_neg (show ¬ i0 + 20 < 10 by omega), if_neg (show ¬ i0 + 20 < 20 by omega), if_pos (show i0 + 20 < 30 by omega)]⟩
theorem F_Loc (G : GT) (hG : GOK G) {i0 : Nat} (h0 : i0 < 3) : IA G (i0 + 30) (4) := by
  have h7 := hG.1
  have hm : i0 + 30 ∈ Cs G := mem_Cs (by omega) (Or.inr (Or.inr (Or.inr (Or.inr (Or.inr (Or.inr (Or.inr (Or.inr (Or.inr (Or.inr (Or.inr (Or.inr (Or.inl (by omega))))))))))))))
  exact ⟨hm, by decide, fun r => by
    unfold ec
    rw [if_neg (show ¬ i0 + 30 < 1 by omega), if_neg (show ¬ i0 + 30 < 2 by omega), if_neg (show ¬ i0 + 30 < 3 by omega), if_neg (show ¬ i0 + 30 < 4 by omega), if_neg (show ¬ i0 + 30 < 5 by omega), if_neg (show ¬ i0 + 30 < 6 by omega), if_neg (show ¬ i0 + 30 < 7 by omega), if_neg (show ¬ i0 + 30 < 8 by omega), if_neg (show ¬ i0 + 30 < 9 by omega), if_neg (show ¬ i0 + 30 < 10 by omega), if_neg (show ¬ i0 + 30 < 20 by omega), if_neg (show ¬ i0 + 30 < 30 by omega), if_pos (show i0 + 30 < 40 by omega)]⟩
theorem F_Sta (G : GT) (hG : GOK G) {i0 : Nat} (h0 : i0 < 3) : IA G (i0 + 40) (8) := by
  have h7 := hG.1
  have hm : i0 + 40 ∈ Cs G := mem_Cs (by omega) (Or.inr (Or.inr (Or.inr (Or.inr (Or.inr (Or.inr (Or.inr (Or.inr (Or.inr (Or.inr (Or.inr (Or.inr (Or.inr (Or.inl (by omega)))))))))))))))
  exact ⟨hm, by decide, fun r => by
    unfold ec
    rw [if_neg (show ¬ i0 + 40 < 1 by omega), if_neg (show ¬ i0 + 40 < 2 by omega), if_neg (show ¬ i0 + 40 < 3 by omega), if_neg (show ¬ i0 + 40 < 4 by omega), if_neg (show ¬ i0 + 40 < 5 by omega), if_neg (show ¬ i0 + 40 < 6 by omega), if_neg (show ¬ i0 + 40 < 7 by omega), if_neg (show ¬ i0 + 40 < 8 by omega), if_neg (show ¬ i0 + 40 < 9 by omega), if_neg (show ¬ i0 + 40 < 10 by omega), if_neg (show ¬ i0 + 40 < 20 by omega), if_neg (show ¬ i0 + 40 < 30 by omega), if_neg (show ¬ i0 + 40 < 40 by omega), if_pos (show i0 + 40 < 50 by omega)]⟩
theorem F_Wrt (G : GT) (hG : GOK G) {i0 : Nat} (h0 : i0 < 3) : IA G (i0 + 50) (8) := by
  have h7 := hG.1
  have hm : i0 + 50 ∈ Cs G := mem_Cs (by omega) (Or.inr (Or.inr (Or.inr (Or.inr (Or.inr (Or.inr (Or.inr (Or.inr (Or.inr (Or.inr (Or.inr (Or.inr (Or.inr (Or.inr (Or.inl (by omega))))))))))))))))
  exact ⟨hm, by decide, fun r => by
    unfold ec
    rw [if_neg (show ¬ i0 + 50 < 1 by omega), if_neg (show ¬ i0 + 50 < 2 by omega), if_neg (show ¬ i0 + 50 < 3 by omega), if_neg (show ¬ i0 + 50 < 4 by omega), if_neg (show ¬ i0 + 50 < 5 by omega), if_neg (show ¬ i0 + 50 < 6 by omega), if_neg (show ¬ i0 + 50 < 7 by omega), if_neg (show ¬ i0 + 50 < 8 by omega), if_neg (show ¬ i0 + 50 < 9 by omega), if_neg (show ¬ i0 + 50 < 10 by omega), if_neg (show ¬ i0 + 50 < 20 by omega), if_neg (show ¬ i0 + 50 < 30 by omega), if_neg (show ¬ i0 + 50 < 40 by omega), if_neg (show ¬ i0 + 50 < 50 by omega), if_pos (show i0 + 50 < 60 by omega)]⟩
theorem F_Wrs (G : GT) (hG : GOK G) {i0 : Nat} (h0 : i0 < 3) : AA G (i0 + 60) (8) (fun j => 8 * i0 + j + 70) := by
  have h7 := hG.1
  have hm : i0 + 60 ∈ Cs G := mem_Cs (by omega) (Or.inr (Or.inr (Or.inr (Or.inr (Or.inr (Or.inr (Or.inr (Or.inr (Or.inr (Or.inr (Or.inr (Or.inr (Or.inr (Or.inr (Or.inr (Or.inl (by omega)))))))))))))))))
  exact ⟨hm, by decide, fun r => by
    unfold ec
    rw [if_neg (show ¬ i0 + 60 < 1 by omega), if_neg (show ¬ i0 + 60 < 2 by omega), if_neg (show ¬ i0 + 60 < 3 by omega), if_neg (show ¬ i0 + 60 < 4 by omega), if_neg (show ¬ i0 + 60 < 5 by omega), if_neg (show ¬ i0 + 60 < 6 by omega), if_neg (show ¬ i0 + 60 < 7 by omega), if_neg (show ¬ i0 + 60 < 8 by omega), if_neg (show ¬ i0 + 60 < 9 by omega), if_neg (show ¬ i0 + 60 < 10 by omega), if_neg (show ¬ i0 + 60 < 20 by omega), if_neg (show ¬ i0 + 60 < 30 by omega), if_neg (show ¬ i0 + 60 < 40 by omega), if_neg (show ¬ i0 + 60 < 50 by omega), if_neg (show ¬ i0 + 60 < 60 by omega), if_pos (show i0 + 60 < 70 by omega)]
    simp only [Nat.add_sub_cancel]⟩
theorem F_Wr (G : GT) (hG : GOK G) {i0 i1 : Nat} (h0 : i0 < 3) (h1 : i1 < 8) : IA G (8 * i0 + i1 + 70) (4) := by
  have h7 := hG.1
  have hm : 8 * i0 + i1 + 70 ∈ Cs G := mem_Cs (by omega) (Or.inr (Or.inr (Or.inr (Or.inr (Or.inr (Or.inr (Or.inr (Or.inr (Or.inr (Or.inr (Or.inr (Or.inr (Or.inr (Or.inr (Or.inr (Or.inr (Or.inl (by omega))))))))))))))))))
  exact ⟨hm, by decide, fun r => by
    unfold ec
    rw [if_neg (show ¬ 8 * i0 + i1 + 70 < 1 by omega), if_neg (show ¬ 8 * i0 + i1 + 70 < 2 by omega), if_neg (show ¬ 8 * i0 + i1 + 70 < 3 by omega), if_neg (show ¬ 8 * i0 + i1 + 70 < 4 by omega), if_neg (show ¬ 8 * i0 + i1 + 70 < 5 by omega), if_neg (show ¬ 8 * i0 + i1 + 70 < 6 by omega), if_neg (show ¬ 8 * i0 + i1 + 70 < 7 by omega), if_neg (show ¬ 8 * i0 + i1 + 70 < 8 by omega), if_neg (show ¬ 8 * i0 + i1 + 70 < 9 by omega), if_neg (show ¬ 8 * i0 + i1 + 70 < 10 by omega), if_neg (show ¬ 8 * i0 + i1 + 70 < 20 by omega), if_neg (show ¬ 8 * i0 + i1 + 70 < 30 by omega), if_neg (show ¬ 8 * i0 + i1 + 70 < 40 by omega), if_neg (show ¬ 8 * i0 + i1 + 70 < 50 by omega), if_neg (show ¬ 8 * i0 + i1 + 70 < 60 by omega), if_neg (show ¬ 8 * i0 + i1 + 70 < 70 by omega), if_pos (show 8 * i0 + i1 + 70 < 100 by omega)]⟩
theorem F_Acc (G : GT) (hG : GOK G) {i0 : Nat} (h0 : i0 < gn G) : OB G (i0 + 100) iAcc (fun _ => [.ref (gad G (i0 + 110)), .ref (gad G (i0 + 120))]) := by
  have h7 := hG.1
  have hm : i0 + 100 ∈ Cs G := mem_Cs (by omega) (Or.inr (Or.inr (Or.inr (Or.inr (Or.inr (Or.inr (Or.inr (Or.inr (Or.inr (Or.inr (Or.inr (Or.inr (Or.inr (Or.inr (Or.inr (Or.inr (Or.inr (Or.inl (by omega)))))))))))))))))))
  exact ⟨hm, fun r => by
    unfold ec
    rw [if_neg (show ¬ i0 + 100 < 1 by omega), if_neg (show ¬ i0 + 100 < 2 by omega), if_neg (show ¬ i0 + 100 < 3 by omega), if_neg (show ¬ i0 + 100 < 4 by omega), if_neg (show ¬ i0 + 100 < 5 by omega), if_neg (show ¬ i0 + 100 < 6 by omega), if_neg (show ¬ i0 + 100 < 7 by omega), if_neg (show ¬ i0 + 100 < 8 by omega), if_neg (show ¬ i0 + 100 < 9 by omega), if_neg (show ¬ i0 + 100 < 10 by omega), if_neg (show ¬ i0 + 100 < 20 by omega), if_neg (show ¬ i0 + 100 < 30 by omega), if_neg (show ¬ i0 + 100 < 40 by omega), if_neg (show ¬ i0 + 100 < 50 by omega), if_neg (show ¬ i0 + 100 < 60 by omega), if_neg (show ¬ i0 + 100 < 70 by omega), if_neg (show ¬ i0 + 100 < 100 by omega), if_pos (show i0 + 100 < 110 by omega)]⟩
theorem F_Pro (G : GT) (hG : GOK G) {i0 : Nat} (h0 : i0 < gn G) : AA G (i0 + 110) (8) (fun j => 8 * i0 + j + 130) := by
  have h7 := hG.1
  have hm : i0 + 110 ∈ Cs G := mem_Cs (by omega) (Or.inr (Or.inr (Or.inr (Or.inr (Or.inr (Or.inr (Or.inr (Or.inr (Or.inr (Or.inr (Or.inr (Or.inr (Or.inr (Or.inr (Or.inr (Or.inr (Or.inr (Or.inr (Or.inl (by omega))))))))))))))))))))
  exact ⟨hm, by decide, fun r => by
    unfold ec
    rw [if_neg (show ¬ i0 + 110 < 1 by omega), if_neg (show ¬ i0 + 110 < 2 by omega), if_neg (show ¬ i0 + 110 < 3 by omega), if_neg (show ¬ i0 + 110 < 4 by omega), if_neg (show ¬ i0 + 110 < 5 by omega), if_neg (show ¬ i0 + 110 < 6 by omega), if_neg (show ¬ i0 + 110 < 7 by omega), if_neg (show ¬ i0 + 110 < 8 by omega), if_neg (show ¬ i0 + 110 < 9 by omega), if_neg (show ¬ i0 + 110 < 10 by omega), if_neg (show ¬ i0 + 110 < 20 by omega), if_neg (show ¬ i0 + 110 < 30 by omega), if_neg (show ¬ i0 + 110 < 40 by omega), if_neg (show ¬ i0 + 110 < 50 by omega), if_neg (show ¬ i0 + 110 < 60 by omega), if_neg (show ¬ i0 + 110 < 70 by omega), if_neg (show ¬ i0 + 110 < 100 by omega), if_neg (show ¬ i0 + 110 < 110 by omega), if_pos (show i0 + 110 < 120 by omega)]
    simp only [Nat.add_sub_cancel]⟩
theorem F_Tak (G : GT) (hG : GOK G) {i0 : Nat} (h0 : i0 < gn G) : AA G (i0 + 120) (8) (fun j => 8 * i0 + j + 160) := by
  have h7 := hG.1
  have hm : i0 + 120 ∈ Cs G := mem_Cs (by omega) (Or.inr (Or.inr (Or.inr (Or.inr (Or.inr (Or.inr (Or.inr (Or.inr (Or.inr (Or.inr (Or.inr (Or.inr (Or.inr (Or.inr (Or.inr (Or.inr (Or.inr (Or.inr (Or.inr (Or.inl (by omega)))))))))))))))))))))
  exact ⟨hm, by decide, fun r => by
    unfold ec
    rw [if_neg (show ¬ i0 + 120 < 1 by omega), if_neg (show ¬ i0 + 120 < 2 by omega), if_neg (show ¬ i0 + 120 < 3 by omega), if_neg (show ¬ i0 + 120 < 4 by omega), if_neg (show ¬ i0 + 120 < 5 by omega), if_neg (show ¬ i0 + 120 < 6 by omega), if_neg (show ¬ i0 + 120 < 7 by omega), if_neg (show ¬ i0 + 120 < 8 by omega), if_neg (show ¬ i0 + 120 < 9 by omega), if_neg (show ¬ i0 + 120 < 10 by omega), if_neg (show ¬ i0 + 120 < 20 by omega), if_neg (show ¬ i0 + 120 < 30 by omega), if_neg (show ¬ i0 + 120 < 40 by omega), if_neg (show ¬ i0 + 120 < 50 by omega), if_neg (show ¬ i0 + 120 < 60 by omega), if_neg (show ¬ i0 + 120 < 70 by omega), if_neg (show ¬ i0 + 120 < 100 by omega), if_neg (show ¬ i0 + 120 < 110 by omega), if_neg (show ¬ i0 + 120 < 120 by omega), if_pos (show i0 + 120 < 130 by omega)]
    simp only [Nat.add_sub_cancel]⟩
theorem F_PrR (G : GT) (hG : GOK G) {i0 i1 : Nat} (h0 : i0 < gn G) (h1 : i1 < 8) : IA G (8 * i0 + i1 + 130) (3) := by
  have h7 := hG.1
  have hm : 8 * i0 + i1 + 130 ∈ Cs G := mem_Cs (by omega) (Or.inr (Or.inr (Or.inr (Or.inr (Or.inr (Or.inr (Or.inr (Or.inr (Or.inr (Or.inr (Or.inr (Or.inr (Or.inr (Or.inr (Or.inr (Or.inr (Or.inr (Or.inr (Or.inr (Or.inr (Or.inl (by omega))))))))))))))))))))))
  exact ⟨hm, by decide, fun r => by
    unfold ec
    rw [if_neg (show ¬ 8 * i0 + i1 + 130 < 1 by omega), if_neg (show ¬ 8 * i0 + i1 + 130 < 2 by omega), if_neg (show ¬ 8 * i0 + i1 + 130 < 3 by omega), if_neg (show ¬ 8 * i0 + i1 + 130 < 4 by omega), if_neg (show ¬ 8 * i0 + i1 + 130 < 5 by omega), if_neg (show ¬ 8 * i0 + i1 + 130 < 6 by omega), if_neg (show ¬ 8 * i0 + i1 + 130 < 7 by omega), if_neg (show ¬ 8 * i0 + i1 + 130 < 8 by omega), if_neg (show ¬ 8 * i0 + i1 + 130 < 9 by omega), if_neg (show ¬ 8 * i0 + i1 + 130 < 10 by omega), if_neg (show ¬ 8 * i0 + i1 + 130 < 20 by omega), if_neg (show ¬ 8 * i0 + i1 + 130 < 30 by omega), if_neg (show ¬ 8 * i0 + i1 + 130 < 40 by omega), if_neg (show ¬ 8 * i0 + i1 + 130 < 50 by omega), if_neg (show ¬ 8 * i0 + i1 + 130 < 60 by omega), if_neg (show ¬ 8 * i0 + i1 + 130 < 70 by omega), if_neg (show ¬ 8 * i0 + i1 + 130 < 100 by omega), if_neg (show ¬ 8 * i0 + i1 + 130 < 110 by omega), if_neg (show ¬ 8 * i0 + i1 + 130 < 120 by omega), if_neg (show ¬ 8 * i0 + i1 + 130 < 130 by omega), if_pos (show 8 * i0 + i1 + 130 < 160 by omega)]⟩
theorem F_TkR (G : GT) (hG : GOK G) {i0 i1 : Nat} (h0 : i0 < gn G) (h1 : i1 < 8) : IA G (8 * i0 + i1 + 160) (3) := by
  have h7 := hG.1
  have hm : 8 * i0 + i1 + 160 ∈ Cs G := mem_Cs (by omega) (Or.inr (Or.inr (Or.inr (Or.inr (Or.inr (Or.inr (Or.inr (Or.inr (Or.inr (Or.inr (Or.inr (Or.inr (Or.inr (Or.inr (Or.inr (Or.inr (Or.inr (Or.inr (Or.inr (Or.inr (Or.inr (Or.inl (by omega)))))))))))))))))))))))
  exact ⟨hm, by decide, fun r => by
    unfold ec
    rw [if_neg (show ¬ 8 * i0 + i1 + 160 < 1 by omega), if_neg (show ¬ 8 * i0 + i1 + 160 < 2 by omega), if_neg (show ¬ 8 * i0 + i1 + 160 < 3 by omega), if_neg (show ¬ 8 * i0 + i1 + 160 < 4 by omega), if_neg (show ¬ 8 * i0 + i1 + 160 < 5 by omega), if_neg (show ¬ 8 * i0 + i1 + 160 < 6 by omega), if_neg (show ¬ 8 * i0 + i1 + 160 < 7 by omega), if_neg (show ¬ 8 * i0 + i1 + 160 < 8 by omega), if_neg (show ¬ 8 * i0 + i1 + 160 < 9 by omega), if_neg (show ¬ 8 * i0 + i1 + 160 < 10 by omega), if_neg (show ¬ 8 * i0 + i1 + 160 < 20 by omega), if_neg (show ¬ 8 * i0 + i1 + 160 < 30 by omega), if_neg (show ¬ 8 * i0 + i1 + 160 < 40 by omega), if_neg (show ¬ 8 * i0 + i1 + 160 < 50 by omega), if_neg (show ¬ 8 * i0 + i1 + 160 < 60 by omega), if_neg (show ¬ 8 * i0 + i1 + 160 < 70 by omega), if_neg (show ¬ 8 * i0 + i1 + 160 < 100 by omega), if_neg (show ¬ 8 * i0 + i1 + 160 < 110 by omega), if_neg (show ¬ 8 * i0 + i1 + 160 < 120 by omega), if_neg (show ¬ 8 * i0 + i1 + 160 < 130 by omega), if_neg (show ¬ 8 * i0 + i1 + 160 < 160 by omega), if_pos (show 8 * i0 + i1 + 160 < 200 by omega)]⟩
theorem F_Led (G : GT) (hG : GOK G) {i0 : Nat} (h0 : i0 < 16) : OB G (i0 + 200) iLed (fun r => [.int (r 0), .int (r 1), .int (r 2), .ref (gad G (i0 + 220)), .ref (gad G (i0 + 240)), .ref (gad G (i0 + 260))]) := by
  have h7 := hG.1
  have hm : i0 + 200 ∈ Cs G := mem_Cs (by omega) (Or.inr (Or.inr (Or.inr (Or.inr (Or.inr (Or.inr (Or.inr (Or.inr (Or.inr (Or.inr (Or.inr (Or.inr (Or.inr (Or.inr (Or.inr (Or.inr (Or.inr (Or.inr (Or.inr (Or.inr (Or.inr (Or.inr (Or.inl (by omega))))))))))))))))))))))))
  exact ⟨hm, fun r => by
    unfold ec
    rw [if_neg (show ¬ i0 + 200 < 1 by omega), if_neg (show ¬ i0 + 200 < 2 by omega), if_neg (show ¬ i0 + 200 < 3 by omega), if_neg (show ¬ i0 + 200 < 4 by omega), if_neg (show ¬ i0 + 200 < 5 by omega), if_neg (show ¬ i0 + 200 < 6 by omega), if_neg (show ¬ i0 + 200 < 7 by omega), if_neg (show ¬ i0 + 200 < 8 by omega), if_neg (show ¬ i0 + 200 < 9 by omega), if_neg (show ¬ i0 + 200 < 10 by omega), if_neg (show ¬ i0 + 200 < 20 by omega), if_neg (show ¬ i0 + 200 < 30 by omega), if_neg (show ¬ i0 + 200 < 40 by omega), if_neg (show ¬ i0 + 200 < 50 by omega), if_neg (show ¬ i0 + 200 < 60 by omega), if_neg (show ¬ i0 + 200 < 70 by omega), if_neg (show ¬ i0 + 200 < 100 by omega), if_neg (show ¬ i0 + 200 < 110 by omega), if_neg (show ¬ i0 + 200 < 120 by omega), if_neg (show ¬ i0 + 200 < 130 by omega), if_neg (show ¬ i0 + 200 < 160 by omega), if_neg (show ¬ i0 + 200 < 200 by omega), if_pos (show i0 + 200 < 220 by omega)]⟩
theorem F_HR (G : GT) (hG : GOK G) {i0 : Nat} (h0 : i0 < 16) : ZA G (i0 + 220) (gn G) := by
  have h7 := hG.1
  have hm : i0 + 220 ∈ Cs G := mem_Cs (by omega) (Or.inr (Or.inr (Or.inr (Or.inr (Or.inr (Or.inr (Or.inr (Or.inr (Or.inr (Or.inr (Or.inr (Or.inr (Or.inr (Or.inr (Or.inr (Or.inr (Or.inr (Or.inr (Or.inr (Or.inr (Or.inr (Or.inr (Or.inr (Or.inl (by omega)))))))))))))))))))))))))
  exact ⟨hm, by omega, fun r => by
    unfold ec
    rw [if_neg (show ¬ i0 + 220 < 1 by omega), if_neg (show ¬ i0 + 220 < 2 by omega), if_neg (show ¬ i0 + 220 < 3 by omega), if_neg (show ¬ i0 + 220 < 4 by omega), if_neg (show ¬ i0 + 220 < 5 by omega), if_neg (show ¬ i0 + 220 < 6 by omega), if_neg (show ¬ i0 + 220 < 7 by omega), if_neg (show ¬ i0 + 220 < 8 by omega), if_neg (show ¬ i0 + 220 < 9 by omega), if_neg (show ¬ i0 + 220 < 10 by omega), if_neg (show ¬ i0 + 220 < 20 by omega), if_neg (show ¬ i0 + 220 < 30 by omega), if_neg (show ¬ i0 + 220 < 40 by omega), if_neg (show ¬ i0 + 220 < 50 by omega), if_neg (show ¬ i0 + 220 < 60 by omega), if_neg (show ¬ i0 + 220 < 70 by omega), if_neg (show ¬ i0 + 220 < 100 by omega), if_neg (show ¬ i0 + 220 < 110 by omega), if_neg (show ¬ i0 + 220 < 120 by omega), if_neg (show ¬ i0 + 220 < 130 by omega), if_neg (show ¬ i0 + 220 < 160 by omega), if_neg (show ¬ i0 + 220 < 200 by omega), if_neg (show ¬ i0 + 220 < 220 by omega), if_pos (show i0 + 220 < 240 by omega)]⟩
theorem F_Rpl (G : GT) (hG : GOK G) {i0 : Nat} (h0 : i0 < 16) : AA G (i0 + 240) (gn G) (fun j => 4 * i0 + j + 280) := by
  have h7 := hG.1
  have hm : i0 + 240 ∈ Cs G := mem_Cs (by omega) (Or.inr (Or.inr (Or.inr (Or.inr (Or.inr (Or.inr (Or.inr (Or.inr (Or.inr (Or.inr (Or.inr (Or.inr (Or.inr (Or.inr (Or.inr (Or.inr (Or.inr (Or.inr (Or.inr (Or.inr (Or.inr (Or.inr (Or.inr (Or.inr (Or.inl (by omega))))))))))))))))))))))))))
  exact ⟨hm, by omega, fun r => by
    unfold ec
    rw [if_neg (show ¬ i0 + 240 < 1 by omega), if_neg (show ¬ i0 + 240 < 2 by omega), if_neg (show ¬ i0 + 240 < 3 by omega), if_neg (show ¬ i0 + 240 < 4 by omega), if_neg (show ¬ i0 + 240 < 5 by omega), if_neg (show ¬ i0 + 240 < 6 by omega), if_neg (show ¬ i0 + 240 < 7 by omega), if_neg (show ¬ i0 + 240 < 8 by omega), if_neg (show ¬ i0 + 240 < 9 by omega), if_neg (show ¬ i0 + 240 < 10 by omega), if_neg (show ¬ i0 + 240 < 20 by omega), if_neg (show ¬ i0 + 240 < 30 by omega), if_neg (show ¬ i0 + 240 < 40 by omega), if_neg (show ¬ i0 + 240 < 50 by omega), if_neg (show ¬ i0 + 240 < 60 by omega), if_neg (show ¬ i0 + 240 < 70 by omega), if_neg (show ¬ i0 + 240 < 100 by omega), if_neg (show ¬ i0 + 240 < 110 by omega), if_neg (show ¬ i0 + 240 < 120 by omega), if_neg (show ¬ i0 + 240 < 130 by omega), if_neg (show ¬ i0 + 240 < 160 by omega), if_neg (show ¬ i0 + 240 < 200 by omega), if_neg (show ¬ i0 + 240 < 220 by omega), if_neg (show ¬ i0 + 240 < 240 by omega), if_pos (show i0 + 240 < 260 by omega)]
    simp only [Nat.add_sub_cancel]⟩
theorem F_Lat (G : GT) (hG : GOK G) {i0 : Nat} (h0 : i0 < 16) : AA G (i0 + 260) (gn G) (fun j => 4 * i0 + j + 350) := by
  have h7 := hG.1
  have hm : i0 + 260 ∈ Cs G := mem_Cs (by omega) (Or.inr (Or.inr (Or.inr (Or.inr (Or.inr (Or.inr (Or.inr (Or.inr (Or.inr (Or.inr (Or.inr (Or.inr (Or.inr (Or.inr (Or.inr (Or.inr (Or.inr (Or.inr (Or.inr (Or.inr (Or.inr (Or.inr (Or.inr (Or.inr (Or.inr (Or.inl (by omega)))))))))))))))))))))))))))
  exact ⟨hm, by omega, fun r => by
    unfold ec
    rw [if_neg (show ¬ i0 + 260 < 1 by omega), if_neg (show ¬ i0 + 260 < 2 by omega), if_neg (show ¬ i0 + 260 < 3 by omega), if_neg (show ¬ i0 + 260 < 4 by omega), if_neg (show ¬ i0 + 260 < 5 by omega), if_neg (show ¬ i0 + 260 < 6 by omega), if_neg (show ¬ i0 + 260 < 7 by omega), if_neg (show ¬ i0 + 260 < 8 by omega), if_neg (show ¬ i0 + 260 < 9 by omega), if_neg (show ¬ i0 + 260 < 10 by omega), if_neg (show ¬ i0 + 260 < 20 by omega), if_neg (show ¬ i0 + 260 < 30 by omega), if_neg (show ¬ i0 + 260 < 40 by omega), if_neg (show ¬ i0 + 260 < 50 by omega), if_neg (show ¬ i0 + 260 < 60 by omega), if_neg (show ¬ i0 + 260 < 70 by omega), if_neg (show ¬ i0 + 260 < 100 by omega), if_neg (show ¬ i0 + 260 < 110 by omega), if_neg (show ¬ i0 + 260 < 120 by omega), if_neg (show ¬ i0 + 260 < 130 by omega), if_neg (show ¬ i0 + 260 < 160 by omega), if_neg (show ¬ i0 + 260 < 200 by omega), if_neg (show ¬ i0 + 260 < 220 by omega), if_neg (show ¬ i0 + 260 < 240 by omega), if_neg (show ¬ i0 + 260 < 260 by omega), if_pos (show i0 + 260 < 280 by omega)]
    simp only [Nat.add_sub_cancel]⟩
theorem F_RpR (G : GT) (hG : GOK G) {i0 i1 : Nat} (h0 : i0 < 16) (h1 : i1 < gn G) : IA G (4 * i0 + i1 + 280) (3) := by
  have h7 := hG.1
  have hm : 4 * i0 + i1 + 280 ∈ Cs G := mem_Cs (by omega) (Or.inr (Or.inr (Or.inr (Or.inr (Or.inr (Or.inr (Or.inr (Or.inr (Or.inr (Or.inr (Or.inr (Or.inr (Or.inr (Or.inr (Or.inr (Or.inr (Or.inr (Or.inr (Or.inr (Or.inr (Or.inr (Or.inr (Or.inr (Or.inr (Or.inr (Or.inr (Or.inl (by omega))))))))))))))))))))))))))))
  exact ⟨hm, by decide, fun r => by
    unfold ec
    rw [if_neg (show ¬ 4 * i0 + i1 + 280 < 1 by omega), if_neg (show ¬ 4 * i0 + i1 + 280 < 2 by omega), if_neg (show ¬ 4 * i0 + i1 + 280 < 3 by omega), if_neg (show ¬ 4 * i0 + i1 + 280 < 4 by omega), if_neg (show ¬ 4 * i0 + i1 + 280 < 5 by omega), if_neg (show ¬ 4 * i0 + i1 + 280 < 6 by omega), if_neg (show ¬ 4 * i0 + i1 + 280 < 7 by omega), if_neg (show ¬ 4 * i0 + i1 + 280 < 8 by omega), if_neg (show ¬ 4 * i0 + i1 + 280 < 9 by omega), if_neg (show ¬ 4 * i0 + i1 + 280 < 10 by omega), if_neg (show ¬ 4 * i0 + i1 + 280 < 20 by omega), if_neg (show ¬ 4 * i0 + i1 + 280 < 30 by omega), if_neg (show ¬ 4 * i0 + i1 + 280 < 40 by omega), if_neg (show ¬ 4 * i0 + i1 + 280 < 50 by omega), if_neg (show ¬ 4 * i0 + i1 + 280 < 60 by omega), if_neg (show ¬ 4 * i0 + i1 + 280 < 70 by omega), if_neg (show ¬ 4 * i0 + i1 + 280 < 100 by omega), if_neg (show ¬ 4 * i0 + i1 + 280 < 110 by omega), if_neg (show ¬ 4 * i0 + i1 + 280 < 120 by omega), if_neg (show ¬ 4 * i0 + i1 + 280 < 130 by omega), if_neg (show ¬ 4 * i0 + i1 + 280 < 160 by omega), if_neg (show ¬ 4 * i0 + i1 + 280 < 200 by omega), if_neg (show ¬ 4 * i0 + i1 + 280 < 220 by omega), if_neg (show ¬ 4 * i0 + i1 + 280 < 240 by omega), if_neg (show ¬ 4 * i0 + i1 + 280 < 260 by omega), if_neg (show ¬ 4 * i0 + i1 + 280 < 280 by omega), if_pos (show 4 * i0 + i1 + 280 < 350 by omega)]⟩
theorem F_LtR (G : GT) (hG : GOK G) {i0 i1 : Nat} (h0 : i0 < 16) (h1 : i1 < gn G) : IA G (4 * i0 + i1 + 350) (3) := by
  have h7 := hG.1
  have hm : 4 * i0 + i1 + 350 ∈ Cs G := mem_Cs (by omega) (Or.inr (Or.inr (Or.inr (Or.inr (Or.inr (Or.inr (Or.inr (Or.inr (Or.inr (Or.inr (Or.inr (Or.inr (Or.inr (Or.inr (Or.inr (Or.inr (Or.inr (Or.inr (Or.inr (Or.inr (Or.inr (Or.inr (Or.inr (Or.inr (Or.inr (Or.inr (Or.inr (Or.inl (by omega)))))))))))))))))))))))))))))
  exact ⟨hm, by decide, fun r => by
    unfold ec
    rw [if_neg (show ¬ 4 * i0 + i1 + 350 < 1 by omega), if_neg (show ¬ 4 * i0 + i1 + 350 < 2 by omega), if_neg (show ¬ 4 * i0 + i1 + 350 < 3 by omega), if_neg (show ¬ 4 * i0 + i1 + 350 < 4 by omega), if_neg (show ¬ 4 * i0 + i1 + 350 < 5 by omega), if_neg (show ¬ 4 * i0 + i1 + 350 < 6 by omega), if_neg (show ¬ 4 * i0 + i1 + 350 < 7 by omega), if_neg (show ¬ 4 * i0 + i1 + 350 < 8 by omega), if_neg (show ¬ 4 * i0 + i1 + 350 < 9 by omega), if_neg (show ¬ 4 * i0 + i1 + 350 < 10 by omega), if_neg (show ¬ 4 * i0 + i1 + 350 < 20 by omega), if_neg (show ¬ 4 * i0 + i1 + 350 < 30 by omega), if_neg (show ¬ 4 * i0 + i1 + 350 < 40 by omega), if_neg (show ¬ 4 * i0 + i1 + 350 < 50 by omega), if_neg (show ¬ 4 * i0 + i1 + 350 < 60 by omega), if_neg (show ¬ 4 * i0 + i1 + 350 < 70 by omega), if_neg (show ¬ 4 * i0 + i1 + 350 < 100 by omega), if_neg (show ¬ 4 * i0 + i1 + 350 < 110 by omega), if_neg (show ¬ 4 * i0 + i1 + 350 < 120 by omega), if_neg (show ¬ 4 * i0 + i1 + 350 < 130 by omega), if_neg (show ¬ 4 * i0 + i1 + 350 < 160 by omega), if_neg (show ¬ 4 * i0 + i1 + 350 < 200 by omega), if_neg (show ¬ 4 * i0 + i1 + 350 < 220 by omega), if_neg (show ¬ 4 * i0 + i1 + 350 < 240 by omega), if_neg (show ¬ 4 * i0 + i1 + 350 < 260 by omega), if_neg (show ¬ 4 * i0 + i1 + 350 < 280 by omega), if_neg (show ¬ 4 * i0 + i1 + 350 < 350 by omega), if_pos (show 4 * i0 + i1 + 350 < 420 by omega)]⟩
theorem F_Msg (G : GT) (hG : GOK G) {i0 : Nat} (h0 : i0 < 62) : OB G (i0 + 420) iMsg (fun r => [.int (r 0), .int (r 1), .int (r 2), .int (r 3), .int (r 4), .int (r 5), .int (r 6), .ref (gad G (i0 + 490))]) := by
  have h7 := hG.1
  have hm : i0 + 420 ∈ Cs G := mem_Cs (by omega) (Or.inr (Or.inr (Or.inr (Or.inr (Or.inr (Or.inr (Or.inr (Or.inr (Or.inr (Or.inr (Or.inr (Or.inr (Or.inr (Or.inr (Or.inr (Or.inr (Or.inr (Or.inr (Or.inr (Or.inr (Or.inr (Or.inr (Or.inr (Or.inr (Or.inr (Or.inr (Or.inr (Or.inr (Or.inl (by omega))))))))))))))))))))))))))))))
  exact ⟨hm, fun r => by
    unfold ec
    rw [if_neg (show ¬ i0 + 420 < 1 by omega), if_neg (show ¬ i0 + 420 < 2 by omega), if_neg (show ¬ i0 + 420 < 3 by omega), if_neg (show ¬ i0 + 420 < 4 by omega), if_neg (show ¬ i0 + 420 < 5 by omega), if_neg (show ¬ i0 + 420 < 6 by omega), if_neg (show ¬ i0 + 420 < 7 by omega), if_neg (show ¬ i0 + 420 < 8 by omega), if_neg (show ¬ i0 + 420 < 9 by omega), if_neg (show ¬ i0 + 420 < 10 by omega), if_neg (show ¬ i0 + 420 < 20 by omega), if_neg (show ¬ i0 + 420 < 30 by omega), if_neg (show ¬ i0 + 420 < 40 by omega), if_neg (show ¬ i0 + 420 < 50 by omega), if_neg (show ¬ i0 + 420 < 60 by omega), if_neg (show ¬ i0 + 420 < 70 by omega), if_neg (show ¬ i0 + 420 < 100 by omega), if_neg (show ¬ i0 + 420 < 110 by omega), if_neg (show ¬ i0 + 420 < 120 by omega), if_neg (show ¬ i0 + 420 < 130 by omega), if_neg (show ¬ i0 + 420 < 160 by omega), if_neg (show ¬ i0 + 420 < 200 by omega), if_neg (show ¬ i0 + 420 < 220 by omega), if_neg (show ¬ i0 + 420 < 240 by omega), if_neg (show ¬ i0 + 420 < 260 by omega), if_neg (show ¬ i0 + 420 < 280 by omega), if_neg (show ¬ i0 + 420 < 350 by omega), if_neg (show ¬ i0 + 420 < 420 by omega), if_pos (show i0 + 420 < 490 by omega)]⟩
theorem F_Rep (G : GT) (hG : GOK G) {i0 : Nat} (h0 : i0 < 62) : IA G (i0 + 490) (3) := by
  have h7 := hG.1
  have hm : i0 + 490 ∈ Cs G := mem_Cs (by omega) (Or.inr (Or.inr (Or.inr (Or.inr (Or.inr (Or.inr (Or.inr (Or.inr (Or.inr (Or.inr (Or.inr (Or.inr (Or.inr (Or.inr (Or.inr (Or.inr (Or.inr (Or.inr (Or.inr (Or.inr (Or.inr (Or.inr (Or.inr (Or.inr (Or.inr (Or.inr (Or.inr (Or.inr (Or.inr (by omega))))))))))))))))))))))))))))))
  exact ⟨hm, by decide, fun r => by
    unfold ec
    rw [if_neg (show ¬ i0 + 490 < 1 by omega), if_neg (show ¬ i0 + 490 < 2 by omega), if_neg (show ¬ i0 + 490 < 3 by omega), if_neg (show ¬ i0 + 490 < 4 by omega), if_neg (show ¬ i0 + 490 < 5 by omega), if_neg (show ¬ i0 + 490 < 6 by omega), if_neg (show ¬ i0 + 490 < 7 by omega), if_neg (show ¬ i0 + 490 < 8 by omega), if_neg (show ¬ i0 + 490 < 9 by omega), if_neg (show ¬ i0 + 490 < 10 by omega), if_neg (show ¬ i0 + 490 < 20 by omega), if_neg (show ¬ i0 + 490 < 30 by omega), if_neg (show ¬ i0 + 490 < 40 by omega), if_neg (show ¬ i0 + 490 < 50 by omega), if_neg (show ¬ i0 + 490 < 60 by omega), if_neg (show ¬ i0 + 490 < 70 by omega), if_neg (show ¬ i0 + 490 < 100 by omega), if_neg (show ¬ i0 + 490 < 110 by omega), if_neg (show ¬ i0 + 490 < 120 by omega), if_neg (show ¬ i0 + 490 < 130 by omega), if_neg (show ¬ i0 + 490 < 160 by omega), if_neg (show ¬ i0 + 490 < 200 by omega), if_neg (show ¬ i0 + 490 < 220 by omega), if_neg (show ¬ i0 + 490 < 240 by omega), if_neg (show ¬ i0 + 490 < 260 by omega), if_neg (show ¬ i0 + 490 < 280 by omega), if_neg (show ¬ i0 + 490 < 350 by omega), if_neg (show ¬ i0 + 490 < 420 by omega), if_neg (show ¬ i0 + 490 < 490 by omega), if_pos (show i0 + 490 < 600 by omega)]⟩
