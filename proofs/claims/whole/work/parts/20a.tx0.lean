/-! text: the StringBuilder beside the world -/
def rdI (L : List Nat) (k : Int32) : Int32 := if k.toNatClampNeg < L.length then nI (L.getD k.toNatClampNeg 0) else -1
def txX (d : DD) (x0 x1 : Int32) : Option String := if 0 ≤ x1 then msX d x0 else some "java/lang/IllegalArgumentException"
/-- what a text asks of a message -/
def MsgTx (d : DD) (q : Nat) : Prop := (∃ k0, k0 < 6 ∧ d (q + 420) 0 = nI k0) ∧ nmB 10 (d (q + 420) 1) ∧ nmB 10 (d (q + 420) 2) ∧ nmB 10 (d (q + 420) 3) ∧ nmB 10 (d (q + 420) 4) ∧ nmB 10000 (d (q + 420) 5) ∧ (d (q + 420) 0 = 2 → ∀ j, j < 3 → nmB 20000 (d (q + 490) j))
theorem WD_lt {G : GT} {H0 H : Heap} {d : DD} {locs : List Loc} (hW : WD G H0 d H locs) {c : Nat} (hc : c ∈ Cs G) : gad G c < H.size := by
  obtain ⟨k, hk⟩ := wl_get (G := G) (d := d) hc
  exact (hW.1 k _ hk).lt
theorem wl_low {G : GT} {d : DD} {σ : Nat} (hl : ∀ c ∈ Cs G, gad G c < σ) {k : Nat} {x : Nat × va_E} (hk : (wl G d)[k]? = some x) : x.1 < σ := by
  obtain ⟨c, hc, e⟩ := List.mem_map.mp (List.mem_of_getElem? hk)
  rw [← e]
  exact hl c hc
theorem WD_keep {G : GT} {H0 H H1 : Heap} {d : DD} {locs locs1 : List Loc} {σ : Nat} (hW : WD G H0 d H locs) (hl : ∀ c ∈ Cs G, gad G c < σ) (hσ : σ ≤ H.size) (hk : ∀ q, q < H.size → q < σ → H1[q]? = H[q]?) (hS : va_S (gAb G) H0 H1 locs1) : WD G H0 d H1 locs1 :=
  ⟨hW.1.kept (fun k x hx => hk x.1 ((hW.1 k x hx).lt) (wl_low hl hx)), hW.2.1, hS⟩
theorem WD_two {G : GT} {H0 H : Heap} {d : DD} {locs : List Loc} (hW : WD G H0 d H locs) {c1 c2 ci n : Nat} {fs : (Nat → Int32) → List Value} (h1 : OB G c1 ci fs) (h2 : IA G c2 n) : va_P G.1 gcl [(gad G c1, .inr (ci, fs (d c1))), (gad G c2, aI (gC G 0) n (d c2))] H := by
  obtain ⟨k1, e1⟩ := wl_get (G := G) (d := d) h1.1
  obtain ⟨k2, e2⟩ := wl_get (G := G) (d := d) h2.1
  rw [en, h1.2] at e1
  rw [en, h2.2.2] at e2
  intro k x hk
  match k, hk with
  | 0, hk => cases hk; exact hW.1 k1 _ e1
  | 1, hk => cases hk; exact hW.1 k2 _ e2
theorem WW_one {G : GT} {σ : Nat} {e : va_E} {H : Heap} (h : va_at G.1 gcl (σ, e) H) : va_P (gB G σ).1 gcl [(σ, e)] H ∧ va_D (gAb (gB G σ)) [(σ, e)] := by
  refine ⟨fun k x hk => ?_, fun i j x y hi hj _ => ?_, fun k x hk => ?_⟩
  · match k, hk with
    | 0, hk => cases hk; exact h
  · match i, j, hi, hj with
    | 0, 0, _, _ => rfl
  · match k, hk with
    | 0, hk => cases hk; exact Nat.le_refl _
theorem rd_in {L : List Nat} {i : Nat} (hi : i < 2 ^ 31) (h : i < L.length) : rdI L (nI i) = nI (L.getD i 0) := by unfold rdI; rw [nI_clamp hi, if_pos h]
theorem rd_out {L : List Nat} {i : Nat} (hi : i < 2 ^ 31) (h : ¬ i < L.length) : rdI L (nI i) = -1 := by unfold rdI; rw [nI_clamp hi, if_neg h]
theorem txt_len {r q : Nat → Int32} (h1 : nmB 10 (r 1)) (h2 : nmB 10 (r 2)) (h3 : nmB 10 (r 3)) (h4 : nmB 10 (r 4)) : (txt r q).length ≤ 34 := by
  have a1 := prt_len1 (c := 116) h1
  have a2 := prt_len1 (c := 115) h2
  have a3 := prt_len1 (c := 97) h3
  have a4 := prt_len1 (c := 108) h4
  have a5 := prt_len4 (c := 98) (x := r 5)
  have a6 : (if r 6 = -1 then [] else vtl (r 6)).length ≤ 1 := by split <;> simp [vtl_len]
  have a7 : (if r 0 = 2 then rpl (q 0) ++ rpl (q 1) ++ rpl (q 2) else []).length ≤ 15 := by
    have b0 := rpl_len (x := q 0)
    have b1 := rpl_len (x := q 1)
    have b2 := rpl_len (x := q 2)
    split <;> simp only [List.length_append, List.length_nil] <;> omega
  unfold txt
  simp only [List.length_append, List.length_cons, List.length_nil]
  omega
