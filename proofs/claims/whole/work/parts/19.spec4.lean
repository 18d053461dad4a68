/-! delivering, losing; up -/
def MsgOK (n : Nat) (d : DD) (j : Nat) : Prop :=
  (d (j + 420) 0 = 0 ∧ ∃ s t : Nat, s < 3 ∧ t < 8 ∧ d (j + 420) 1 = nI t ∧ d (j + 420) 2 = nI s) ∨
  (d (j + 420) 0 = 1 ∧ ∃ a t : Nat, a < n ∧ t < 8 ∧ d (j + 420) 1 = nI t ∧ d (j + 420) 3 = nI a) ∨
  (d (j + 420) 0 = 2 ∧ ∃ ld t a : Nat, ld < 2 ∧ t < 8 ∧ a < n ∧ d (j + 420) 1 = nI t ∧ d (j + 420) 3 = nI a ∧ d (j + 420) 4 = nI ld) ∨
  (d (j + 420) 0 = 3 ∧ ∃ a t s : Nat, a < n ∧ t < 8 ∧ s < 3 ∧ d (j + 420) 1 = nI t ∧ d (j + 420) 2 = nI s ∧ d (j + 420) 3 = nI a) ∨
  (d (j + 420) 0 = 4 ∧ ∃ ld t a s : Nat, ld < 2 ∧ t < 8 ∧ a < n ∧ s < 3 ∧ d (j + 420) 1 = nI t ∧ d (j + 420) 2 = nI s ∧ d (j + 420) 3 = nI a ∧ d (j + 420) 4 = nI ld) ∨
  (d (j + 420) 0 = 5 ∧ ∃ s t : Nat, s < 3 ∧ t < 8 ∧ d (j + 420) 1 = nI t ∧ d (j + 420) 2 = nI s)
theorem MsgOK_keep {n j : Nat} {d d' : DD} (h : MsgOK n d j) (e : d' (j + 420) = d (j + 420)) : MsgOK n d' j := by
  unfold MsgOK at *
  rw [e]
  exact h
theorem MsgOK_to {n i j : Nat} {d d' : DD} (h : MsgOK n d i) (e : ∀ k, k < 7 → d' (j + 420) k = d (i + 420) k) : MsgOK n d' j := by
  unfold MsgOK at *
  rw [e 0 (by decide), e 1 (by decide), e 2 (by decide), e 3 (by decide), e 4 (by decide)]
  exact h
theorem f_copy_msg {d : DD} {a b : Nat} : ∀ k, k < 7 → f_copy d a b (b + 420) k = d (a + 420) k := by
  intro k hk
  have h : f_copy d a b (b + 420) k = f_cm7 d a b (b + 420) k := congrFun (f_cp3_off (by omega)) k
  rw [h]
  rcases (show k = 0 ∨ k = 1 ∨ k = 2 ∨ k = 3 ∨ k = 4 ∨ k = 5 ∨ k = 6 by omega) with rfl | rfl | rfl | rfl | rfl | rfl | rfl <;> simp [f_cm7, up2]
def f_arrive (d : DD) (n : Nat) (mj : Int32) : DD :=
  if d 481 0 = 0 then (if hasI (d 4 0) (cl (d 481 2)) = 0 then d else f_arrP d n (cl (d 481 2)) (cl (d 481 1)))
  else if d 481 0 = 1 then (if hasI (d 4 1) (cl (d 481 3)) = 0 then d else f_arrA d (cl (d 481 3)) (cl (d 481 1)) (d 481 5))
  else if d 481 0 = 2 then (if hasI (d 4 2) (cl (d 481 4)) = 0 then d else f_arrR d n (cl (d 481 4) * 8 + cl (d 481 1)) (cl (d 481 3)) (cl (d 481 1)) (d 481 5) mj)
  else if d 481 0 = 3 then (if hasI (d 4 1) (cl (d 481 3)) = 0 then d else f_arrV d (cl (d 481 3)) (cl (d 481 1)) (cl (d 481 2)) (d 481 5) (d 481 6))
  else if d 481 0 = 4 then (if hasI (d 4 2) (cl (d 481 4)) = 0 then d else f_arrT d n (cl (d 481 4) * 8 + cl (d 481 1)) (cl (d 481 3)) (cl (d 481 2)) (cl (d 481 1)) (d 481 5) (d 481 6) mj)
  else (if hasI (d 4 0) (cl (d 481 2)) = 0 then d else f_arrO d (cl (d 481 2)) (cl (d 481 1)) (d 481 6))
theorem shR_at {d : DD} {i j : Nat} : ∀ m, shR d i m 8 j = if i ≤ j ∧ j < i + m then d 8 (j + 1) else d 8 j
  | 0 => by rw [if_neg (by omega)]; rfl
  | m + 1 => by
    by_cases h : j = i + m
    · subst h
      rw [shR, up2_self, shR_at m, if_neg (by omega), if_pos (by omega)]
    · rw [shR, up2_nk h, shR_at m]
      by_cases h2 : i ≤ j ∧ j < i + m
      · rw [if_pos h2, if_pos (by omega)]
      · rw [if_neg h2, if_neg (by omega)]
def rmI (i z j : Nat) : Nat := if j < i then j else if j < z - 1 then j + 1 else if j = z - 1 then i else j
theorem f_rem_row {d : DD} {i z q j : Nat} (hiz : i < z) (fq : d 8 i = nI q) : f_remove d i z q 8 j = d 8 (rmI i z j) := by
  unfold f_remove rmI
  by_cases h : j = z - 1
  · subst h
    rw [up2_self, if_neg (by omega), if_neg (by omega), if_pos rfl, fq]
  · rw [up2_nk h, up2_nc (by decide), shR_at]
    by_cases h1 : j < i
    · rw [if_pos h1, if_neg (by omega)]
    · rw [if_neg h1]
      by_cases h2 : j < z - 1
      · rw [if_pos h2, if_pos (by omega)]
      · rw [if_neg h2, if_neg h, if_neg (by omega)]
theorem rmI_lt {i z j : Nat} (hiz : i < z) (hz : z ≤ 60) (hj : j < 60) : rmI i z j < 60 := by
  unfold rmI
  split
  · omega
  · split
    · omega
    · split <;> omega
theorem rmI_c (i z j : Nat) : (j < i ∧ rmI i z j = j) ∨ (i ≤ j ∧ j < z - 1 ∧ rmI i z j = j + 1) ∨ (i ≤ j ∧ j = z - 1 ∧ rmI i z j = i) ∨ (i ≤ j ∧ ¬ j < z - 1 ∧ j ≠ z - 1 ∧ rmI i z j = j) := by
  unfold rmI
  by_cases h1 : j < i
  · exact Or.inl ⟨h1, if_pos h1⟩
  · rw [if_neg h1]
    by_cases h2 : j < z - 1
    · exact Or.inr (Or.inl ⟨by omega, h2, if_pos h2⟩)
    · rw [if_neg h2]
      by_cases h3 : j = z - 1
      · exact Or.inr (Or.inr (Or.inl ⟨by omega, h3, if_pos h3⟩))
      · exact Or.inr (Or.inr (Or.inr ⟨by omega, h2, h3, if_neg h3⟩))
theorem rmI_inj {i z j k : Nat} (hiz : i < z) (h : rmI i z j = rmI i z k) : j = k := by
  rcases rmI_c i z j with ⟨h1, e1⟩ | ⟨h1, h2, e1⟩ | ⟨h1, h2, e1⟩ | ⟨h1, h2, h3, e1⟩ <;> rcases rmI_c i z k with ⟨g1, e2⟩ | ⟨g1, g2, e2⟩ | ⟨g1, g2, e2⟩ | ⟨g1, g2, g3, e2⟩ <;> rw [e1, e2] at h <;> omega
theorem f_remove_size {d : DD} {i z q : Nat} : f_remove d i z q 5 1 = nI (z - 1) := (up2_nc (by decide)).trans up2_self
theorem f_remove_off {d : DD} {i z q c : Nat} (h5 : c ≠ 5) (h8 : c ≠ 8) : f_remove d i z q c = d c := by
  unfold f_remove
  rw [up2_off h8, up2_off h5, shR_off h8]
theorem NetOK_remove {d : DD} {i z q : Nat} (hN : NetOK d) (hiz : i < z) (hz : z ≤ 60) (fq : d 8 i = nI q) : NetOK (f_remove d i z q) := by
  obtain ⟨-, hr, hi⟩ := hN
  refine ⟨⟨z - 1, by omega, f_remove_size⟩, fun j hj => ?_, fun j k hj hk h => ?_⟩
  · rw [f_rem_row hiz fq]
    exact hr _ (rmI_lt hiz hz hj)
  · rw [f_rem_row hiz fq, f_rem_row hiz fq] at h
    exact rmI_inj hiz (hi _ _ (rmI_lt hiz hz hj) (rmI_lt hiz hz hk) h)
def f_picked (d : DD) (i : Nat) : DD := f_copy d (cl (d 8 i)) 61
def f_taken (d : DD) (i : Nat) (stays : Int32) : DD := if stays = 0 then f_remove (f_picked d i) i (cl (d 5 1)) (cl (d 8 i)) else f_picked d i
def upF (d : DD) (n k w : Nat) (on : Int32) : DD := if on = 0 then (if k = 0 then lpAW (up2 d 4 k (woutI (d 4 k) w)) w 8 else if k = 2 then lpStop (up2 d 4 k (woutI (d 4 k) w)) n w 8 else up2 d 4 k (woutI (d 4 k) w)) else up2 d 4 k (withI (d 4 k) w)
def upXo (n : Nat) (k w : Int32) : Option String := xs (rgX k (nI 3)) (rgX w (hmI n k))
