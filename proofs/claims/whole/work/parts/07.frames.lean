/-! What the methods leave alone. -/
section OFF
variable {d : DD} {c : Nat}
theorem lpFill_off {cn n : Nat} {v : Int32} (h : c ≠ cn) : lpFill d cn v n c = d c := by
  induction n with
  | zero => rfl
  | succ k ih => rw [lpFill, up2_off h, ih]
theorem f_fill_off {cn n : Nat} {v : Int32} (h : c ≠ cn) : f_fill d cn n v c = d c := lpFill_off h
theorem f_cl7_off {j : Nat} {kd t : Int32} (h : c ≠ j + 420) : f_cl7 d j kd t c = d c := by
  unfold f_cl7
  rw [up2_off h, up2_off h, up2_off h, up2_off h, up2_off h, up2_off h, up2_off h]
theorem f_clear_off {j : Nat} {kd t : Int32} (h1 : c ≠ j + 420) (h2 : c ≠ j + 490) : f_clear d j kd t c = d c := (f_fill_off h2).trans (f_cl7_off h1)
theorem f_cp3_off {ca cb n : Nat} (h : c ≠ cb) : f_cp3 d ca cb n c = d c := funext fun k => by simp [f_cp3, h]
theorem f_cm7_off {a b : Nat} (h : c ≠ b + 420) : f_cm7 d a b c = d c := by
  unfold f_cm7
  rw [up2_off h, up2_off h, up2_off h, up2_off h, up2_off h, up2_off h, up2_off h]
theorem f_copy_off {a b : Nat} (h1 : c ≠ b + 420) (h2 : c ≠ b + 490) : f_copy d a b c = d c := (f_cp3_off h2).trans (f_cm7_off h1)
theorem lpUnlock_off {s k : Nat} {t : Int32} (h : c ≠ s + 30) : lpUnlock d s t k c = d c := by
  induction k with
  | zero => rfl
  | succ k ih =>
    rw [lpUnlock]
    split
    · rw [up2_off h, ih]
    · exact ih
theorem f_abort_off {s t : Nat} (h1 : c ≠ s + 30) (h2 : c ≠ s + 40) : f_abort d s t c = d c := (lpUnlock_off h1).trans (up2_off h2)
theorem lpDrop_off {i a : Nat} (h : c ≠ i + 220) : lpDrop d i a c = d c := by
  induction a with
  | zero => rfl
  | succ k ih => rw [lpDrop, up2_off h, ih]
theorem lpKR_off {i a s : Nat} (h : c ≠ 4 * i + a + 280) : lpKR d i a s c = d c := by
  induction s with
  | zero => rfl
  | succ k ih => rw [lpKR, up2_off h, ih]
theorem lpProm_off {a t i : Nat} {mem b : Int32} (h : c ≠ 8 * a + t + 130) : lpProm d a t mem b i c = d c := by
  induction i with
  | zero => rfl
  | succ k ih =>
    rw [lpProm]
    split
    · exact ih
    · rw [up2_off h, ih]
theorem f_hear_off {i a s : Nat} {b v : Int32} (h : c ≠ 4 * i + a + 350) : f_hear d i a s b v c = d c := by
  unfold f_hear
  split
  · rfl
  · exact up2_off h
end OFF
/-- the net is sound: how many there are, and the row is a row of different messages -/
def NetOK (d : DD) : Prop := (∃ z : Nat, z ≤ 60 ∧ d 5 1 = nI z) ∧ (∀ j, j < 60 → ∃ q, q < 60 ∧ d 8 j = nI q) ∧ ∀ i j, i < 60 → j < 60 → d 8 i = d 8 j → i = j
def f_send (d : DD) : DD := if d 5 1 < 60 then up2 (f_copy d 60 (d 8 (d 5 1).toNatClampNeg).toNatClampNeg) 5 1 (d 5 1 + 1) else up2 d 5 2 (d 5 2 + 1)
theorem NetOK_keep {d d' : DD} (h : NetOK d) (h5 : d' 5 = d 5) (h8 : d' 8 = d 8) : NetOK d' := by
  unfold NetOK at *
  rw [h5, h8]
  exact h
theorem f_send_lt {d : DD} {z q : Nat} (hz : z < 60) (hq : q < 60) (fz : d 5 1 = nI z) (fq : d 8 z = nI q) : f_send d = up2 (f_copy d 60 q) 5 1 (nI (z + 1)) := by
  unfold f_send
  rw [fz, nI_1, nI_clamp (by omega), fq, nI_clamp (by omega), if_pos (show nI z < (60 : Int32) from nI_lt (b := 60) hz (by decide))]
theorem f_send_full {d : DD} (fz : d 5 1 = nI 60) : f_send d = up2 d 5 2 (d 5 2 + 1) := by
  unfold f_send
  rw [fz, if_neg (by decide)]
theorem f_send_off {d : DD} {c : Nat} (hN : NetOK d) (h5 : c ≠ 5) (h : c < 420 ∨ (480 ≤ c ∧ c < 490) ∨ 550 ≤ c) : f_send d c = d c := by
  obtain ⟨⟨z, hz, fz⟩, hr, -⟩ := hN
  rcases Nat.lt_or_ge z 60 with h0 | h0
  · obtain ⟨q, hq, fq⟩ := hr z h0
    rw [f_send_lt h0 hq fz fq, up2_off h5, f_copy_off (by omega) (by omega)]
  · rw [f_send_full (by rw [fz, show z = 60 by omega]), up2_off h5]
theorem NetOK_send {d : DD} (hN : NetOK d) : NetOK (f_send d) := by
  have h8 : f_send d 8 = d 8 := f_send_off hN (by decide) (by decide)
  obtain ⟨⟨z, hz, fz⟩, hr, hi⟩ := hN
  refine ⟨?_, by rw [h8]; exact hr, by rw [h8]; exact hi⟩
  rcases Nat.lt_or_ge z 60 with h0 | h0
  · obtain ⟨q, hq, fq⟩ := hr z h0
    refine ⟨z + 1, h0, ?_⟩
    rw [f_send_lt h0 hq fz fq, up2_self]
  · refine ⟨60, Nat.le_refl _, ?_⟩
    have e : z = 60 := by omega
    subst e
    rw [f_send_full fz, up2_nk (by decide), fz]
