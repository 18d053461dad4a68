/-! What arrives does the same on both sides: stores and acceptors. -/
theorem CR_unlock {n B : Nat} {d m : DD} {s t : Nat} (hn : n ≤ 3) (hs : s < 3) (h : CR n B d m) : ∀ k, k ≤ 4 → CR n B (lpUnlock d s (nI t) k) (lpMU m (nI t) s k)
  | 0, _ => h
  | k + 1, hk => by
    have ih := CR_unlock (t := t) hn hs h k (by omega)
    have e := (ih.1.2.2.2.2.2.1 s k hs (by omega)).1
    unfold lpUnlock lpMU
    rw [e]
    split
    · exact CR_u_loc hn ih hs (by omega) ⟨rfl, Or.inl rfl⟩
    · exact ih
theorem CR_abort {n B : Nat} {d m : DD} {s t : Nat} (hn : n ≤ 3) (hs : s < 3) (ht : t < 8) (h : CR n B d m) : CR n B (f_abort d s t) (m_abort m t s) :=
  CR_unlock hn hs (CR_u_sta hn h hs ht ⟨rfl, 4, by decide, rfl⟩) 4 (by decide)
theorem CR_sta {n B : Nat} {d m : DD} (h : CR n B d m) {s t : Nat} (hs : s < 3) (ht : t < 8) : d (s + 40) t = m 610 (3 * t + s) ∧ ∃ q : Nat, q ≤ 4 ∧ d (s + 40) t = nI q := h.1.2.2.2.2.2.2.1 s t hs ht
theorem has_bit : ∀ q : Nat, q < 16 → ∀ k : Nat, k < 4 → (hasI (nI q) k = 0 ↔ (nI q >>> (nI k &&& 31)) &&& 1 = 0) := by decide +kernel
theorem CR_cm {n B : Nat} {d m : DD} {s t : Nat} (hn : n ≤ 3) (hs : s < 3) (ht : t < 8) (h : CR n B d m) : ∀ k, k ≤ 4 → CR n B (lpCommit d s t k) (lpMC m t s k)
  | 0, _ => h
  | k + 1, hk => by
    have ih := CR_cm hn hs ht h k (by omega)
    obtain ⟨e, q, hq, fq⟩ := ih.1.2.2.2.2.2.2.2.1 s t hs ht
    have e2 := ih.1.2.2.2.2.2.2.2.2.1 s t k hs ht (by omega)
    have hb := has_bit q hq k (by omega)
    unfold lpCommit lpMC
    rw [← e, fq]
    by_cases c : hasI (nI q) k = 0
    · rw [if_pos c, if_pos (hb.mp c)]
      exact ih
    · rw [if_neg c, if_neg (fun g => c (hb.mpr g))]
      exact CR_u_val hn ih hs (by omega) e2
theorem CR_commit {n B : Nat} {d m : DD} {s t : Nat} (hn : n ≤ 3) (hs : s < 3) (ht : t < 8) (h : CR n B d m) : CR n B (f_commit d s t) (m_commit m t s) :=
  CR_unlock hn hs (CR_u_sta hn (CR_cm hn hs ht h 4 (by decide)) hs ht ⟨rfl, 3, by decide, rfl⟩) 4 (by decide)
theorem CR_prep {n B : Nat} {d m : DD} {s t : Nat} (hn : n ≤ 3) (hs : s < 3) (ht : t < 8) (h : CR n B d m) : CR n B (f_arrP d n s t) (m_prep m n t s) := by
  unfold f_arrP m_prep
  rw [← (CR_sta h hs ht).1]
  have h2 := CR_u_sta hn h hs ht (x := 2) (y := 2) ⟨rfl, 2, by decide, rfl⟩
  have h4 := CR_abort hn hs ht h
  split
  · exact CR_sv (b := 0) (v := 1) hn ht hs (Nat.zero_le _) (by decide) h2 n (Nat.le_refl _)
  · split
    · exact CR_sv (b := 0) (v := 0) hn ht hs (Nat.zero_le _) (by decide) h4 n (Nat.le_refl _)
    · split
      · exact CR_sv (b := 0) (v := 0) hn ht hs (Nat.zero_le _) (by decide) h4 n (Nat.le_refl _)
      · exact h
theorem CR_fin {n B : Nat} {d m : DD} {s t v : Nat} (hn : n ≤ 3) (hs : s < 3) (ht : t < 8) (hv : v ≤ 1) (h : CR n B d m) : CR n B (f_arrO d s t (nI v)) (m_fin m t s (nI v)) := by
  obtain ⟨e, q, hq, fq⟩ := CR_sta h hs ht
  have h3 := CR_commit hn hs ht h
  have h4 := CR_abort hn hs ht h
  unfold f_arrO m_fin openI
  rw [← e, fq]
  rcases (show v = 0 ∨ v = 1 by omega) with rfl | rfl <;> rcases (show q = 0 ∨ q = 1 ∨ q = 2 ∨ q = 3 ∨ q = 4 by omega) with rfl | rfl | rfl | rfl | rfl
  · rw [if_neg (show ¬ nI 0 = 2 by decide), if_pos (show nI 0 = 0 by decide), if_neg (show ¬ (if nI 0 = 0 then (1 : Int32) else if nI 0 = 1 then 1 else 0) = 0 by decide), if_neg (show ¬ nI 0 = 2 by decide), if_neg (show ¬ (2 : Int32) < nI 0 by decide), if_pos (show nI 0 = 0 by decide)]
    exact h4
  · rw [if_neg (show ¬ nI 1 = 2 by decide), if_pos (show nI 0 = 0 by decide), if_neg (show ¬ (if nI 1 = 0 then (1 : Int32) else if nI 1 = 1 then 1 else 0) = 0 by decide), if_neg (show ¬ nI 1 = 2 by decide), if_neg (show ¬ (2 : Int32) < nI 1 by decide), if_pos (show nI 0 = 0 by decide)]
    exact h4
  · rw [if_pos (show nI 2 = 2 by decide), if_neg (show ¬ nI 0 = 1 by decide), if_pos (show nI 0 = 0 by decide), if_pos (show nI 2 = 2 by decide), if_neg (show ¬ nI 0 = 1 by decide), if_neg (show ¬ (2 : Int32) < nI 2 by decide), if_pos (show nI 0 = 0 by decide)]
    exact h4
  · rw [if_neg (show ¬ nI 3 = 2 by decide), if_pos (show nI 0 = 0 by decide), if_pos (show (if nI 3 = 0 then (1 : Int32) else if nI 3 = 1 then 1 else 0) = 0 by decide), if_neg (show ¬ nI 3 = 2 by decide), if_pos (show (2 : Int32) < nI 3 by decide)]
    exact h
  · rw [if_neg (show ¬ nI 4 = 2 by decide), if_pos (show nI 0 = 0 by decide), if_pos (show (if nI 4 = 0 then (1 : Int32) else if nI 4 = 1 then 1 else 0) = 0 by decide), if_neg (show ¬ nI 4 = 2 by decide), if_pos (show (2 : Int32) < nI 4 by decide)]
    exact h
  · rw [if_neg (show ¬ nI 0 = 2 by decide), if_neg (show ¬ nI 1 = 0 by decide), if_neg (show ¬ nI 0 = 2 by decide), if_neg (show ¬ (2 : Int32) < nI 0 by decide), if_neg (show ¬ nI 1 = 0 by decide)]
    exact h
  · rw [if_neg (show ¬ nI 1 = 2 by decide), if_neg (show ¬ nI 1 = 0 by decide), if_neg (show ¬ nI 1 = 2 by decide), if_neg (show ¬ (2 : Int32) < nI 1 by decide), if_neg (show ¬ nI 1 = 0 by decide)]
    exact h
  · rw [if_pos (show nI 2 = 2 by decide), if_pos (show nI 1 = 1 by decide), if_pos (show nI 2 = 2 by decide), if_pos (show nI 1 = 1 by decide)]
    exact h3
  · rw [if_neg (show ¬ nI 3 = 2 by decide), if_neg (show ¬ nI 1 = 0 by decide), if_neg (show ¬ nI 3 = 2 by decide), if_pos (show (2 : Int32) < nI 3 by decide)]
    exact h
  · rw [if_neg (show ¬ nI 4 = 2 by decide), if_neg (show ¬ nI 1 = 0 by decide), if_neg (show ¬ nI 4 = 2 by decide), if_pos (show (2 : Int32) < nI 4 by decide)]
    exact h
/-- acceptors -/
theorem CR_abv {n B : Nat} {d m : DD} {a t : Nat} {b : Int32} (hn : n ≤ 3) (ha : a < n) (ht : t < 8) (h : CR n B d m) : ∀ j, j ≤ 3 → (abvI d a t (d 6 t) b j = 0 ↔ abvM m a t b j = 0)
  | 0, _ => ⟨fun _ => rfl, fun _ => rfl⟩
  | j + 1, hj => by
    have ih := CR_abv (b := b) hn ha ht h j (by omega)
    have hm := CR_mem h ht (show j < 3 by omega)
    have hp : d (8 * a + t + 130) j = m 613 (24 * a + 3 * t + j) := h.1.2.2.2.2.2.2.2.2.2.1 a t j ha ht (by omega)
    unfold abvI abvM
    rw [← hp]
    by_cases c0 : abvM m a t b j = 0
    · rw [if_pos c0]
      by_cases c1 : hasI (d 6 t) j = 0
      · rw [if_pos c1, if_pos (hm.mp c1), ih]
        exact ⟨fun _ => rfl, fun _ => c0⟩
      · rw [if_neg c1, if_neg (fun g => c1 (hm.mpr g))]
        by_cases c2 : d (8 * a + t + 130) j ≤ b
        · rw [if_pos c2, if_pos c2, ih]
          exact ⟨fun _ => rfl, fun _ => c0⟩
        · rw [if_neg c2, if_neg c2]
    · rw [if_neg c0]
      refine ⟨fun g => ?_, fun g => absurd g (by decide)⟩
      by_cases c1 : hasI (d 6 t) j = 0
      · rw [if_pos c1] at g
        exact absurd (ih.mp g) c0
      · rw [if_neg c1] at g
        by_cases c2 : d (8 * a + t + 130) j ≤ b
        · rw [if_pos c2] at g
          exact absurd (ih.mp g) c0
        · rw [if_neg c2] at g
          exact absurd g (by decide)
theorem CR_prom {n B : Nat} {d m : DD} {a t : Nat} {b : Int32} (hn : n ≤ 3) (ha : a < n) (ht : t < 8) (h : CR n B d m) : ∀ j, j ≤ 3 → CR n B (lpProm d a t (d 6 t) b j) (lpMP m a t b j)
  | 0, _ => h
  | j + 1, hj => by
    have ih := CR_prom (b := b) hn ha ht h j (by omega)
    have hm := CR_mem ih ht (show j < 3 by omega)
    rw [show lpProm d a t (d 6 t) b j 6 = d 6 from lpProm_off (by omega)] at hm
    unfold lpProm lpMP
    by_cases c : hasI (d 6 t) j = 0
    · rw [if_pos c, if_pos (hm.mp c)]
      exact ih
    · rw [if_neg c, if_neg (fun g => c (hm.mpr g))]
      exact CR_u_pro hn ih ha ht (by omega) rfl
theorem lpRp_550 {d : DD} {a t : Nat} : ∀ j s, lpRp d a t j 550 s = if s < j ∧ ¬ hasI (d 6 t) s = 0 then d (8 * a + t + 160) s else d 550 s
  | 0, s => by rw [if_neg (by omega)]; rfl
  | j + 1, s => by
    have ih := lpRp_550 (d := d) (a := a) (t := t) j
    have e6 : lpRp d a t j 6 = d 6 := lpRp_off (by decide)
    have ea : 8 * a + t + 160 ≠ 550 → lpRp d a t j (8 * a + t + 160) = d (8 * a + t + 160) := fun h9 => lpRp_off h9
    unfold lpRp
    rw [e6]
    by_cases c : hasI (d 6 t) j = 0
    · rw [if_pos c, ih]
      by_cases hs : s < j ∧ ¬ hasI (d 6 t) s = 0
      · rw [if_pos hs, if_pos ⟨by omega, hs.2⟩]
      · rw [if_neg hs, if_neg (fun g => hs ⟨by
          rcases (show s < j ∨ s = j by omega) with h | h
          · exact h
          · subst h
            exact absurd c g.2, g.2⟩)]
    · rw [if_neg c]
      by_cases e : s = j
      · subst e
        rw [up2_self, if_pos ⟨by omega, c⟩]
        by_cases h9 : 8 * a + t + 160 = 550
        · rw [h9, ih, if_neg (by omega)]
        · rw [ea h9]
      · rw [up2_nk e, ih]
        by_cases hs : s < j ∧ ¬ hasI (d 6 t) s = 0
        · rw [if_pos hs, if_pos ⟨by omega, hs.2⟩]
        · rw [if_neg hs, if_neg (fun g => hs ⟨by omega, g.2⟩)]
theorem lpMR_off {d : DD} {a t z c : Nat} (h : c ≠ 624) : ∀ j, lpMR d a t z j c = d c
  | 0 => rfl
  | j + 1 => by rw [lpMR, up2_off h, up2_off h, lpMR_off h j]
theorem lpMR_at {d : DD} {a t z : Nat} (hz : 1 ≤ z) : ∀ j, j ≤ 3 → ∀ k, lpMR d a t z j 624 k = if 13 * z - 6 ≤ k ∧ k < 13 * z - 6 + j then (if memI (d 608 t) (k - (13 * z - 6)) = 0 then -1 else d 614 (24 * a + 3 * t + (k - (13 * z - 6)))) else if 13 * z - 3 ≤ k ∧ k < 13 * z - 3 + j then d 615 (24 * a + 3 * t + (k - (13 * z - 3))) else d 624 k
  | 0, _, k => by rw [if_neg (by omega), if_neg (by omega)]; rfl
  | j + 1, hj, k => by
    have ih := lpMR_at (d := d) (a := a) (t := t) hz j (by omega) k
    rw [lpMR, lpMR_off (by decide) j, lpMR_off (by decide) j, lpMR_off (by decide) j]
    by_cases h1 : k = 13 * z - 3 + j
    · subst h1
      rw [up2_self, if_neg (show ¬ (13 * z - 6 ≤ 13 * z - 3 + j ∧ 13 * z - 3 + j < 13 * z - 6 + (j + 1)) by omega), if_pos (show 13 * z - 3 ≤ 13 * z - 3 + j ∧ 13 * z - 3 + j < 13 * z - 3 + (j + 1) by omega), show 13 * z - 3 + j - (13 * z - 3) = j by omega]
    · rw [up2_nk h1]
      by_cases h2 : k = 13 * z - 6 + j
      · subst h2
        rw [up2_self, if_pos (show 13 * z - 6 ≤ 13 * z - 6 + j ∧ 13 * z - 6 + j < 13 * z - 6 + (j + 1) by omega), show 13 * z - 6 + j - (13 * z - 6) = j by omega]
      · rw [up2_nk h2, ih]
        by_cases h3 : 13 * z - 6 ≤ k ∧ k < 13 * z - 6 + j
        · rw [if_pos h3, if_pos (show 13 * z - 6 ≤ k ∧ k < 13 * z - 6 + (j + 1) by omega)]
        · rw [if_neg h3, if_neg (show ¬ (13 * z - 6 ≤ k ∧ k < 13 * z - 6 + (j + 1)) by omega)]
          by_cases h4 : 13 * z - 3 ≤ k ∧ k < 13 * z - 3 + j
          · rw [if_pos h4, if_pos (show 13 * z - 3 ≤ k ∧ k < 13 * z - 3 + (j + 1) by omega)]
          · rw [if_neg h4, if_neg (show ¬ (13 * z - 3 ≤ k ∧ k < 13 * z - 3 + (j + 1)) by omega)]
theorem fmod2 {b : Nat} (hb : b < 2 ^ 31) : fmI (nI b) 2 = nI (b % 2) ∧ nI b - nI b / 2 * 2 = nI (b % 2) := by
  have h2 : nI b - nI b / 2 * 2 = nI (b % 2) := pk_rem (d := 2) hb (by decide) (by decide)
  refine ⟨?_, h2⟩
  unfold fmI
  rw [h2]
  split
  · rfl
  · split
    · rfl
    · rename_i h0 _
      refine absurd ?_ h0
      have hp : 0 ≤ nI b := nI_pos' hb
      rw [Int32.le_iff_toBitVec_sle] at hp ⊢
      have hx : (nI b ^^^ 2).toBitVec = (nI b).toBitVec ^^^ 2#32 := rfl
      rw [hx]
      have hz : (0 : Int32).toBitVec = 0#32 := rfl
      rw [hz] at hp ⊢
      revert hp
      generalize (nI b).toBitVec = w
      intro hp
      rw [BitVec.sle_iff_toInt_le] at hp ⊢
      have h3 : w.msb = false := by
        rw [BitVec.msb_eq_toInt]
        simp at hp ⊢
        omega
      have h4 : (w ^^^ 2#32).msb = false := by
        rw [BitVec.msb_xor, h3]
        rfl
      rw [BitVec.msb_eq_toInt] at h4
      simp at h4 ⊢
      omega
theorem CR_rep1 {n B : Nat} {d m : DD} {a t b : Nat} (hn : n ≤ 3) (ha : a < n) (ht : t < 8) (hb1 : 1 ≤ b) (hb : b ≤ B) (hB : B < 1000000) (h : CR n B d m) : CR n B (f_reply d a t (nI b)) (m_ask2 m a t (nI b)) := by
  obtain ⟨f1, f2⟩ := fmod2 (b := b) (by omega)
  have e6 : f_rp0 d a t (nI b) 6 = d 6 := f_rp0_off (by decide) (by decide)
  have ea : f_rp0 d a t (nI b) (8 * a + t + 160) = d (8 * a + t + 160) := f_rp0_off (by omega) (by omega)
  have e480 : lpRp (f_rp0 d a t (nI b)) a t 3 480 = f_rp0 d a t (nI b) 480 := lpRp_off (by decide)
  obtain ⟨p0, p1, p2, p3, p4, p5, p6⟩ := f_clear_480 (d := d) (kd := 2) (t := nI t)
  have g : ∀ k, k ≠ 3 → k ≠ 4 → k ≠ 5 → f_rp0 d a t (nI b) 480 k = f_clear d 60 2 (nI t) 480 k := fun k h3 h4 h5 => by
    unfold f_rp0
    rw [up2_nk h5, up2_nk h4, up2_nk h3]
  have g3 : f_rp0 d a t (nI b) 480 3 = nI a := by
    unfold f_rp0
    rw [up2_nk (by decide), up2_nk (by decide), up2_self]
  have g4 : f_rp0 d a t (nI b) 480 4 = nI (b % 2) := by
    unfold f_rp0
    rw [up2_nk (by decide), up2_self, f1]
  have g5 : f_rp0 d a t (nI b) 480 5 = nI b := by
    unfold f_rp0
    rw [up2_self]
  refine CR_sendG hn h (fun c h1 h2 => by rw [lpRp_off h2, f_rp0_off h1 h2]) (fun z hz gz => ?_) (fun gz => ?_)
  · unfold m_ask2
    rw [gz, if_neg (m_n60 hz), cl_nI (by omega), f2]
    obtain ⟨r0, r1, r2, r3, r4, r5, r6⟩ := m_put_at (m := m) (z := z) (kd := 82) (t := nI t) (s := -1) (a := nI a) (ld := nI (b % 2)) (b := nI b) (v := -1)
    have hlo : ∀ k, k < 7 → lpMR (m_put m z 82 (nI t) (-1) (nI a) (nI (b % 2)) (nI b) (-1)) a t (z + 1) 3 624 (13 * z + k) = m_put m z 82 (nI t) (-1) (nI a) (nI (b % 2)) (nI b) (-1) 624 (13 * z + k) := fun k hk => by
      rw [lpMR_at (by omega) 3 (by decide), if_neg (by omega), if_neg (by omega)]
    refine ⟨fun c h1 h2 => by rw [lpMR_off h2, m_put_off h1 h2], fun k hk => by rw [lpMR_off (by decide), m_put_mo hk], by rw [lpMR_off (by decide), m_put_sz], fun k hk => ?_, ?_, ?_, fun k k1 k2 => ?_, fun _ s hs => ?_⟩
    · rw [lpMR_at (by omega) 3 (by decide), if_neg (by omega), if_neg (by omega), m_put_lo hk]
    · rw [e480, g 0 (by decide) (by decide) (by decide), g 1 (by decide) (by decide) (by decide), g 2 (by decide) (by decide) (by decide), g3, g4, g5, g 6 (by decide) (by decide) (by decide), p0, p1, p2, p6]
      exact Or.inr (Or.inr (Or.inl ⟨rfl, ⟨t, ht, rfl⟩, rfl, ⟨a, ha, rfl⟩, ⟨b % 2, by omega, rfl⟩, ⟨b, hb1, hb, rfl⟩, rfl⟩))
    · rw [hlo 0 (by decide), e480, g 0 (by decide) (by decide) (by decide), p0]
      exact r0
    · rw [hlo k (by omega), e480]
      rcases (show k = 1 ∨ k = 2 ∨ k = 3 ∨ k = 4 ∨ k = 5 ∨ k = 6 by omega) with rfl | rfl | rfl | rfl | rfl | rfl
      · rw [g 1 (by decide) (by decide) (by decide), p1]; exact r1
      · rw [g 2 (by decide) (by decide) (by decide), p2]; exact r2
      · rw [g3]; exact r3
      · rw [g4]; exact r4
      · rw [g5]; exact r5
      · rw [g 6 (by decide) (by decide) (by decide), p6]; exact r6
    · have hm := CR_mem h ht hs
      have hk : PK B (d (8 * a + t + 160) s) (m 614 (24 * a + 3 * t + s)) (m 615 (24 * a + 3 * t + s)) := h.1.2.2.2.2.2.2.2.2.2.2.1 a t s ha ht hs
      rw [lpRp_550, e6, ea, lpMR_at (by omega) 3 (by decide), lpMR_at (by omega) 3 (by decide), if_pos (show 13 * (z + 1) - 6 ≤ 13 * z + (7 + s) ∧ 13 * z + (7 + s) < 13 * (z + 1) - 6 + 3 by omega), if_neg (show ¬ (13 * (z + 1) - 6 ≤ 13 * z + (10 + s) ∧ 13 * z + (10 + s) < 13 * (z + 1) - 6 + 3) by omega), if_pos (show 13 * (z + 1) - 3 ≤ 13 * z + (10 + s) ∧ 13 * z + (10 + s) < 13 * (z + 1) - 3 + 3 by omega), show 13 * z + (7 + s) - (13 * (z + 1) - 6) = s by omega, show 13 * z + (10 + s) - (13 * (z + 1) - 3) = s by omega, m_put_off (by decide) (by decide), m_put_off (by decide) (by decide), m_put_off (by decide) (by decide)]
      by_cases c : hasI (d 6 t) s = 0
      · rw [if_neg (fun q => q.2 c), if_pos (hm.mp c), show f_rp0 d a t (nI b) 550 s = -1 by
          unfold f_rp0
          rw [up2_nc (by decide), up2_nc (by decide), up2_nc (by decide)]
          unfold f_clear f_fill
          rcases (show s = 0 ∨ s = 1 ∨ s = 2 by omega) with rfl | rfl | rfl <;> simp [lpFill, up2]]
        exact PK_none
      · rw [if_pos ⟨hs, c⟩, if_neg (fun q => c (hm.mpr q))]
        exact hk
  · unfold m_ask2
    rw [gz, if_pos (show nI 60 = 60 from rfl)]
theorem CR_ask {n B : Nat} {d m : DD} {a t b : Nat} (hn : n ≤ 3) (ha : a < n) (ht : t < 8) (hb1 : 1 ≤ b) (hb : b ≤ B) (hB : B < 1000000) (h : CR n B d m) : CR n B (f_arrA d a t (nI b)) (m_ask m a t (nI b)) := by
  have hx := CR_abv (b := nI b) hn ha ht h 3 (by decide)
  unfold f_arrA m_ask
  by_cases c : abvI d a t (d 6 t) (nI b) 3 = 0
  · rw [if_pos c, if_pos (hx.mp c)]
    exact CR_rep1 hn ha ht hb1 hb hB (CR_prom hn ha ht h 3 (by decide))
  · rw [if_neg c, if_neg (fun g => c (hx.mpr g))]
    exact h
theorem CR_acc {n B : Nat} {d m : DD} {a t s b v : Nat} (hn : n ≤ 3) (ha : a < n) (ht : t < 8) (hs : s < 3) (hb : b ≤ B) (hv : v ≤ 1) (h : CR n B d m) : CR n B (f_arrV d a t s (nI b) (nI v)) (m_acc m a t s (nI b) (nI v)) := by
  have hp : d (8 * a + t + 130) s = m 613 (24 * a + 3 * t + s) := h.1.2.2.2.2.2.2.2.2.2.1 a t s ha ht hs
  unfold f_arrV m_acc
  rw [hp]
  split
  · exact CR_mt hn ht hs ha hb hv (CR_u_tak hn (CR_u_pro hn h ha ht hs rfl) ha ht hs (PK_mk hb hv)) 2 (by decide)
  · exact h
