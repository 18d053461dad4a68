/-! What the reference's methods do to d (its cells are 600 and on), in the order in which they do it. -/
theorem up2_up2 {d : DD} {c k : Nat} {v w : Int32} : up2 (up2 d c k v) c k w = up2 d c k w := by
  funext c' k'
  unfold up2
  split <;> rfl
def MN (d : DD) : Prop := ∃ z : Nat, z ≤ 60 ∧ d 600 25 = nI z
theorem MN_keep {d d' : DD} (h : MN d) (e : d' 600 25 = d 600 25) : MN d' := by
  obtain ⟨z, h1, h2⟩ := h
  exact ⟨z, h1, e.trans h2⟩
/-- how a call of the reference ends: with its answer, or with a number of what it throws -/
def mQ (d : DD) (C R : Int32) (D : DD) : Int32 → DD → Prop := fun r u => (C = 0 ∧ r = R ∧ u = D) ∨ (¬ C = 0 ∧ u = up2 (up2 d 600 0 0) 600 0 C)
theorem mq_ok {d D u : DD} {C R r : Int32} (h : C = 0) (e1 : r = R) (e2 : u = D) : mQ d C R D r u := Or.inl ⟨h, e1, e2⟩
theorem mq_no {d D u : DD} {C R r c : Int32} (h : C = c) (hc : ¬ c = 0) (e : u = up2 (up2 d 600 0 0) 600 0 c) : mQ d C R D r u := Or.inr ⟨by rw [h]; exact hc, by rw [h]; exact e⟩
def outI (x y : Int32) : Int32 := if x < 0 then 1 else if x < y then 0 else 1
theorem out_nat {x : Int32} {B : Nat} (hB : B < 2 ^ 31) (h : outI x (nI B) = 0) : ∃ j, j < B ∧ x = nI j := by
  unfold outI at h
  split at h
  · exact absurd h (by decide)
  · rename_i h0
    split at h
    · rename_i h1
      obtain ⟨j, hj, rfl⟩ := nI_of h0
      exact ⟨j, (nI_ltI hj hB).mp h1, rfl⟩
    · exact absurd h (by decide)
def mostI (x : Int32) : Int32 := if x = 1 then 1 else 2
def memI (x : Int32) (i : Nat) : Int32 := if (x >>> (nI i &&& 31)) &&& 1 = 0 then 0 else 1
def onF (x : Int32) : Nat → Int32
  | 0 => 0
  | k + 1 => onF x k + ((x >>> (nI k &&& 31)) &&& 1)
/-- sending -/
def m_put (d : DD) (z : Nat) (kd t s a ld b v : Int32) : DD := up2 (up2 (up2 (up2 (up2 (up2 (up2 (up2 d 624 (13 * z) kd) 624 (13 * z + 1) t) 624 (13 * z + 2) s) 624 (13 * z + 3) a) 624 (13 * z + 4) ld) 624 (13 * z + 5) b) 624 (13 * z + 6) v) 600 25 (nI (z + 1))
def m_snd (d : DD) (kd t s a ld b v : Int32) : DD := if d 600 25 = 60 then up2 d 600 26 (d 600 26 + 1) else m_put d (cl (d 600 25)) kd t s a ld b v
def m_sR (d : DD) : Int32 := if d 600 25 = 60 then 0 else 1
/-- e comes from d by sending alone -/
def MS (d e : DD) : Prop := MN e ∧ (∀ c, c ≠ 600 → c ≠ 624 → e c = d c) ∧ ∀ k, k ≠ 25 → k ≠ 26 → e 600 k = d 600 k
theorem MS_refl {d : DD} (h : MN d) : MS d d := ⟨h, fun _ _ _ => rfl, fun _ _ _ => rfl⟩
theorem MS_trans {d e f : DD} (h : MS d e) (g : MS e f) : MS d f := ⟨g.1, fun c h1 h2 => (g.2.1 c h1 h2).trans (h.2.1 c h1 h2), fun k h1 h2 => (g.2.2 k h1 h2).trans (h.2.2 k h1 h2)⟩
theorem m_put_off {d : DD} {z c : Nat} {kd t s a ld b v : Int32} (h1 : c ≠ 600) (h2 : c ≠ 624) : m_put d z kd t s a ld b v c = d c := by
  unfold m_put
  rw [up2_off h1, up2_off h2, up2_off h2, up2_off h2, up2_off h2, up2_off h2, up2_off h2, up2_off h2]
theorem m_put_mo {d : DD} {z k : Nat} {kd t s a ld b v : Int32} (h : k ≠ 25) : m_put d z kd t s a ld b v 600 k = d 600 k := by
  unfold m_put
  rw [up2_nk h, up2_nc (by decide), up2_nc (by decide), up2_nc (by decide), up2_nc (by decide), up2_nc (by decide), up2_nc (by decide), up2_nc (by decide)]
theorem m_put_sz {d : DD} {z : Nat} {kd t s a ld b v : Int32} : m_put d z kd t s a ld b v 600 25 = nI (z + 1) := up2_self
theorem m_60 {z : Nat} (hz : z ≤ 60) (h : ¬ nI z = 60) : z < 60 := by
  rcases Nat.lt_or_ge z 60 with g | g
  · exact g
  · exact absurd (show nI z = 60 by rw [show z = 60 by omega]; rfl) h
theorem m_n60 {z : Nat} (hz : z < 60) : ¬ nI z = 60 := fun h => by
  have := (nI_eq (a := z) (b := 60) (by omega) (by omega)).mp h
  omega
theorem m_snd_lt {d : DD} {z : Nat} {kd t s a ld b v : Int32} (hz : z < 60) (fz : d 600 25 = nI z) : m_snd d kd t s a ld b v = m_put d z kd t s a ld b v := by
  unfold m_snd
  rw [fz, if_neg (m_n60 hz), cl_nI (by omega)]
theorem m_snd_full {d : DD} {kd t s a ld b v : Int32} (fz : d 600 25 = nI 60) : m_snd d kd t s a ld b v = up2 d 600 26 (d 600 26 + 1) := by
  unfold m_snd
  rw [fz, if_pos (show nI 60 = 60 from rfl)]
theorem MS_snd {d : DD} {kd t s a ld b v : Int32} (h : MN d) : MS d (m_snd d kd t s a ld b v) := by
  obtain ⟨z, hz, fz⟩ := h
  rcases Nat.lt_or_ge z 60 with g | g
  · rw [m_snd_lt g fz]
    exact ⟨⟨z + 1, by omega, m_put_sz⟩, fun c h1 h2 => m_put_off h1 h2, fun k h1 _ => m_put_mo h1⟩
  · obtain rfl : z = 60 := by omega
    rw [m_snd_full fz]
    exact ⟨⟨60, by omega, (up2_nk (by decide)).trans fz⟩, fun c h1 _ => up2_off h1, fun k _ h2 => up2_nk h2⟩
def lpMV (d : DD) (t s b v : Int32) : Nat → DD
  | 0 => d
  | a + 1 => m_snd (lpMV d t s b v a) 86 t s (nI a) (-1) b v
theorem lpMV_ok {d : DD} {t s b v : Int32} (h : MN d) : ∀ n, MS d (lpMV d t s b v n)
  | 0 => MS_refl h
  | n + 1 => MS_trans (lpMV_ok h n) (MS_snd (lpMV_ok (t := t) (s := s) (b := b) (v := v) h n).1)
def lpMA (d : DD) (t b : Int32) : Nat → DD
  | 0 => d
  | a + 1 => m_snd (lpMA d t b a) 65 t (-1) (nI a) (-1) b (-1)
theorem lpMA_ok {d : DD} {t b : Int32} (h : MN d) : ∀ n, MS d (lpMA d t b n)
  | 0 => MS_refl h
  | n + 1 => MS_trans (lpMA_ok h n) (MS_snd (lpMA_ok (t := t) (b := b) h n).1)
def lpMRq (d : DD) (t : Nat) : Nat → DD
  | 0 => d
  | s + 1 => if memI (lpMRq d t s 608 t) s = 0 then lpMRq d t s else m_snd (lpMRq d t s) 80 (nI t) (nI s) (-1) (-1) (-1) (-1)
theorem lpMRq_ok {d : DD} {t : Nat} (h : MN d) : ∀ n, MS d (lpMRq d t n)
  | 0 => MS_refl h
  | n + 1 => by
    unfold lpMRq
    split
    · exact lpMRq_ok h n
    · exact MS_trans (lpMRq_ok h n) (MS_snd (lpMRq_ok h n).1)
def lpMO (d : DD) (t : Nat) (v : Int32) : Nat → DD
  | 0 => d
  | s + 1 => if memI (lpMO d t v s 608 t) s = 0 then lpMO d t v s else m_snd (lpMO d t v s) 79 (nI t) (nI s) (-1) (-1) (-1) v
theorem lpMO_ok {d : DD} {t : Nat} {v : Int32} (h : MN d) : ∀ n, MS d (lpMO d t v n)
  | 0 => MS_refl h
  | n + 1 => by
    unfold lpMO
    split
    · exact lpMO_ok h n
    · exact MS_trans (lpMO_ok h n) (MS_snd (lpMO_ok h n).1)
def lpMT (d : DD) (t s a b v : Int32) : Nat → DD
  | 0 => d
  | j + 1 => m_snd (lpMT d t s a b v j) 84 t s a (nI j) b v
theorem lpMT_ok {d : DD} {t s a b v : Int32} (h : MN d) : ∀ n, MS d (lpMT d t s a b v n)
  | 0 => MS_refl h
  | n + 1 => MS_trans (lpMT_ok h n) (MS_snd (lpMT_ok (t := t) (s := s) (a := a) (b := b) (v := v) h n).1)
/-- stores -/
def lpMU (d : DD) (t : Int32) (s : Nat) : Nat → DD
  | 0 => d
  | k + 1 => if lpMU d t s k 606 (4 * s + k) = t then up2 (lpMU d t s k) 606 (4 * s + k) (-1) else lpMU d t s k
theorem lpMU_off {d : DD} {t : Int32} {s c : Nat} (h : c ≠ 606) : ∀ n, lpMU d t s n c = d c
  | 0 => rfl
  | n + 1 => by
    unfold lpMU
    split
    · rw [up2_off h, lpMU_off h n]
    · exact lpMU_off h n
def m_abort (d : DD) (t s : Nat) : DD := lpMU (up2 d 610 (3 * t + s) 4) (nI t) s 4
theorem m_abort_off {d : DD} {t s c : Nat} (h1 : c ≠ 606) (h2 : c ≠ 610) : m_abort d t s c = d c := (lpMU_off h1 4).trans (up2_off h2)
def m_prep (d : DD) (n t s : Nat) : DD := if d 610 (3 * t + s) = 1 then lpMV (up2 d 610 (3 * t + s) 2) (nI t) (nI s) 0 1 n else if d 610 (3 * t + s) = 0 then lpMV (m_abort d t s) (nI t) (nI s) 0 0 n else if d 610 (3 * t + s) = 4 then lpMV (m_abort d t s) (nI t) (nI s) 0 0 n else d
def lpMC (d : DD) (t s : Nat) : Nat → DD
  | 0 => d
  | k + 1 => if (lpMC d t s k 611 (3 * t + s) >>> (nI k &&& 31)) &&& 1 = 0 then lpMC d t s k else up2 (lpMC d t s k) 605 (4 * s + k) (lpMC d t s k 612 (4 * (3 * t + s) + k))
def m_commit (d : DD) (t s : Nat) : DD := lpMU (up2 (lpMC d t s 4) 610 (3 * t + s) 3) (nI t) s 4
def m_fin (d : DD) (t s : Nat) (v : Int32) : DD := if d 610 (3 * t + s) = 2 then (if v = 1 then m_commit d t s else if 2 < d 610 (3 * t + s) then d else if v = 0 then m_abort d t s else d) else if 2 < d 610 (3 * t + s) then d else if v = 0 then m_abort d t s else d
/-- acceptors -/
def abvM (d : DD) (a t : Nat) (b : Int32) : Nat → Int32
  | 0 => 0
  | s + 1 => if abvM d a t b s = 0 then (if memI (d 608 t) s = 0 then 0 else if d 613 (24 * a + 3 * t + s) ≤ b then 0 else 1) else 1
theorem abvM_up {d : DD} {a t : Nat} {b : Int32} {j : Nat} (h : ¬ abvM d a t b j = 0) : ∀ m, j ≤ m → ¬ abvM d a t b m = 0
  | 0, hm => by obtain rfl : j = 0 := by omega
                exact h
  | m + 1, hm => by
    rcases Nat.lt_or_ge m j with g | g
    · obtain rfl : j = m + 1 := by omega
      exact h
    · rw [abvM, if_neg (abvM_up h m g)]
      decide
theorem abvM_hit {d : DD} {a t s : Nat} {b : Int32} (h0 : abvM d a t b s = 0) (hs : s < 3) (h1 : ¬ memI (d 608 t) s = 0) (h2 : ¬ d 613 (24 * a + 3 * t + s) ≤ b) : ¬ abvM d a t b 3 = 0 :=
  abvM_up (j := s + 1) (by rw [abvM, if_pos h0, if_neg h1, if_neg h2]; decide) 3 (by omega)
def lpMP (d : DD) (a t : Nat) (b : Int32) : Nat → DD
  | 0 => d
  | s + 1 => if memI (lpMP d a t b s 608 t) s = 0 then lpMP d a t b s else up2 (lpMP d a t b s) 613 (24 * a + 3 * t + s) b
theorem lpMP_off {d : DD} {a t c : Nat} {b : Int32} (h : c ≠ 613) : ∀ n, lpMP d a t b n c = d c
  | 0 => rfl
  | n + 1 => by
    unfold lpMP
    split
    · exact lpMP_off h n
    · rw [up2_off h, lpMP_off h n]
def lpMR (d : DD) (a t z : Nat) : Nat → DD
  | 0 => d
  | s + 1 => up2 (up2 (lpMR d a t z s) 624 (13 * z - 6 + s) (if memI (lpMR d a t z s 608 t) s = 0 then -1 else lpMR d a t z s 614 (24 * a + 3 * t + s))) 624 (13 * z - 3 + s) (lpMR d a t z s 615 (24 * a + 3 * t + s))
def m_ask2 (d : DD) (a t : Nat) (b : Int32) : DD := if d 600 25 = 60 then up2 d 600 26 (d 600 26 + 1) else lpMR (m_put d (cl (d 600 25)) 82 (nI t) (-1) (nI a) (b - b / 2 * 2) b (-1)) a t (cl (d 600 25) + 1) 3
def m_ask (d : DD) (a t : Nat) (b : Int32) : DD := if abvM d a t b 3 = 0 then m_ask2 (lpMP d a t b 3) a t b else d
def m_acc (d : DD) (a t s : Nat) (b v : Int32) : DD := if d 613 (24 * a + 3 * t + s) ≤ b then lpMT (up2 (up2 (up2 d 613 (24 * a + 3 * t + s) b) 614 (24 * a + 3 * t + s) b) 615 (24 * a + 3 * t + s) v) (nI t) (nI s) (nI a) b v 2 else d
/-- leaders -/
def prB (d : DD) (i s : Nat) : Nat → Int32
  | 0 => -1
  | a + 1 => if d 619 (3 * i + a) = 0 then prB d i s a else if prB d i s a < d 620 (9 * i + 3 * a + s) then d 620 (9 * i + 3 * a + s) else prB d i s a
def prV (d : DD) (i s : Nat) : Nat → Int32
  | 0 => 0
  | a + 1 => if d 619 (3 * i + a) = 0 then prV d i s a else if prB d i s a < d 620 (9 * i + 3 * a + s) then d 621 (9 * i + 3 * a + s) else prV d i s a
def lpMK (d : DD) (i a : Nat) : Nat → DD
  | 0 => d
  | s + 1 => up2 (up2 (lpMK d i a s) 620 (9 * i + 3 * a + s) (lpMK d i a s 624 (780 + 7 + s))) 621 (9 * i + 3 * a + s) (lpMK d i a s 624 (780 + 10 + s))
def mnF (d : DD) (i a : Nat) : Nat → Int32
  | 0 => 0
  | s + 1 => mnF d i a s + (if lpMK d i a s 619 (3 * i + s) = 0 then 0 else 1)
def lpMW (d : DD) (n i t : Nat) (b : Int32) : Nat → DD
  | 0 => d
  | s + 1 => if memI (lpMW d n i t b s 608 t) s = 0 then lpMW d n i t b s else lpMV (lpMW d n i t b s) (nI t) (nI s) b (prV (lpMW d n i t b s) i s 3) n
theorem lpMW_ok {d : DD} {n i t : Nat} {b : Int32} (h : MN d) : ∀ m, MS d (lpMW d n i t b m)
  | 0 => MS_refl h
  | m + 1 => by
    unfold lpMW
    split
    · exact lpMW_ok h m
    · exact MS_trans (lpMW_ok h m) (lpMV_ok (lpMW_ok h m).1 n)
def m_rep (d : DD) (n i a t : Nat) (b : Int32) : DD := if d 616 i = b then (if d 617 i = 0 then (if mostI (lpMK (up2 d 619 (3 * i + a) 1) i a 3 600 1) ≤ mnF (up2 d 619 (3 * i + a) 1) i a 3 then lpMW (up2 (lpMK (up2 d 619 (3 * i + a) 1) i a 3) 617 i 1) n i t b 3 else lpMK (up2 d 619 (3 * i + a) 1) i a 3) else d) else d
def smM (d : DD) (i s x : Nat) : Nat → Int32
  | 0 => 0
  | o + 1 => if d 622 x < 0 then smM d i s x o else if d 622 (9 * i + 3 * o + s) = d 622 x then (if d 623 (9 * i + 3 * o + s) = d 623 x then smM d i s x o + 1 else smM d i s x o) else smM d i s x o
def dcF (d : DD) (i s : Nat) : Nat → Int32
  | 0 => -1
  | k + 1 => if smM d i s (9 * i + 3 * (3 - (k + 1)) + s) 3 < mostI (d 600 1) then dcF d i s k else d 623 (9 * i + 3 * (3 - (k + 1)) + s)
theorem dcF_skip {d : DD} {i s a : Nat} (lt : a < 3) (h : smM d i s (9 * i + 3 * a + s) 3 < mostI (d 600 1)) : dcF d i s (3 - a) = dcF d i s (3 - (a + 1)) := by
  have e : 3 - a = (3 - (a + 1)) + 1 := by omega
  have e2 : 3 - ((3 - (a + 1)) + 1) = a := by omega
  rw [e]
  simp only [dcF, e2]
  rw [if_pos h]
theorem dcF_hit {d : DD} {i s a : Nat} (lt : a < 3) (h : ¬ smM d i s (9 * i + 3 * a + s) 3 < mostI (d 600 1)) : dcF d i s (3 - a) = d 623 (9 * i + 3 * a + s) := by
  have e : 3 - a = (3 - (a + 1)) + 1 := by omega
  have e2 : 3 - ((3 - (a + 1)) + 1) = a := by omega
  rw [e]
  simp only [dcF, e2]
  rw [if_neg h]
def tdN (d : DD) (i t : Nat) : Nat → Int32
  | 0 => 0
  | m + 1 => if memI (d 608 t) m = 0 then tdN d i t m else tdN d i t m ||| (if dcF d i m 3 = 0 then 1 else 0)
def tdA (d : DD) (i t : Nat) : Nat → Int32
  | 0 => 1
  | m + 1 => if memI (d 608 t) m = 0 then tdA d i t m else tdA d i t m &&& (if dcF d i m 3 = 1 then 1 else 0)
def m_hear (d : DD) (i a s : Nat) (b v : Int32) : DD := if b ≤ d 622 (9 * i + 3 * a + s) then d else up2 (up2 d 622 (9 * i + 3 * a + s) b) 623 (9 * i + 3 * a + s) v
theorem m_hear_off {d : DD} {i a s c : Nat} {b v : Int32} (h1 : c ≠ 622) (h2 : c ≠ 623) : m_hear d i a s b v c = d c := by
  unfold m_hear
  split
  · rfl
  · rw [up2_off h2, up2_off h1]
def m_told (d : DD) (i t : Nat) : DD := if d 618 i < 0 then (if tdN d i t 3 = 0 then (if tdA d i t 3 = 0 then d else lpMO (up2 d 618 i 0) t 1 3) else lpMO (up2 d 618 i 1) t 0 3) else d
/-- the net -/
def lpTO (d : DD) (i : Nat) : Nat → DD
  | 0 => d
  | k + 1 => up2 (lpTO d i k) 624 (780 + k) (lpTO d i k 624 (13 * i + k))
theorem lpTO_off {d : DD} {i c : Nat} (h : c ≠ 624) : ∀ n, lpTO d i n c = d c
  | 0 => rfl
  | n + 1 => by rw [lpTO, up2_off h, lpTO_off h n]
def lpSh (d : DD) (i : Nat) : Nat → DD
  | 0 => d
  | m + 1 => up2 (lpSh d i m) 624 (13 * i + m) (lpSh d i m 624 (13 * i + m + 13))
theorem lpSh_off {d : DD} {i c : Nat} (h : c ≠ 624) : ∀ n, lpSh d i n c = d c
  | 0 => rfl
  | n + 1 => by rw [lpSh, up2_off h, lpSh_off h n]
def m_out (d : DD) (i z : Nat) (st : Int32) : DD := if st = 0 then lpSh (up2 (lpTO d i 13) 600 25 (nI (z - 1))) i (13 * (z - 1) - 13 * i) else lpTO d i 13
/-- a leader that forgets -/
def lpF1 (d : DD) (ld : Nat) : Nat → DD
  | 0 => d
  | t + 1 => up2 (up2 (lpF1 d ld t) 617 (8 * ld + t) 1) 618 (8 * ld + t) (-1)
def lpF2 (d : DD) (ld : Nat) : Nat → DD
  | 0 => d
  | m + 1 => up2 (lpF2 d ld m) 619 (24 * ld + m) 0
def lpF3 (d : DD) (ld : Nat) : Nat → DD
  | 0 => d
  | m + 1 => up2 (lpF3 d ld m) 622 (72 * ld + m) (-1)
def m_fgt (d : DD) (ld : Nat) : DD := lpF3 (lpF2 (lpF1 d ld 8) ld 24) ld 72
def lpMD (d : DD) (i : Nat) : Nat → DD
  | 0 => d
  | a + 1 => up2 (lpMD d i a) 619 (3 * i + a) 0
theorem lpMD_off {d : DD} {i c : Nat} (h : c ≠ 619) : ∀ n, lpMD d i n c = d c
  | 0 => rfl
  | n + 1 => by rw [lpMD, up2_off h, lpMD_off h n]
def usF (d : DD) (cn : Nat) : Nat → Int32
  | 0 => 0
  | k + 1 => usF d cn k ||| (if d cn k = 0 then (1 : Int32) <<< (nI k &&& 31) else 0)
/-- the face -/
def mC_begin (d : DD) : Int32 := if d 600 7 = 8 then 1 else 0
def mC_write (d : DD) (t s k : Int32) : Int32 := if outI t 8 = 0 then (if outI s 3 = 0 then (if outI k 4 = 0 then (if t < d 600 7 then (if d 602 (cl s) = 0 then (if d 606 (4 * cl s + cl k) < 0 then (if d 609 (cl t) = 0 then (if d 610 (3 * cl t + cl s) ≤ 1 then 0 else 4) else 4) else if d 606 (4 * cl s + cl k) = t then (if d 609 (cl t) = 0 then (if d 610 (3 * cl t + cl s) ≤ 1 then 0 else 4) else 4) else 3) else 3) else 2) else 1) else 1) else 1
def m_write (d : DD) (t s k : Nat) (v : Int32) : DD := up2 (up2 (up2 (up2 (up2 (up2 d 600 0 0) 610 (3 * t + s) 1) 608 t (withI (d 608 t) s)) 606 (4 * s + k) (nI t)) 611 (3 * t + s) (withI (d 611 (3 * t + s)) k)) 612 (4 * (3 * t + s) + k) v
def mC_request (d : DD) (t : Int32) : Int32 := if outI t 8 = 0 then (if t < d 600 7 then (if d 608 (cl t) = 0 then 3 else if d 609 (cl t) = 0 then 0 else 4) else 2) else 1
def m_request (d : DD) (t : Nat) : DD := lpMRq (up2 (up2 d 600 0 0) 609 t 1) t 3
def mC_refuse (d : DD) (t s : Int32) : Int32 := if outI t 8 = 0 then (if outI s 3 = 0 then (if t < d 600 7 then (if d 602 (cl s) = 0 then (if d 610 (3 * cl t + cl s) = 1 then 0 else 4) else 3) else 2) else 1) else 1
def m_refuse (d : DD) (n t s : Nat) : DD := lpMV (m_abort (up2 d 600 0 0) t s) (nI t) (nI s) 0 0 n
def mC_take (d : DD) (ld t : Int32) : Int32 := if outI ld 2 = 0 then (if outI t 8 = 0 then (if t < d 600 7 then (if d 604 (cl ld) = 0 then (if d 609 (cl t) = 0 then 4 else 0) else 3) else 2) else 1) else 1
def tkB (x ld : Int32) : Int32 := if x + 1 - (x + 1) / 2 * 2 = ld then x + 1 else x + 1 + 1
def m_take (d : DD) (n ld t : Nat) : DD := lpMA (lpMD (up2 (up2 (up2 d 600 0 0) 616 (8 * ld + t) (tkB (d 616 (8 * ld + t)) (nI ld))) 617 (8 * ld + t) 0) (8 * ld + t) 3) (nI t) (tkB (d 616 (8 * ld + t)) (nI ld)) n
def mC_msg (d : DD) (i : Int32) : Int32 := if outI i (d 600 25) = 0 then 0 else 1
def mC_vl (s k : Int32) : Int32 := if outI s 3 = 0 then (if outI k 4 = 0 then 0 else 1) else 1
def mC_state (d : DD) (t s : Int32) : Int32 := if outI t 8 = 0 then (if outI s 3 = 0 then (if t < d 600 7 then 0 else 2) else 1) else 1
def mC_oc (d : DD) (ld t : Int32) : Int32 := if outI ld 2 = 0 then (if outI t 8 = 0 then (if t < d 600 7 then (if 0 ≤ d 618 (8 * cl ld + cl t) then 0 else 3) else 2) else 1) else 1
def mC_tn (d : DD) (n : Nat) (a t s : Int32) : Int32 := if outI a (nI n) = 0 then (if outI t 8 = 0 then (if outI s 3 = 0 then (if t < d 600 7 then 0 else 2) else 1) else 1) else 1
def mR_tn (d : DD) (a t s : Nat) (pr : Int32) : Int32 := if pr = 0 then (if 0 ≤ d 614 (24 * a + 3 * t + s) then 2 * d 614 (24 * a + 3 * t + s) + d 615 (24 * a + 3 * t + s) else -1) else d 613 (24 * a + 3 * t + s)
def mC_ct (x : Int32) : Int32 := if x = 0 then 0 else if x = 1 then 0 else if x = 2 then 0 else if x = 3 then 0 else if x = 4 then 0 else if x = 5 then 0 else if x = 6 then 0 else 1
def mR_ct (d : DD) (n : Nat) (x : Int32) : Int32 := if x = 0 then d 600 25 else if x = 1 then d 600 26 else if x = 2 then d 600 7 else if x = 3 then nI n else if x = 4 then usF (up2 d 600 0 0) 602 3 else if x = 5 then usF (up2 d 600 0 0) 603 n else usF (up2 d 600 0 0) 604 2
theorem WD_to {G : GT} {H0 H : Heap} {d d' : DD} {locs : List Loc} (e : d' = d) (h : WD G H0 d H locs) : WD G H0 d' H locs := e ▸ h
def MmOK (d : DD) : Prop :=
  (d 624 780 = 80 ∧ ∃ s t : Nat, s < 3 ∧ t < 8 ∧ d 624 781 = nI t ∧ d 624 782 = nI s) ∨
  (d 624 780 = 65 ∧ ∃ a t : Nat, a < 3 ∧ t < 8 ∧ d 624 781 = nI t ∧ d 624 783 = nI a) ∨
  (d 624 780 = 82 ∧ ∃ ld t a : Nat, ld < 2 ∧ t < 8 ∧ a < 3 ∧ d 624 781 = nI t ∧ d 624 783 = nI a ∧ d 624 784 = nI ld) ∨
  (d 624 780 = 86 ∧ ∃ a t s : Nat, a < 3 ∧ t < 8 ∧ s < 3 ∧ d 624 781 = nI t ∧ d 624 782 = nI s ∧ d 624 783 = nI a) ∨
  (d 624 780 = 84 ∧ ∃ ld t a s : Nat, ld < 2 ∧ t < 8 ∧ a < 3 ∧ s < 3 ∧ d 624 781 = nI t ∧ d 624 782 = nI s ∧ d 624 783 = nI a ∧ d 624 784 = nI ld) ∨
  (d 624 780 = 79 ∧ ∃ s t : Nat, s < 3 ∧ t < 8 ∧ d 624 781 = nI t ∧ d 624 782 = nI s)
def m_arrive (d : DD) (n : Nat) : DD :=
  if d 624 780 = 80 then (if d 602 (cl (d 624 782)) = 0 then m_prep d n (cl (d 624 781)) (cl (d 624 782)) else d)
  else if d 624 780 = 65 then (if d 603 (cl (d 624 783)) = 0 then m_ask d (cl (d 624 783)) (cl (d 624 781)) (d 624 785) else d)
  else if d 624 780 = 82 then (if d 604 (cl (d 624 784)) = 0 then m_rep d n (8 * cl (d 624 784) + cl (d 624 781)) (cl (d 624 783)) (cl (d 624 781)) (d 624 785) else d)
  else if d 624 780 = 86 then (if d 603 (cl (d 624 783)) = 0 then m_acc d (cl (d 624 783)) (cl (d 624 781)) (cl (d 624 782)) (d 624 785) (d 624 786) else d)
  else if d 624 780 = 84 then (if d 604 (cl (d 624 784)) = 0 then m_told (m_hear d (8 * cl (d 624 784) + cl (d 624 781)) (cl (d 624 783)) (cl (d 624 782)) (d 624 785) (d 624 786)) (8 * cl (d 624 784) + cl (d 624 781)) (cl (d 624 781)) else d)
  else (if d 602 (cl (d 624 782)) = 0 then m_fin d (cl (d 624 781)) (cl (d 624 782)) (d 624 786) else d)
theorem lpTO_at {d : DD} {i : Nat} (hi : i < 60) : ∀ n, n ≤ 13 → ∀ k, lpTO d i n 624 k = if 780 ≤ k ∧ k < 780 + n then d 624 (13 * i + (k - 780)) else d 624 k
  | 0, _, k => by rw [if_neg (by omega)]; rfl
  | n + 1, hn, k => by
    have ih := lpTO_at (d := d) hi n (by omega)
    by_cases h : k = 780 + n
    · subst h
      rw [lpTO, up2_self, ih, if_neg (by omega), if_pos (by omega), show 780 + n - 780 = n by omega]
    · rw [lpTO, up2_nk h, ih]
      by_cases h2 : 780 ≤ k ∧ k < 780 + n
      · rw [if_pos h2, if_pos (by omega)]
      · rw [if_neg h2, if_neg (by omega)]
theorem lpSh_at {d : DD} {i : Nat} : ∀ m k, lpSh d i m 624 k = if 13 * i ≤ k ∧ k < 13 * i + m then d 624 (k + 13) else d 624 k
  | 0, k => by rw [if_neg (by omega)]; rfl
  | m + 1, k => by
    by_cases h : k = 13 * i + m
    · subst h
      rw [lpSh, up2_self, lpSh_at m, if_neg (by omega), if_pos (by omega)]
    · rw [lpSh, up2_nk h, lpSh_at m]
      by_cases h2 : 13 * i ≤ k ∧ k < 13 * i + m
      · rw [if_pos h2, if_pos (by omega)]
      · rw [if_neg h2, if_neg (by omega)]
/-- what is taken out lies at 780 -/
theorem m_out_780 {d : DD} {i z : Nat} {st : Int32} (hiz : i < z) (hz : z ≤ 60) : ∀ k, k < 13 → m_out d i z st 624 (780 + k) = d 624 (13 * i + k) := by
  intro k hk
  have h2 : lpTO d i 13 624 (780 + k) = d 624 (13 * i + k) := by
    rw [lpTO_at (by omega) 13 (by omega), if_pos (by omega), show 780 + k - 780 = k by omega]
  unfold m_out
  split
  · rw [lpSh_at, if_neg (by omega), up2_nc (by decide), h2]
  · exact h2
theorem m_out_off {d : DD} {i z c : Nat} {st : Int32} (h1 : c ≠ 600) (h2 : c ≠ 624) : m_out d i z st c = d c := by
  unfold m_out
  split
  · rw [lpSh_off h2, up2_off h1, lpTO_off h2]
  · exact lpTO_off h2 13
theorem m_out_mo {d : DD} {i z k : Nat} {st : Int32} (h : k ≠ 25) : m_out d i z st 600 k = d 600 k := by
  unfold m_out
  split
  · rw [lpSh_off (by decide), up2_nk h, lpTO_off (by decide)]
  · exact congrFun (lpTO_off (by decide) 13) k
theorem m_out_sz {d : DD} {i z : Nat} {st : Int32} (hz : z ≤ 60) (fz : d 600 25 = nI z) : MN (m_out d i z st) := by
  unfold m_out
  split
  · exact ⟨z - 1, by omega, by rw [lpSh_off (by decide), up2_self]⟩
  · exact ⟨z, hz, by rw [lpTO_off (by decide), fz]⟩
theorem m_out_sz0 {d : DD} {i z : Nat} : m_out d i z 0 600 25 = nI (z - 1) := by
  unfold m_out
  rw [if_pos rfl, lpSh_off (by decide), up2_self]
def MmB (d : DD) (b : Nat) : Prop :=
  (d 624 (b + 0) = 80 ∧ ∃ s t : Nat, s < 3 ∧ t < 8 ∧ d 624 (b + 1) = nI t ∧ d 624 (b + 2) = nI s) ∨
  (d 624 (b + 0) = 65 ∧ ∃ a t : Nat, a < 3 ∧ t < 8 ∧ d 624 (b + 1) = nI t ∧ d 624 (b + 3) = nI a) ∨
  (d 624 (b + 0) = 82 ∧ ∃ ld t a : Nat, ld < 2 ∧ t < 8 ∧ a < 3 ∧ d 624 (b + 1) = nI t ∧ d 624 (b + 3) = nI a ∧ d 624 (b + 4) = nI ld) ∨
  (d 624 (b + 0) = 86 ∧ ∃ a t s : Nat, a < 3 ∧ t < 8 ∧ s < 3 ∧ d 624 (b + 1) = nI t ∧ d 624 (b + 2) = nI s ∧ d 624 (b + 3) = nI a) ∨
  (d 624 (b + 0) = 84 ∧ ∃ ld t a s : Nat, ld < 2 ∧ t < 8 ∧ a < 3 ∧ s < 3 ∧ d 624 (b + 1) = nI t ∧ d 624 (b + 2) = nI s ∧ d 624 (b + 3) = nI a ∧ d 624 (b + 4) = nI ld) ∨
  (d 624 (b + 0) = 79 ∧ ∃ s t : Nat, s < 3 ∧ t < 8 ∧ d 624 (b + 1) = nI t ∧ d 624 (b + 2) = nI s)
theorem MmOK_out {d : DD} {i z : Nat} {st : Int32} (hiz : i < z) (hz : z ≤ 60) (h : MmB d (13 * i)) : MmOK (m_out (up2 d 600 0 0) i z st) := by
  have e : ∀ k, k < 13 → m_out (up2 d 600 0 0) i z st 624 (780 + k) = d 624 (13 * i + k) := fun k hk => (m_out_780 hiz hz k hk).trans (up2_nc (by decide))
  unfold MmOK
  rw [show m_out (up2 d 600 0 0) i z st 624 780 = _ from e 0 (by decide), show m_out (up2 d 600 0 0) i z st 624 781 = _ from e 1 (by decide), show m_out (up2 d 600 0 0) i z st 624 782 = _ from e 2 (by decide), show m_out (up2 d 600 0 0) i z st 624 783 = _ from e 3 (by decide), show m_out (up2 d 600 0 0) i z st 624 784 = _ from e 4 (by decide)]
  exact h
def m_dlv (d : DD) (n i z : Nat) (st : Int32) : DD := m_arrive (m_out (up2 d 600 0 0) i z st) n
def mC_up (n : Nat) (k w : Int32) : Int32 := if outI k 3 = 0 then (if outI w (hmI n k) = 0 then 0 else 1) else 1
def mR_up (d : DD) (k w : Nat) : Int32 := if d (602 + k) w = 0 then 1 else 0
def lpMUp (d : DD) (w : Nat) (on : Int32) : Nat → DD
  | 0 => d
  | t + 1 => if on = 0 then (if lpMUp d w on t 610 (3 * t + w) = 1 then m_abort (lpMUp d w on t) t w else lpMUp d w on t) else lpMUp d w on t
def m_up (d : DD) (k w : Nat) (on : Int32) : DD :=
  if k = 0 then (if on = 0 then lpMUp (up2 (up2 d 600 0 0) 602 w 1) w on 8 else lpMUp (up2 (up2 d 600 0 0) 602 w 0) w on 8)
  else if k = 1 then (if on = 0 then up2 (up2 d 600 0 0) 603 w 1 else up2 (up2 d 600 0 0) 603 w 0)
  else (if on = 0 then m_fgt (up2 (up2 d 600 0 0) 604 w 1) w else up2 (up2 d 600 0 0) 604 w 0)
