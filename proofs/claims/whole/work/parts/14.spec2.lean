/-! What the class's own methods do to d. -/
def rsI (x ld : Int32) : Int32 := if fmI (x + 1) 2 = ld then x + 1 else x + 1 + 1
def hmI (n : Nat) (x : Int32) : Int32 := if x = 0 then 3 else if x = 1 then nI n else 2
def f_remove (d : DD) (i z q : Nat) : DD := up2 (up2 (shR d i (z - 1 - i)) 5 1 (nI (z - 1))) 8 (z - 1) (nI q)
theorem shR_off {d : DD} {i m c : Nat} (h : c ≠ 8) : shR d i m c = d c := by
  induction m with
  | zero => rfl
  | succ k ih => rw [shR, up2_off h, ih]
theorem shR_row {d : DD} {i : Nat} (hr : ∀ j, j < 60 → ∃ q, q < 60 ∧ d 8 j = nI q) : ∀ m, i + m < 60 → ∀ j, j < 60 → ∃ q, q < 60 ∧ shR d i m 8 j = nI q
  | 0, _, j, hj => hr j hj
  | m + 1, hm, j, hj => by
    have ih := shR_row (i := i) hr m (by omega)
    by_cases h : j = i + m
    · subst h
      rw [shR, up2_self]
      exact ih (i + m + 1) (by omega)
    · rw [shR, up2_nk h]
      exact ih j hj
def f_raise0 (d : DD) (i : Nat) (ld : Int32) : DD := if fmI (d (i + 200) 0 + 1) 2 = ld then up2 d (i + 200) 0 (d (i + 200) 0 + 1) else up2 (up2 d (i + 200) 0 (d (i + 200) 0 + 1)) (i + 200) 0 (d (i + 200) 0 + 1 + 1)
def f_raise (d : DD) (n i : Nat) (ld : Int32) : DD := lpDrop (up2 (f_raise0 d i ld) (i + 200) 1 0) i n
def f_sts (d : DD) (kd t s v : Int32) : DD := f_send (up2 (up2 (f_clear d 60 kd t) 480 2 s) 480 6 v)
def lpSV (d : DD) (t s b v : Int32) : Nat → DD
  | 0 => d
  | a + 1 => f_send (up2 (up2 (up2 (up2 (f_clear (lpSV d t s b v a) 60 3 t) 480 2 s) 480 3 (nI a)) 480 5 b) 480 6 v)
def lpSA (d : DD) (t b : Int32) : Nat → DD
  | 0 => d
  | a + 1 => f_send (up2 (up2 (f_clear (lpSA d t b a) 60 1 t) 480 3 (nI a)) 480 5 b)
def lpSO (d : DD) (t : Nat) (o : Int32) : Nat → DD
  | 0 => d
  | s + 1 => if hasI (lpSO d t o s 6 t) s = 0 then lpSO d t o s else f_sts (lpSO d t o s) 5 (nI t) (nI s) o
def lpRq (d : DD) (t : Nat) : Nat → DD
  | 0 => d
  | s + 1 => if hasI (lpRq d t s 6 t) s = 0 then lpRq d t s else f_sts (lpRq d t s) 0 (nI t) (nI s) (-1)
def f_rp0 (d : DD) (a t : Nat) (b : Int32) : DD := up2 (up2 (up2 (f_clear d 60 2 (nI t)) 480 3 (nI a)) 480 4 (fmI b 2)) 480 5 b
def lpRp (d : DD) (a t : Nat) : Nat → DD
  | 0 => d
  | s + 1 => if hasI (lpRp d a t s 6 t) s = 0 then lpRp d a t s else up2 (lpRp d a t s) 550 s (lpRp d a t s (8 * a + t + 160) s)
def f_reply (d : DD) (a t : Nat) (b : Int32) : DD := f_send (lpRp (f_rp0 d a t b) a t 3)
def f_toldV (d : DD) (t s a ld b v : Int32) : DD := f_send (up2 (up2 (up2 (up2 (up2 (f_clear d 60 4 t) 480 2 s) 480 3 a) 480 4 ld) 480 5 b) 480 6 v)
def lpTold (d : DD) (t s a b v : Int32) : Nat → DD
  | 0 => d
  | j + 1 => f_toldV (lpTold d t s a b v j) t s a (nI j) b v
def lpStop (d : DD) (n ld : Nat) : Nat → DD
  | 0 => d
  | t + 1 => f_forget (lpStop d n ld t) n (ld * 8 + t)
/-- what a message that arrives does -/
def f_arrP (d : DD) (n s t : Nat) : DD := if d (s + 40) t = 1 then lpSV (up2 d (s + 40) t 2) (nI t) (nI s) 0 1 n else if d (s + 40) t = 0 then lpSV (f_abort d s t) (nI t) (nI s) 0 0 n else if d (s + 40) t = 4 then lpSV (f_abort d s t) (nI t) (nI s) 0 0 n else d
def f_arrA (d : DD) (a t : Nat) (b : Int32) : DD := if abvI d a t (d 6 t) b 3 = 0 then f_reply (lpProm d a t (d 6 t) b 3) a t b else d
def lpPr (d : DD) (n i t : Nat) (b : Int32) : Nat → DD
  | 0 => d
  | s + 1 => if hasI (lpPr d n i t b s 6 t) s = 0 then lpPr d n i t b s else lpSV (lpPr d n i t b s) (nI t) (nI s) b (vtpI (lpPr d n i t b s) n i s) n
def f_kept (d : DD) (i a : Nat) : DD := lpKR (up2 d (i + 220) a 1) i a 3
def f_arrR (d : DD) (n i a t : Nat) (b mj : Int32) : DD := if b = d (i + 200) 0 then (if d (i + 200) 1 = 0 then (if mj ≤ cntI (f_kept d i a) i n then lpPr (up2 (f_kept d i a) (i + 200) 1 1) n i t b 3 else f_kept d i a) else d) else d
def f_arrV (d : DD) (a t s : Nat) (b v : Int32) : DD := if d (8 * a + t + 130) s ≤ b then lpTold (f_accept d a t s b v) (nI t) (nI s) (nI a) b v 2 else d
def f_jdg (d : DD) (n i t : Nat) (mj : Int32) : DD := up2 d (i + 200) 2 (jgF d n i (d 6 t) mj 3)
def f_arrT (d : DD) (n i a s t : Nat) (b v mj : Int32) : DD := if f_hear d i a s b v (i + 200) 2 = -1 then (if jgF (f_hear d i a s b v) n i (f_hear d i a s b v 6 t) mj 3 = -1 then f_jdg (f_hear d i a s b v) n i t mj else lpSO (f_jdg (f_hear d i a s b v) n i t mj) t (jgF (f_hear d i a s b v) n i (f_hear d i a s b v 6 t) mj 3) 3) else f_hear d i a s b v
def f_arrO (d : DD) (s t : Nat) (v : Int32) : DD := if d (s + 40) t = 2 then (if v = 1 then f_commit d s t else if v = 0 then f_abort d s t else d) else if v = 0 then (if openI d s t = 0 then d else f_abort d s t) else d
/-- sending keeps the net sound, and leaves alone what is not the net's -/
theorem snd_ok {d e : DD} (hN : NetOK d) (h5 : e 5 = d 5) (h8 : e 8 = d 8) : NetOK (f_send e) := NetOK_send (NetOK_keep hN h5 h8)
theorem snd_off {d e : DD} {c : Nat} (hN : NetOK d) (h5 : e 5 = d 5) (h8 : e 8 = d 8) (hc : e c = d c) (c5 : c ≠ 5) (hc2 : c < 420 ∨ (481 ≤ c ∧ c < 490) ∨ 551 ≤ c) : f_send e c = d c := (f_send_off (NetOK_keep hN h5 h8) c5 (by omega)).trans hc
theorem f_sts_ok {d : DD} {kd t s v : Int32} (hN : NetOK d) : NetOK (f_sts d kd t s v) ∧ ∀ c, c ≠ 5 → (c < 420 ∨ (481 ≤ c ∧ c < 490) ∨ 551 ≤ c) → f_sts d kd t s v c = d c := by
  have k : ∀ c, c ≠ 480 → c ≠ 550 → up2 (up2 (f_clear d 60 kd t) 480 2 s) 480 6 v c = d c := fun c h1 h2 => by rw [up2_off h1, up2_off h1, f_clear_off (by omega) (by omega)]
  exact ⟨snd_ok hN (k 5 (by decide) (by decide)) (k 8 (by decide) (by decide)), fun c h5 h => snd_off hN (k 5 (by decide) (by decide)) (k 8 (by decide) (by decide)) (k c (by omega) (by omega)) h5 h⟩
theorem f_toldV_ok {d : DD} {t s a ld b v : Int32} (hN : NetOK d) : NetOK (f_toldV d t s a ld b v) ∧ ∀ c, c ≠ 5 → (c < 420 ∨ (481 ≤ c ∧ c < 490) ∨ 551 ≤ c) → f_toldV d t s a ld b v c = d c := by
  have k : ∀ c, c ≠ 480 → c ≠ 550 → up2 (up2 (up2 (up2 (up2 (f_clear d 60 4 t) 480 2 s) 480 3 a) 480 4 ld) 480 5 b) 480 6 v c = d c := fun c h1 h2 => by rw [up2_off h1, up2_off h1, up2_off h1, up2_off h1, up2_off h1, f_clear_off (by omega) (by omega)]
  exact ⟨snd_ok hN (k 5 (by decide) (by decide)) (k 8 (by decide) (by decide)), fun c h5 h => snd_off hN (k 5 (by decide) (by decide)) (k 8 (by decide) (by decide)) (k c (by omega) (by omega)) h5 h⟩
theorem lpSV_ok {d : DD} {t s b v : Int32} (hN : NetOK d) : ∀ n, NetOK (lpSV d t s b v n) ∧ ∀ c, c ≠ 5 → (c < 420 ∨ (481 ≤ c ∧ c < 490) ∨ 551 ≤ c) → lpSV d t s b v n c = d c
  | 0 => ⟨hN, fun _ _ _ => rfl⟩
  | a + 1 => by
    obtain ⟨h1, h2⟩ := lpSV_ok (d := d) (t := t) (s := s) (b := b) (v := v) hN a
    have k : ∀ c, c ≠ 480 → c ≠ 550 → up2 (up2 (up2 (up2 (f_clear (lpSV d t s b v a) 60 3 t) 480 2 s) 480 3 (nI a)) 480 5 b) 480 6 v c = lpSV d t s b v a c := fun c h1 h2 => by rw [up2_off h1, up2_off h1, up2_off h1, up2_off h1, f_clear_off (by omega) (by omega)]
    exact ⟨snd_ok h1 (k 5 (by decide) (by decide)) (k 8 (by decide) (by decide)), fun c h5 h => (snd_off h1 (k 5 (by decide) (by decide)) (k 8 (by decide) (by decide)) (k c (by omega) (by omega)) h5 h).trans (h2 c h5 h)⟩
theorem lpSA_ok {d : DD} {t b : Int32} (hN : NetOK d) : ∀ n, NetOK (lpSA d t b n) ∧ ∀ c, c ≠ 5 → (c < 420 ∨ (481 ≤ c ∧ c < 490) ∨ 551 ≤ c) → lpSA d t b n c = d c
  | 0 => ⟨hN, fun _ _ _ => rfl⟩
  | a + 1 => by
    obtain ⟨h1, h2⟩ := lpSA_ok (d := d) (t := t) (b := b) hN a
    have k : ∀ c, c ≠ 480 → c ≠ 550 → up2 (up2 (f_clear (lpSA d t b a) 60 1 t) 480 3 (nI a)) 480 5 b c = lpSA d t b a c := fun c h1 h2 => by rw [up2_off h1, up2_off h1, f_clear_off (by omega) (by omega)]
    exact ⟨snd_ok h1 (k 5 (by decide) (by decide)) (k 8 (by decide) (by decide)), fun c h5 h => (snd_off h1 (k 5 (by decide) (by decide)) (k 8 (by decide) (by decide)) (k c (by omega) (by omega)) h5 h).trans (h2 c h5 h)⟩
theorem lpSO_ok {d : DD} {t : Nat} {o : Int32} (hN : NetOK d) : ∀ n, NetOK (lpSO d t o n) ∧ ∀ c, c ≠ 5 → (c < 420 ∨ (481 ≤ c ∧ c < 490) ∨ 551 ≤ c) → lpSO d t o n c = d c
  | 0 => ⟨hN, fun _ _ _ => rfl⟩
  | a + 1 => by
    obtain ⟨h1, h2⟩ := lpSO_ok (d := d) (t := t) (o := o) hN a
    unfold lpSO
    split
    · exact ⟨h1, h2⟩
    · obtain ⟨g1, g2⟩ := f_sts_ok (kd := 5) (t := nI t) (s := nI a) (v := o) h1
      exact ⟨g1, fun c h5 h => (g2 c h5 h).trans (h2 c h5 h)⟩
theorem lpRq_ok {d : DD} {t : Nat} (hN : NetOK d) : ∀ n, NetOK (lpRq d t n) ∧ ∀ c, c ≠ 5 → (c < 420 ∨ (481 ≤ c ∧ c < 490) ∨ 551 ≤ c) → lpRq d t n c = d c
  | 0 => ⟨hN, fun _ _ _ => rfl⟩
  | a + 1 => by
    obtain ⟨h1, h2⟩ := lpRq_ok (d := d) (t := t) hN a
    unfold lpRq
    split
    · exact ⟨h1, h2⟩
    · obtain ⟨g1, g2⟩ := f_sts_ok (kd := 0) (t := nI t) (s := nI a) (v := -1) h1
      exact ⟨g1, fun c h5 h => (g2 c h5 h).trans (h2 c h5 h)⟩
theorem lpTold_ok {d : DD} {t s a b v : Int32} (hN : NetOK d) : ∀ n, NetOK (lpTold d t s a b v n) ∧ ∀ c, c ≠ 5 → (c < 420 ∨ (481 ≤ c ∧ c < 490) ∨ 551 ≤ c) → lpTold d t s a b v n c = d c
  | 0 => ⟨hN, fun _ _ _ => rfl⟩
  | j + 1 => by
    obtain ⟨h1, h2⟩ := lpTold_ok (d := d) (t := t) (s := s) (a := a) (b := b) (v := v) hN j
    obtain ⟨g1, g2⟩ := f_toldV_ok (t := t) (s := s) (a := a) (ld := nI j) (b := b) (v := v) h1
    exact ⟨g1, fun c h5 h => (g2 c h5 h).trans (h2 c h5 h)⟩
theorem lpRp_off {d : DD} {a t n c : Nat} (h : c ≠ 550) : lpRp d a t n c = d c := by
  induction n with
  | zero => rfl
  | succ k ih =>
    rw [lpRp]
    split
    · exact ih
    · rw [up2_off h, ih]
theorem f_rp0_off {d : DD} {a t c : Nat} {b : Int32} (h1 : c ≠ 480) (h2 : c ≠ 550) : f_rp0 d a t b c = d c := by
  unfold f_rp0
  rw [up2_off h1, up2_off h1, up2_off h1, f_clear_off (by omega) (by omega)]
theorem f_reply_ok {d : DD} {a t : Nat} {b : Int32} (hN : NetOK d) : NetOK (f_reply d a t b) ∧ ∀ c, c ≠ 5 → (c < 420 ∨ (481 ≤ c ∧ c < 490) ∨ 551 ≤ c) → f_reply d a t b c = d c := by
  have k : ∀ c, c ≠ 480 → c ≠ 550 → lpRp (f_rp0 d a t b) a t 3 c = d c := fun c h1 h2 => by rw [lpRp_off h2, f_rp0_off h1 h2]
  exact ⟨snd_ok hN (k 5 (by decide) (by decide)) (k 8 (by decide) (by decide)), fun c h5 h => snd_off hN (k 5 (by decide) (by decide)) (k 8 (by decide) (by decide)) (k c (by omega) (by omega)) h5 h⟩
theorem lpPr_ok {d : DD} {n i t : Nat} {b : Int32} (hN : NetOK d) : ∀ s, NetOK (lpPr d n i t b s) ∧ ∀ c, c ≠ 5 → (c < 420 ∨ (481 ≤ c ∧ c < 490) ∨ 551 ≤ c) → lpPr d n i t b s c = d c
  | 0 => ⟨hN, fun _ _ _ => rfl⟩
  | s + 1 => by
    obtain ⟨h1, h2⟩ := lpPr_ok (d := d) (n := n) (i := i) (t := t) (b := b) hN s
    unfold lpPr
    split
    · exact ⟨h1, h2⟩
    · obtain ⟨g1, g2⟩ := lpSV_ok (t := nI t) (s := nI s) (b := b) (v := vtpI (lpPr d n i t b s) n i s) h1 n
      exact ⟨g1, fun c h5 h => (g2 c h5 h).trans (h2 c h5 h)⟩
theorem f_raise_off {d : DD} {n i c : Nat} {ld : Int32} (h1 : c ≠ i + 200) (h2 : c ≠ i + 220) : f_raise d n i ld c = d c := by
  unfold f_raise
  rw [lpDrop_off h2, up2_off h1]
  unfold f_raise0
  split
  · exact up2_off h1
  · rw [up2_off h1, up2_off h1]
