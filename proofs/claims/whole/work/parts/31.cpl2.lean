/-! The net beside the reference's net. -/
def kc (x : Int32) : Int32 := if x = 0 then 80 else if x = 1 then 65 else if x = 2 then 82 else if x = 3 then 86 else if x = 4 then 84 else 79
/-- what a message can be -/
def MSH (n B : Nat) (kd t s a ld b v : Int32) : Prop :=
  (kd = 0 ∧ (∃ q : Nat, q < 8 ∧ t = nI q) ∧ (∃ q : Nat, q < 3 ∧ s = nI q) ∧ a = -1 ∧ ld = -1 ∧ b = -1 ∧ v = -1) ∨
  (kd = 1 ∧ (∃ q : Nat, q < 8 ∧ t = nI q) ∧ s = -1 ∧ (∃ q : Nat, q < n ∧ a = nI q) ∧ ld = -1 ∧ (∃ q : Nat, 1 ≤ q ∧ q ≤ B ∧ b = nI q) ∧ v = -1) ∨
  (kd = 2 ∧ (∃ q : Nat, q < 8 ∧ t = nI q) ∧ s = -1 ∧ (∃ q : Nat, q < n ∧ a = nI q) ∧ (∃ q : Nat, q < 2 ∧ ld = nI q) ∧ (∃ q : Nat, 1 ≤ q ∧ q ≤ B ∧ b = nI q) ∧ v = -1) ∨
  (kd = 3 ∧ (∃ q : Nat, q < 8 ∧ t = nI q) ∧ (∃ q : Nat, q < 3 ∧ s = nI q) ∧ (∃ q : Nat, q < n ∧ a = nI q) ∧ ld = -1 ∧ (∃ q : Nat, q ≤ B ∧ b = nI q) ∧ (∃ q : Nat, q ≤ 1 ∧ v = nI q)) ∨
  (kd = 4 ∧ (∃ q : Nat, q < 8 ∧ t = nI q) ∧ (∃ q : Nat, q < 3 ∧ s = nI q) ∧ (∃ q : Nat, q < n ∧ a = nI q) ∧ (∃ q : Nat, q < 2 ∧ ld = nI q) ∧ (∃ q : Nat, q ≤ B ∧ b = nI q) ∧ (∃ q : Nat, q ≤ 1 ∧ v = nI q)) ∨
  (kd = 5 ∧ (∃ q : Nat, q < 8 ∧ t = nI q) ∧ (∃ q : Nat, q < 3 ∧ s = nI q) ∧ a = -1 ∧ ld = -1 ∧ b = -1 ∧ (∃ q : Nat, q ≤ 1 ∧ v = nI q))
theorem MSH_m {n B B' : Nat} (hB : B ≤ B') {kd t s a ld b v : Int32} (h : MSH n B kd t s a ld b v) : MSH n B' kd t s a ld b v := by
  rcases h with h | ⟨h0, h1, h2, h3, h4, ⟨q, h5, h6, h7⟩, h8⟩ | ⟨h0, h1, h2, h3, h4, ⟨q, h5, h6, h7⟩, h8⟩ | ⟨h0, h1, h2, h3, h4, ⟨q, h6, h7⟩, h8⟩ | ⟨h0, h1, h2, h3, h4, ⟨q, h6, h7⟩, h8⟩ | h
  · exact Or.inl h
  · exact Or.inr (Or.inl ⟨h0, h1, h2, h3, h4, ⟨q, h5, by omega, h7⟩, h8⟩)
  · exact Or.inr (Or.inr (Or.inl ⟨h0, h1, h2, h3, h4, ⟨q, h5, by omega, h7⟩, h8⟩))
  · exact Or.inr (Or.inr (Or.inr (Or.inl ⟨h0, h1, h2, h3, h4, ⟨q, by omega, h7⟩, h8⟩)))
  · exact Or.inr (Or.inr (Or.inr (Or.inr (Or.inl ⟨h0, h1, h2, h3, h4, ⟨q, by omega, h7⟩, h8⟩))))
  · exact Or.inr (Or.inr (Or.inr (Or.inr (Or.inr h))))
/-- a message beside its thirteen numbers -/
def MRR (n B : Nat) (r ρ μ : Nat → Int32) (b : Nat) : Prop :=
  MSH n B (r 0) (r 1) (r 2) (r 3) (r 4) (r 5) (r 6) ∧ μ (b + 0) = kc (r 0) ∧ (∀ k, 1 ≤ k → k ≤ 6 → μ (b + k) = r k) ∧ (r 0 = 2 → ∀ s, s < 3 → PK B (ρ s) (μ (b + (7 + s))) (μ (b + (10 + s))))
theorem MRR_c {n B : Nat} {r ρ μ r' ρ' μ' : Nat → Int32} {b b' : Nat} (h : MRR n B r ρ μ b) (e1 : ∀ k, k < 7 → r' k = r k) (e2 : ∀ s, s < 3 → ρ' s = ρ s) (e3 : ∀ k, k < 13 → μ' (b' + k) = μ (b + k)) : MRR n B r' ρ' μ' b' := by
  obtain ⟨h1, h2, h3, h4⟩ := h
  refine ⟨?_, ?_, fun k k1 k2 => ?_, fun h0 s hs => ?_⟩
  · rw [e1 0 (by decide), e1 1 (by decide), e1 2 (by decide), e1 3 (by decide), e1 4 (by decide), e1 5 (by decide), e1 6 (by decide)]
    exact h1
  · rw [e3 0 (by decide), e1 0 (by decide)]
    exact h2
  · rw [e3 k (by omega), e1 k (by omega)]
    exact h3 k k1 k2
  · rw [e2 s hs, e3 (7 + s) (by omega), e3 (10 + s) (by omega)]
    exact h4 (by rw [← e1 0 (by decide)]; exact h0) s hs
theorem MRR_m {n B B' : Nat} (hB : B ≤ B') {r ρ μ : Nat → Int32} {b : Nat} (h : MRR n B r ρ μ b) : MRR n B' r ρ μ b := ⟨MSH_m hB h.1, h.2.1, h.2.2.1, fun h0 s hs => PK_mono hB (h.2.2.2 h0 s hs)⟩
def NR (n B : Nat) (d m : DD) : Prop := NetOK d ∧ d 5 2 = m 600 26 ∧ ∃ z : Nat, z ≤ 60 ∧ d 5 1 = nI z ∧ m 600 25 = nI z ∧ ∀ j q : Nat, j < z → q < 60 → d 8 j = nI q → MRR n B (d (q + 420)) (d (q + 490)) (m 624) (13 * j)
def CR (n B : Nat) (d m : DD) : Prop := CR0 n B d m ∧ NR n B d m
theorem NR_m {n B B' : Nat} (hB : B ≤ B') {d m : DD} (h : NR n B d m) : NR n B' d m := by
  obtain ⟨h1, h2, z, h3, h4, h5, h6⟩ := h
  exact ⟨h1, h2, z, h3, h4, h5, fun j q hj hq e => MRR_m hB (h6 j q hj hq e)⟩
theorem NR_c {n B : Nat} {d m d' m' : DD} (h : NR n B d m) (e1 : ∀ c, c = 5 ∨ c = 8 ∨ (420 ≤ c ∧ c < 480) ∨ (490 ≤ c ∧ c < 550) → d' c = d c) (e2 : m' 600 25 = m 600 25) (e3 : m' 600 26 = m 600 26) (e4 : m' 624 = m 624) : NR n B d' m' := by
  obtain ⟨h1, h2, z, h3, h4, h5, h6⟩ := h
  refine ⟨NetOK_keep h1 (e1 5 (by omega)) (e1 8 (by omega)), by rw [e1 5 (by omega), e3]; exact h2, z, h3, by rw [e1 5 (by omega)]; exact h4, by rw [e2]; exact h5, fun j q hj hq e => ?_⟩
  rw [e1 8 (by omega)] at e
  rw [e1 (q + 420) (by omega), e1 (q + 490) (by omega), e4]
  exact h6 j q hj hq e
theorem f_copy_rep {d : DD} {a b : Nat} (ha : a < 62) (hb : b < 62) : ∀ s, s < 3 → f_copy d a b (b + 490) s = d (a + 490) s := by
  intro s hs
  show (if b + 490 = b + 490 ∧ s < 3 then f_cm7 d a b (a + 490) s else f_cm7 d a b (b + 490) s) = _
  rw [if_pos ⟨rfl, hs⟩]
  exact congrFun (f_cm7_off (by omega)) s
/-- sending, of anything -/
theorem CR_sendG {n B : Nat} {d m e m' : DD} (hn : n ≤ 3) (h : CR n B d m) (he : ∀ c, c ≠ 480 → c ≠ 550 → e c = d c)
    (hlt : ∀ z, z < 60 → m 600 25 = nI z → (∀ c, c ≠ 600 → c ≠ 624 → m' c = m c) ∧ (∀ k, k ≠ 25 → m' 600 k = m 600 k) ∧ m' 600 25 = nI (z + 1) ∧ (∀ k, k < 13 * z → m' 624 k = m 624 k) ∧ MRR n B (e 480) (e 550) (m' 624) (13 * z))
    (hfull : m 600 25 = nI 60 → m' = up2 m 600 26 (m 600 26 + 1)) : CR n B (f_send e) m' := by
  obtain ⟨h0, hN, ho, z, hz, fz, gz, hm⟩ := h
  have e5 : e 5 = d 5 := he 5 (by decide) (by decide)
  have e8 : e 8 = d 8 := he 8 (by decide) (by decide)
  have hNe : NetOK e := NetOK_keep hN e5 e8
  have hoff : ∀ c, c < 420 → c ≠ 5 → c ≠ 8 → f_send e c = d c := fun c h1 h2 _ => (f_send_off hNe h2 (by omega)).trans (he c (by omega) (by omega))
  have h8 : f_send e 8 = d 8 := (f_send_off hNe (by decide) (by decide)).trans e8
  rcases Nat.lt_or_ge z 60 with hz9 | hz9
  · obtain ⟨g1, g2, g3, g4, g5⟩ := hlt z hz9 gz
    obtain ⟨q, hq, fq⟩ := hN.2.1 z hz9
    have es : f_send e = up2 (f_copy e 60 q) 5 1 (nI (z + 1)) := f_send_lt hz9 hq (by rw [e5]; exact fz) (by rw [e8]; exact fq)
    refine ⟨CR0_c hn h0 hoff (fun c c1 c2 => g1 c (by omega) c2) (g2 1 (by decide)) (g2 7 (by decide)), NetOK_send hNe, ?_, z + 1, hz9, ?_, g3, fun j p hj hp ep => ?_⟩
    · rw [es, up2_nk (by decide), f_copy_off (by omega) (by omega), e5, g2 26 (by decide)]
      exact ho
    · rw [es, up2_self]
    · rw [h8] at ep
      by_cases hjz : j = z
      · subst hjz
        have : p = q := (nI_eq (by omega) (by omega)).mp (ep.symm.trans fq)
        subst this
        refine MRR_c g5 (fun k hk => ?_) (fun s hs => ?_) (fun k hk => rfl)
        · rw [es, up2_nc (by omega)]
          exact f_copy_msg k hk
        · rw [es, up2_nc (by omega)]
          exact f_copy_rep (by omega) (by omega) s hs
      · have hpq : p ≠ q := fun e9 => hjz (hN.2.2 j z (by omega) hz9 (by rw [ep, fq, e9]))
        refine MRR_c (hm j p (by omega) hp ep) (fun k hk => ?_) (fun s hs => ?_) (fun k hk => g4 _ (by omega))
        · rw [es, up2_nc (by omega), f_copy_off (by omega) (by omega), he _ (by omega) (by omega)]
        · rw [es, up2_nc (by omega), f_copy_off (by omega) (by omega), he _ (by omega) (by omega)]
  · obtain rfl : z = 60 := by omega
    have em := hfull gz
    have es : f_send e = up2 e 5 2 (e 5 2 + 1) := f_send_full (by rw [e5]; exact fz)
    subst em
    refine ⟨CR0_c hn h0 hoff (fun c c1 c2 => up2_off (by omega)) (up2_nk (by decide)) (up2_nk (by decide)), NetOK_send hNe, ?_, 60, Nat.le_refl _, ?_, (up2_nk (by decide)).trans gz, fun j p hj hp ep => ?_⟩
    · rw [es, up2_self, up2_self, e5, ho]
    · rw [es, up2_nk (by decide), e5, fz]
    · rw [h8] at ep
      refine MRR_c (hm j p hj hp ep) (fun k hk => ?_) (fun s hs => ?_) (fun k hk => by rw [up2_nc (by decide)])
      · rw [es, up2_nc (by omega), he _ (by omega) (by omega)]
      · rw [es, up2_nc (by omega), he _ (by omega) (by omega)]
theorem m_put_lo {m : DD} {z k : Nat} {kd t s a ld b v : Int32} (hk : k < 13 * z) : m_put m z kd t s a ld b v 624 k = m 624 k := by
  unfold m_put
  rw [up2_nc (by decide), up2_nk (by omega), up2_nk (by omega), up2_nk (by omega), up2_nk (by omega), up2_nk (by omega), up2_nk (by omega), up2_nk (by omega)]
theorem m_put_at {m : DD} {z : Nat} {kd t s a ld b v : Int32} : m_put m z kd t s a ld b v 624 (13 * z) = kd ∧ m_put m z kd t s a ld b v 624 (13 * z + 1) = t ∧ m_put m z kd t s a ld b v 624 (13 * z + 2) = s ∧ m_put m z kd t s a ld b v 624 (13 * z + 3) = a ∧ m_put m z kd t s a ld b v 624 (13 * z + 4) = ld ∧ m_put m z kd t s a ld b v 624 (13 * z + 5) = b ∧ m_put m z kd t s a ld b v 624 (13 * z + 6) = v := by
  unfold m_put
  refine ⟨?_, ?_, ?_, ?_, ?_, ?_, ?_⟩ <;> simp [up2]
theorem CR_send {n B : Nat} {d m e : DD} {kd t s a ld b v : Int32} (hn : n ≤ 3) (h : CR n B d m) (he : ∀ c, c ≠ 480 → c ≠ 550 → e c = d c)
    (f0 : e 480 0 = kd) (f1 : e 480 1 = t) (f2 : e 480 2 = s) (f3 : e 480 3 = a) (f4 : e 480 4 = ld) (f5 : e 480 5 = b) (f6 : e 480 6 = v) (hs : MSH n B kd t s a ld b v) (hk : ¬ kd = 2) {c : Int32} (hc : c = kc kd) : CR n B (f_send e) (m_snd m c t s a ld b v) := by
  subst hc
  refine CR_sendG hn h he (fun z hz gz => ?_) (fun gz => m_snd_full gz)
  rw [m_snd_lt hz gz]
  obtain ⟨p0, p1, p2, p3, p4, p5, p6⟩ := m_put_at (m := m) (z := z) (kd := kc kd) (t := t) (s := s) (a := a) (ld := ld) (b := b) (v := v)
  refine ⟨fun c h1 h2 => m_put_off h1 h2, fun k hk => m_put_mo hk, m_put_sz, fun k hk => m_put_lo hk, ?_, ?_, fun k k1 k2 => ?_, fun h2 => absurd (f0.symm.trans h2) hk⟩
  · rw [f0, f1, f2, f3, f4, f5, f6]
    exact hs
  · rw [f0]
    exact p0
  · rcases (show k = 1 ∨ k = 2 ∨ k = 3 ∨ k = 4 ∨ k = 5 ∨ k = 6 by omega) with rfl | rfl | rfl | rfl | rfl | rfl
    · rw [f1]; exact p1
    · rw [f2]; exact p2
    · rw [f3]; exact p3
    · rw [f4]; exact p4
    · rw [f5]; exact p5
    · rw [f6]; exact p6
/-- the draft -/
theorem f_clear_480 {d : DD} {kd t : Int32} : f_clear d 60 kd t 480 0 = kd ∧ f_clear d 60 kd t 480 1 = t ∧ f_clear d 60 kd t 480 2 = -1 ∧ f_clear d 60 kd t 480 3 = -1 ∧ f_clear d 60 kd t 480 4 = -1 ∧ f_clear d 60 kd t 480 5 = -1 ∧ f_clear d 60 kd t 480 6 = -1 := by
  have h : f_clear d 60 kd t 480 = f_cl7 d 60 kd t 480 := f_fill_off (by decide)
  rw [h]
  refine ⟨?_, ?_, ?_, ?_, ?_, ?_, ?_⟩ <;> simp [f_cl7, up2]
theorem mem_has : ∀ q : Nat, q < 8 → ∀ s : Nat, s < 3 → (hasI (nI q) s = 0 ↔ memI (nI q) s = 0) := by decide +kernel
theorem CR_mem {n B : Nat} {d m : DD} (h : CR n B d m) {t s : Nat} (ht : t < 8) (hs : s < 3) : hasI (d 6 t) s = 0 ↔ memI (m 608 t) s = 0 := by
  obtain ⟨e, q, hq, fq⟩ := h.1.2.2.1 t ht
  rw [← e, fq]
  exact mem_has q hq s hs
theorem CR_sts {n B : Nat} {d m : DD} {kd v : Int32} {t s : Nat} (hn : n ≤ 3) (h : CR n B d m) (hs : MSH n B kd (nI t) (nI s) (-1) (-1) (-1) v) (hk : ¬ kd = 2) {c : Int32} (hc : c = kc kd) : CR n B (f_sts d kd (nI t) (nI s) v) (m_snd m c (nI t) (nI s) (-1) (-1) (-1) v) := by
  obtain ⟨p0, p1, p2, p3, p4, p5, p6⟩ := f_clear_480 (d := d) (kd := kd) (t := nI t)
  refine CR_send hn h (fun c h1 h2 => ?_) ?_ ?_ ?_ ?_ ?_ ?_ ?_ hs hk hc
  · rw [up2_off h1, up2_off h1, f_clear_off (by omega) (by omega)]
  · rw [up2_nk (by decide), up2_nk (by decide), p0]
  · rw [up2_nk (by decide), up2_nk (by decide), p1]
  · rw [up2_nk (by decide), up2_self]
  · rw [up2_nk (by decide), up2_nk (by decide), p3]
  · rw [up2_nk (by decide), up2_nk (by decide), p4]
  · rw [up2_nk (by decide), up2_nk (by decide), p5]
  · rw [up2_self]
theorem CR_rq {n B : Nat} {d m : DD} {t : Nat} (hn : n ≤ 3) (ht : t < 8) (h : CR n B d m) : ∀ j, j ≤ 3 → CR n B (lpRq d t j) (lpMRq m t j)
  | 0, _ => h
  | j + 1, hj => by
    have ih := CR_rq hn ht h j (by omega)
    unfold lpRq lpMRq
    by_cases c : hasI (lpRq d t j 6 t) j = 0
    · rw [if_pos c, if_pos ((CR_mem ih ht (by omega)).mp c)]
      exact ih
    · rw [if_neg c, if_neg (fun g => c ((CR_mem ih ht (by omega)).mpr g))]
      exact CR_sts hn ih (Or.inl ⟨rfl, ⟨t, ht, rfl⟩, ⟨j, by omega, rfl⟩, rfl, rfl, rfl, rfl⟩) (by decide) rfl
theorem CR_so {n B : Nat} {d m : DD} {t v : Nat} (hn : n ≤ 3) (ht : t < 8) (hv : v ≤ 1) (h : CR n B d m) : ∀ j, j ≤ 3 → CR n B (lpSO d t (nI v) j) (lpMO m t (nI v) j)
  | 0, _ => h
  | j + 1, hj => by
    have ih := CR_so hn ht hv h j (by omega)
    unfold lpSO lpMO
    by_cases c : hasI (lpSO d t (nI v) j 6 t) j = 0
    · rw [if_pos c, if_pos ((CR_mem ih ht (by omega)).mp c)]
      exact ih
    · rw [if_neg c, if_neg (fun g => c ((CR_mem ih ht (by omega)).mpr g))]
      exact CR_sts hn ih (Or.inr (Or.inr (Or.inr (Or.inr (Or.inr ⟨rfl, ⟨t, ht, rfl⟩, ⟨j, by omega, rfl⟩, rfl, rfl, rfl, ⟨v, hv, rfl⟩⟩))))) (by decide) rfl
theorem CR_sv {n B : Nat} {d m : DD} {t s b v : Nat} (hn : n ≤ 3) (ht : t < 8) (hs : s < 3) (hb : b ≤ B) (hv : v ≤ 1) (h : CR n B d m) : ∀ j, j ≤ n → CR n B (lpSV d (nI t) (nI s) (nI b) (nI v) j) (lpMV m (nI t) (nI s) (nI b) (nI v) j)
  | 0, _ => h
  | j + 1, hj => by
    have ih := CR_sv hn ht hs hb hv h j (by omega)
    obtain ⟨p0, p1, p2, p3, p4, p5, p6⟩ := f_clear_480 (d := lpSV d (nI t) (nI s) (nI b) (nI v) j) (kd := 3) (t := nI t)
    refine CR_send (kd := 3) hn ih (fun c h1 h2 => ?_) ?_ ?_ ?_ ?_ ?_ ?_ ?_ (Or.inr (Or.inr (Or.inr (Or.inl ⟨rfl, ⟨t, ht, rfl⟩, ⟨s, hs, rfl⟩, ⟨j, by omega, rfl⟩, rfl, ⟨b, hb, rfl⟩, ⟨v, hv, rfl⟩⟩)))) (by decide) rfl
    · rw [up2_off h1, up2_off h1, up2_off h1, up2_off h1, f_clear_off (by omega) (by omega)]
    · rw [up2_nk (by decide), up2_nk (by decide), up2_nk (by decide), up2_nk (by decide), p0]
    · rw [up2_nk (by decide), up2_nk (by decide), up2_nk (by decide), up2_nk (by decide), p1]
    · rw [up2_nk (by decide), up2_nk (by decide), up2_nk (by decide), up2_self]
    · rw [up2_nk (by decide), up2_nk (by decide), up2_self]
    · rw [up2_nk (by decide), up2_nk (by decide), up2_nk (by decide), up2_nk (by decide), p4]
    · rw [up2_nk (by decide), up2_self]
    · rw [up2_self]
theorem CR_sa {n B : Nat} {d m : DD} {t b : Nat} (hn : n ≤ 3) (ht : t < 8) (hb1 : 1 ≤ b) (hb : b ≤ B) (h : CR n B d m) : ∀ j, j ≤ n → CR n B (lpSA d (nI t) (nI b) j) (lpMA m (nI t) (nI b) j)
  | 0, _ => h
  | j + 1, hj => by
    have ih := CR_sa hn ht hb1 hb h j (by omega)
    obtain ⟨p0, p1, p2, p3, p4, p5, p6⟩ := f_clear_480 (d := lpSA d (nI t) (nI b) j) (kd := 1) (t := nI t)
    refine CR_send (kd := 1) hn ih (fun c h1 h2 => ?_) ?_ ?_ ?_ ?_ ?_ ?_ ?_ (Or.inr (Or.inl ⟨rfl, ⟨t, ht, rfl⟩, rfl, ⟨j, by omega, rfl⟩, rfl, ⟨b, hb1, hb, rfl⟩, rfl⟩)) (by decide) rfl
    · rw [up2_off h1, up2_off h1, f_clear_off (by omega) (by omega)]
    · rw [up2_nk (by decide), up2_nk (by decide), p0]
    · rw [up2_nk (by decide), up2_nk (by decide), p1]
    · rw [up2_nk (by decide), up2_nk (by decide), p2]
    · rw [up2_nk (by decide), up2_self]
    · rw [up2_nk (by decide), up2_nk (by decide), p4]
    · rw [up2_self]
    · rw [up2_nk (by decide), up2_nk (by decide), p6]
theorem CR_mt {n B : Nat} {d m : DD} {t s a b v : Nat} (hn : n ≤ 3) (ht : t < 8) (hs : s < 3) (ha : a < n) (hb : b ≤ B) (hv : v ≤ 1) (h : CR n B d m) : ∀ j, j ≤ 2 → CR n B (lpTold d (nI t) (nI s) (nI a) (nI b) (nI v) j) (lpMT m (nI t) (nI s) (nI a) (nI b) (nI v) j)
  | 0, _ => h
  | j + 1, hj => by
    have ih := CR_mt hn ht hs ha hb hv h j (by omega)
    obtain ⟨p0, p1, p2, p3, p4, p5, p6⟩ := f_clear_480 (d := lpTold d (nI t) (nI s) (nI a) (nI b) (nI v) j) (kd := 4) (t := nI t)
    refine CR_send (kd := 4) hn ih (fun c h1 h2 => ?_) ?_ ?_ ?_ ?_ ?_ ?_ ?_ (Or.inr (Or.inr (Or.inr (Or.inr (Or.inl ⟨rfl, ⟨t, ht, rfl⟩, ⟨s, hs, rfl⟩, ⟨a, ha, rfl⟩, ⟨j, by omega, rfl⟩, ⟨b, hb, rfl⟩, ⟨v, hv, rfl⟩⟩))))) (by decide) rfl
    · rw [up2_off h1, up2_off h1, up2_off h1, up2_off h1, up2_off h1, f_clear_off (by omega) (by omega)]
    · rw [up2_nk (by decide), up2_nk (by decide), up2_nk (by decide), up2_nk (by decide), up2_nk (by decide), p0]
    · rw [up2_nk (by decide), up2_nk (by decide), up2_nk (by decide), up2_nk (by decide), up2_nk (by decide), p1]
    · rw [up2_nk (by decide), up2_nk (by decide), up2_nk (by decide), up2_nk (by decide), up2_self]
    · rw [up2_nk (by decide), up2_nk (by decide), up2_nk (by decide), up2_self]
    · rw [up2_nk (by decide), up2_nk (by decide), up2_self]
    · rw [up2_nk (by decide), up2_self]
    · rw [up2_self]
