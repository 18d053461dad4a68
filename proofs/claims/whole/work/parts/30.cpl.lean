/-! THE CLASS BESIDE THE REFERENCE: d is read at the class's cells, m at the reference's. -/
/-- a ballot with its vote: packed, or nothing; beside it the reference's two numbers -/
def PK (B : Nat) (x b v : Int32) : Prop := (x = -1 ∧ b = -1) ∨ ∃ bb vv : Nat, bb ≤ B ∧ vv ≤ 1 ∧ b = nI bb ∧ v = nI vv ∧ x = nI (2 * bb + vv)
theorem PK_mono {B B' : Nat} (hB : B ≤ B') {x b v : Int32} (h : PK B x b v) : PK B' x b v := by
  rcases h with h | ⟨bb, vv, h1, h2⟩
  · exact Or.inl h
  · exact Or.inr ⟨bb, vv, by omega, h2⟩
theorem PK_none {B : Nat} {v : Int32} : PK B (-1) (-1) v := Or.inl ⟨rfl, rfl⟩
theorem PK_mk {B bb vv : Nat} (h1 : bb ≤ B) (h2 : vv ≤ 1) : PK B (packI (nI bb) (nI vv)) (nI bb) (nI vv) := Or.inr ⟨bb, vv, h1, h2, rfl, rfl, by
  unfold packI
  rw [show (2 : Int32) = nI 2 from rfl, pk_mul, nI_add]⟩
theorem nI_m1 {k : Nat} (h : k < 2 ^ 31) : ¬ nI k = -1 := fun e => by
  have h2 := nI_pos h
  rw [e] at h2
  exact h2 (by decide)
theorem PK_bal {B : Nat} (hB : B < 1000000) {x b v : Int32} (h : PK B x b v) : balI x = b := by
  rcases h with ⟨rfl, rfl⟩ | ⟨bb, vv, h1, h2, rfl, rfl, rfl⟩
  · rfl
  · unfold balI
    rw [if_neg (nI_m1 (by omega)), show (2 : Int32) = nI 2 from rfl, pk_div (by omega) (by decide) (by decide), show (2 * bb + vv) / 2 = bb by omega]
theorem PK_vot {B : Nat} (hB : B < 1000000) {x b v : Int32} (h : PK B x b v) (hx : ¬ x = -1) : votI x = v := by
  rcases h with ⟨rfl, rfl⟩ | ⟨bb, vv, h1, h2, rfl, rfl, rfl⟩
  · exact absurd rfl hx
  · unfold votI
    rw [show (2 : Int32) = nI 2 from rfl, pk_rem (by omega) (by decide) (by decide), show (2 * bb + vv) % 2 = vv by omega]
    rcases (show vv = 0 ∨ vv = 1 by omega) with rfl | rfl <;> rfl
theorem PK_neg {B : Nat} (hB : B < 1000000) {x b v : Int32} (h : PK B x b v) : x = -1 ↔ b < 0 := by
  rcases h with ⟨rfl, rfl⟩ | ⟨bb, vv, h1, h2, rfl, rfl, rfl⟩
  · exact ⟨fun _ => by decide, fun _ => rfl⟩
  · exact ⟨fun e => absurd e (nI_m1 (by omega)), fun e => absurd e (nI_pos (by omega))⟩
theorem PK_eq {B : Nat} (hB : B < 1000000) {x b v x' b' v' : Int32} (h : PK B x b v) (h' : PK B x' b' v') (hx : ¬ x = -1) : x' = x ↔ (b' = b ∧ v' = v) := by
  rcases h with ⟨rfl, rfl⟩ | ⟨bb, vv, h1, h2, rfl, rfl, rfl⟩
  · exact absurd rfl hx
  · rcases h' with ⟨rfl, rfl⟩ | ⟨bb', vv', h1', h2', rfl, rfl, rfl⟩
    · exact ⟨fun e => absurd e.symm hx, fun e => absurd e.1.symm (nI_m1 (by omega))⟩
    · rw [nI_eq (by omega) (by omega), nI_eq (by omega) (by omega), nI_eq (by omega) (by omega)]
      omega
/-- what a leader knows -/
def KN (x y : Int32) : Prop := (x = -1 ∧ y = -1) ∨ (x = 1 ∧ y = 0) ∨ (x = 0 ∧ y = 1)
def K_val (d m : DD) : Prop := ∀ s k : Nat, s < 3 → k < 4 → (d (s + 20) k) = (m 605 (4 * s + k))
theorem K_val_c {d m d' m' : DD} (h : K_val d m) (e1 : ∀ s k : Nat, s < 3 → k < 4 → d' (s + 20) k = d (s + 20) k) (e2 : m' 605 = m 605) : K_val d' m' := by
  intro s k hs hk
  rw [e1 s k hs hk, e2]
  exact h s k hs hk
theorem K_val_u {d m : DD} (h : K_val d m) {s0 k0 : Nat} (hs0 : s0 < 3) (hk0 : k0 < 4) {x y : Int32} (hx : x = y) : K_val (up2 d (s0 + 20) k0 x) (up2 m 605 (4 * s0 + k0) y) := by
  intro s k hs hk
  by_cases e : s = s0 ∧ k = k0
  · obtain ⟨rfl, rfl⟩ := e
    rw [up2_self, up2_self]
    exact hx
  · rw [show up2 d (s0 + 20) k0 x (s + 20) k = d (s + 20) k from if_neg (by omega), show up2 m 605 (4 * s0 + k0) y 605 (4 * s + k) = m 605 (4 * s + k) from if_neg (by omega)]
    exact h s k hs hk
def K_loc (d m : DD) : Prop := ∀ s k : Nat, s < 3 → k < 4 → (d (s + 30) k) = (m 606 (4 * s + k)) ∧ ((d (s + 30) k) = -1 ∨ ∃ q : Nat, q < 8 ∧ (d (s + 30) k) = nI q)
theorem K_loc_c {d m d' m' : DD} (h : K_loc d m) (e1 : ∀ s k : Nat, s < 3 → k < 4 → d' (s + 30) k = d (s + 30) k) (e2 : m' 606 = m 606) : K_loc d' m' := by
  intro s k hs hk
  rw [e1 s k hs hk, e2]
  exact h s k hs hk
theorem K_loc_u {d m : DD} (h : K_loc d m) {s0 k0 : Nat} (hs0 : s0 < 3) (hk0 : k0 < 4) {x y : Int32} (hx : x = y ∧ (x = -1 ∨ ∃ q : Nat, q < 8 ∧ x = nI q)) : K_loc (up2 d (s0 + 30) k0 x) (up2 m 606 (4 * s0 + k0) y) := by
  intro s k hs hk
  by_cases e : s = s0 ∧ k = k0
  · obtain ⟨rfl, rfl⟩ := e
    rw [up2_self, up2_self]
    exact hx
  · rw [show up2 d (s0 + 30) k0 x (s + 30) k = d (s + 30) k from if_neg (by omega), show up2 m 606 (4 * s0 + k0) y 606 (4 * s + k) = m 606 (4 * s + k) from if_neg (by omega)]
    exact h s k hs hk
def K_sta (d m : DD) : Prop := ∀ s t : Nat, s < 3 → t < 8 → (d (s + 40) t) = (m 610 (3 * t + s)) ∧ ∃ q : Nat, q ≤ 4 ∧ (d (s + 40) t) = nI q
theorem K_sta_c {d m d' m' : DD} (h : K_sta d m) (e1 : ∀ s t : Nat, s < 3 → t < 8 → d' (s + 40) t = d (s + 40) t) (e2 : m' 610 = m 610) : K_sta d' m' := by
  intro s t hs ht
  rw [e1 s t hs ht, e2]
  exact h s t hs ht
theorem K_sta_u {d m : DD} (h : K_sta d m) {s0 t0 : Nat} (hs0 : s0 < 3) (ht0 : t0 < 8) {x y : Int32} (hx : x = y ∧ ∃ q : Nat, q ≤ 4 ∧ x = nI q) : K_sta (up2 d (s0 + 40) t0 x) (up2 m 610 (3 * t0 + s0) y) := by
  intro s t hs ht
  by_cases e : s = s0 ∧ t = t0
  · obtain ⟨rfl, rfl⟩ := e
    rw [up2_self, up2_self]
    exact hx
  · rw [show up2 d (s0 + 40) t0 x (s + 40) t = d (s + 40) t from if_neg (by omega), show up2 m 610 (3 * t0 + s0) y 610 (3 * t + s) = m 610 (3 * t + s) from if_neg (by omega)]
    exact h s t hs ht
def K_wrt (d m : DD) : Prop := ∀ s t : Nat, s < 3 → t < 8 → (d (s + 50) t) = (m 611 (3 * t + s)) ∧ ∃ q : Nat, q < 16 ∧ (d (s + 50) t) = nI q
theorem K_wrt_c {d m d' m' : DD} (h : K_wrt d m) (e1 : ∀ s t : Nat, s < 3 → t < 8 → d' (s + 50) t = d (s + 50) t) (e2 : m' 611 = m 611) : K_wrt d' m' := by
  intro s t hs ht
  rw [e1 s t hs ht, e2]
  exact h s t hs ht
theorem K_wrt_u {d m : DD} (h : K_wrt d m) {s0 t0 : Nat} (hs0 : s0 < 3) (ht0 : t0 < 8) {x y : Int32} (hx : x = y ∧ ∃ q : Nat, q < 16 ∧ x = nI q) : K_wrt (up2 d (s0 + 50) t0 x) (up2 m 611 (3 * t0 + s0) y) := by
  intro s t hs ht
  by_cases e : s = s0 ∧ t = t0
  · obtain ⟨rfl, rfl⟩ := e
    rw [up2_self, up2_self]
    exact hx
  · rw [show up2 d (s0 + 50) t0 x (s + 50) t = d (s + 50) t from if_neg (by omega), show up2 m 611 (3 * t0 + s0) y 611 (3 * t + s) = m 611 (3 * t + s) from if_neg (by omega)]
    exact h s t hs ht
def K_wrs (d m : DD) : Prop := ∀ s t k : Nat, s < 3 → t < 8 → k < 4 → (d (8 * s + t + 70) k) = (m 612 (4 * (3 * t + s) + k))
theorem K_wrs_c {d m d' m' : DD} (h : K_wrs d m) (e1 : ∀ s t k : Nat, s < 3 → t < 8 → k < 4 → d' (8 * s + t + 70) k = d (8 * s + t + 70) k) (e2 : m' 612 = m 612) : K_wrs d' m' := by
  intro s t k hs ht hk
  rw [e1 s t k hs ht hk, e2]
  exact h s t k hs ht hk
theorem K_wrs_u {d m : DD} (h : K_wrs d m) {s0 t0 k0 : Nat} (hs0 : s0 < 3) (ht0 : t0 < 8) (hk0 : k0 < 4) {x y : Int32} (hx : x = y) : K_wrs (up2 d (8 * s0 + t0 + 70) k0 x) (up2 m 612 (4 * (3 * t0 + s0) + k0) y) := by
  intro s t k hs ht hk
  by_cases e : s = s0 ∧ t = t0 ∧ k = k0
  · obtain ⟨rfl, rfl, rfl⟩ := e
    rw [up2_self, up2_self]
    exact hx
  · rw [show up2 d (8 * s0 + t0 + 70) k0 x (8 * s + t + 70) k = d (8 * s + t + 70) k from if_neg (by omega), show up2 m 612 (4 * (3 * t0 + s0) + k0) y 612 (4 * (3 * t + s) + k) = m 612 (4 * (3 * t + s) + k) from if_neg (by omega)]
    exact h s t k hs ht hk
def K_mem (d m : DD) : Prop := ∀ t : Nat, t < 8 → (d 6 t) = (m 608 (t)) ∧ ∃ q : Nat, q < 8 ∧ (d 6 t) = nI q
theorem K_mem_c {d m d' m' : DD} (h : K_mem d m) (e1 : ∀ t : Nat, t < 8 → d' 6 t = d 6 t) (e2 : m' 608 = m 608) : K_mem d' m' := by
  intro t ht
  rw [e1 t ht, e2]
  exact h t ht
theorem K_mem_u {d m : DD} (h : K_mem d m) {t0 : Nat} (ht0 : t0 < 8) {x y : Int32} (hx : x = y ∧ ∃ q : Nat, q < 8 ∧ x = nI q) : K_mem (up2 d (6) t0 x) (up2 m 608 (t0) y) := by
  intro t ht
  by_cases e : t = t0
  · subst e
    rw [up2_self, up2_self]
    exact hx
  · rw [show up2 d (6) t0 x (6) t = d (6) t from if_neg (by omega), show up2 m 608 (t0) y 608 (t) = m 608 (t) from if_neg (by omega)]
    exact h t ht
def K_clo (d m : DD) : Prop := ∀ t : Nat, t < 8 → (d 7 t) = (m 609 (t))
theorem K_clo_c {d m d' m' : DD} (h : K_clo d m) (e1 : ∀ t : Nat, t < 8 → d' 7 t = d 7 t) (e2 : m' 609 = m 609) : K_clo d' m' := by
  intro t ht
  rw [e1 t ht, e2]
  exact h t ht
theorem K_clo_u {d m : DD} (h : K_clo d m) {t0 : Nat} (ht0 : t0 < 8) {x y : Int32} (hx : x = y) : K_clo (up2 d (7) t0 x) (up2 m 609 (t0) y) := by
  intro t ht
  by_cases e : t = t0
  · subst e
    rw [up2_self, up2_self]
    exact hx
  · rw [show up2 d (7) t0 x (7) t = d (7) t from if_neg (by omega), show up2 m 609 (t0) y 609 (t) = m 609 (t) from if_neg (by omega)]
    exact h t ht
def K_pro (n : Nat) (d m : DD) : Prop := ∀ a t s : Nat, a < n → t < 8 → s < 3 → (d (8 * a + t + 130) s) = (m 613 (24 * a + 3 * t + s))
theorem K_pro_c {n : Nat} {d m d' m' : DD} (h : K_pro n d m) (e1 : ∀ a t s : Nat, a < n → t < 8 → s < 3 → d' (8 * a + t + 130) s = d (8 * a + t + 130) s) (e2 : m' 613 = m 613) : K_pro n d' m' := by
  intro a t s ha ht hs
  rw [e1 a t s ha ht hs, e2]
  exact h a t s ha ht hs
theorem K_pro_u {n : Nat} (hn : n ≤ 3) {d m : DD} (h : K_pro n d m) {a0 t0 s0 : Nat} (ha0 : a0 < n) (ht0 : t0 < 8) (hs0 : s0 < 3) {x y : Int32} (hx : x = y) : K_pro n (up2 d (8 * a0 + t0 + 130) s0 x) (up2 m 613 (24 * a0 + 3 * t0 + s0) y) := by
  intro a t s ha ht hs
  by_cases e : a = a0 ∧ t = t0 ∧ s = s0
  · obtain ⟨rfl, rfl, rfl⟩ := e
    rw [up2_self, up2_self]
    exact hx
  · rw [show up2 d (8 * a0 + t0 + 130) s0 x (8 * a + t + 130) s = d (8 * a + t + 130) s from if_neg (by omega), show up2 m 613 (24 * a0 + 3 * t0 + s0) y 613 (24 * a + 3 * t + s) = m 613 (24 * a + 3 * t + s) from if_neg (by omega)]
    exact h a t s ha ht hs
def K_tak (n : Nat) (B : Nat) (d m : DD) : Prop := ∀ a t s : Nat, a < n → t < 8 → s < 3 → PK B (d (8 * a + t + 160) s) (m 614 (24 * a + 3 * t + s)) (m 615 (24 * a + 3 * t + s))
theorem K_tak_c {n : Nat} {B : Nat} {d m d' m' : DD} (h : K_tak n B d m) (e1 : ∀ a t s : Nat, a < n → t < 8 → s < 3 → d' (8 * a + t + 160) s = d (8 * a + t + 160) s) (e2 : m' 614 = m 614) (e3 : m' 615 = m 615) : K_tak n B d' m' := by
  intro a t s ha ht hs
  rw [e1 a t s ha ht hs, e2, e3]
  exact h a t s ha ht hs
theorem K_tak_u {n : Nat} {B : Nat} (hn : n ≤ 3) {d m : DD} (h : K_tak n B d m) {a0 t0 s0 : Nat} (ha0 : a0 < n) (ht0 : t0 < 8) (hs0 : s0 < 3) {x y z : Int32} (hx : PK B x y z) : K_tak n B (up2 d (8 * a0 + t0 + 160) s0 x) (up2 (up2 m 614 (24 * a0 + 3 * t0 + s0) y) 615 (24 * a0 + 3 * t0 + s0) z) := by
  intro a t s ha ht hs
  by_cases e : a = a0 ∧ t = t0 ∧ s = s0
  · obtain ⟨rfl, rfl, rfl⟩ := e
    rw [up2_self, up2_self, up2_nc (by decide), up2_self]
    exact hx
  · rw [show up2 d (8 * a0 + t0 + 160) s0 x (8 * a + t + 160) s = d (8 * a + t + 160) s from if_neg (by omega), show up2 (up2 m 614 (24 * a0 + 3 * t0 + s0) y) 615 (24 * a0 + 3 * t0 + s0) z 614 (24 * a + 3 * t + s) = m 614 (24 * a + 3 * t + s) from (up2_nc (by decide)).trans (if_neg (by omega)), show up2 (up2 m 614 (24 * a0 + 3 * t0 + s0) y) 615 (24 * a0 + 3 * t0 + s0) z 615 (24 * a + 3 * t + s) = m 615 (24 * a + 3 * t + s) from (if_neg (by omega)).trans (up2_nc (by decide))]
    exact h a t s ha ht hs
def K_bal (B : Nat) (d m : DD) : Prop := ∀ i : Nat, i < 16 → (d (i + 200) 0) = (m 616 (i)) ∧ ∃ q : Nat, q ≤ B ∧ (d (i + 200) 0) = nI q
theorem K_bal_c {B : Nat} {d m d' m' : DD} (h : K_bal B d m) (e1 : ∀ i : Nat, i < 16 → d' (i + 200) 0 = d (i + 200) 0) (e2 : m' 616 = m 616) : K_bal B d' m' := by
  intro i hi
  rw [e1 i hi, e2]
  exact h i hi
theorem K_bal_u {B : Nat} {d m : DD} (h : K_bal B d m) {i0 : Nat} (hi0 : i0 < 16) {x y : Int32} (hx : x = y ∧ ∃ q : Nat, q ≤ B ∧ x = nI q) : K_bal B (up2 d (i0 + 200) 0 x) (up2 m 616 (i0) y) := by
  intro i hi
  by_cases e : i = i0
  · subst e
    rw [up2_self, up2_self]
    exact hx
  · rw [show up2 d (i0 + 200) 0 x (i + 200) 0 = d (i + 200) 0 from if_neg (by omega), show up2 m 616 (i0) y 616 (i) = m 616 (i) from if_neg (by omega)]
    exact h i hi
def K_kno (d m : DD) : Prop := ∀ i : Nat, i < 16 → KN (d (i + 200) 2) (m 618 (i))
theorem K_kno_c {d m d' m' : DD} (h : K_kno d m) (e1 : ∀ i : Nat, i < 16 → d' (i + 200) 2 = d (i + 200) 2) (e2 : m' 618 = m 618) : K_kno d' m' := by
  intro i hi
  rw [e1 i hi, e2]
  exact h i hi
theorem K_kno_u {d m : DD} (h : K_kno d m) {i0 : Nat} (hi0 : i0 < 16) {x y : Int32} (hx : KN x y) : K_kno (up2 d (i0 + 200) 2 x) (up2 m 618 (i0) y) := by
  intro i hi
  by_cases e : i = i0
  · subst e
    rw [up2_self, up2_self]
    exact hx
  · rw [show up2 d (i0 + 200) 2 x (i + 200) 2 = d (i + 200) 2 from if_neg (by omega), show up2 m 618 (i0) y 618 (i) = m 618 (i) from if_neg (by omega)]
    exact h i hi
theorem K_tak_m {n B B' : Nat} (hB : B ≤ B') {d m : DD} (h : K_tak n B d m) : K_tak n B' d m := fun a t s ha ht hs => PK_mono hB (h a t s ha ht hs)
theorem K_bal_m {B B' : Nat} (hB : B ≤ B') {d m : DD} (h : K_bal B d m) : K_bal B' d m := fun i hi => by
  obtain ⟨h1, q, h2, h3⟩ := h i hi
  exact ⟨h1, q, by omega, h3⟩
def K_prp (d m : DD) : Prop := ∀ i : Nat, i < 16 → ¬ d (i + 200) 0 = 0 → d (i + 200) 1 = m 617 i
theorem K_prp_c {d m d' m' : DD} (h : K_prp d m) (e0 : ∀ i : Nat, i < 16 → d' (i + 200) 0 = d (i + 200) 0) (e1 : ∀ i : Nat, i < 16 → d' (i + 200) 1 = d (i + 200) 1) (e2 : m' 617 = m 617) : K_prp d' m' := fun i hi h0 => by
  rw [e1 i hi, e2]
  exact h i hi (by rw [← e0 i hi]; exact h0)
def K_hr (n : Nat) (d m : DD) : Prop := ∀ i a : Nat, i < 16 → a < 3 → (a < n → d (i + 220) a = m 619 (3 * i + a)) ∧ (¬ a < n → m 619 (3 * i + a) = 0)
theorem K_hr_c {n : Nat} {d m d' m' : DD} (h : K_hr n d m) (e1 : ∀ i : Nat, i < 16 → d' (i + 220) = d (i + 220)) (e2 : m' 619 = m 619) : K_hr n d' m' := fun i a hi ha => by
  rw [e1 i hi, e2]
  exact h i a hi ha
def K_rpl (n B : Nat) (d m : DD) : Prop := ∀ i a s : Nat, i < 16 → a < n → s < 3 → ¬ m 619 (3 * i + a) = 0 → PK B (d (4 * i + a + 280) s) (m 620 (9 * i + 3 * a + s)) (m 621 (9 * i + 3 * a + s))
theorem K_rpl_c {n B : Nat} {d m d' m' : DD} (h : K_rpl n B d m) (e1 : ∀ i a : Nat, i < 16 → a < n → d' (4 * i + a + 280) = d (4 * i + a + 280)) (e2 : m' 619 = m 619) (e3 : m' 620 = m 620) (e4 : m' 621 = m 621) : K_rpl n B d' m' := fun i a s hi ha hs => by
  rw [e1 i a hi ha, e2, e3, e4]
  exact h i a s hi ha hs
theorem K_rpl_m {n B B' : Nat} (hB : B ≤ B') {d m : DD} (h : K_rpl n B d m) : K_rpl n B' d m := fun i a s hi ha hs h0 => PK_mono hB (h i a s hi ha hs h0)
def K_lat (n B : Nat) (d m : DD) : Prop := ∀ i a s : Nat, i < 16 → a < 3 → s < 3 → (a < n → PK B (d (4 * i + a + 350) s) (m 622 (9 * i + 3 * a + s)) (m 623 (9 * i + 3 * a + s))) ∧ (¬ a < n → m 622 (9 * i + 3 * a + s) = -1)
theorem K_lat_c {n B : Nat} {d m d' m' : DD} (h : K_lat n B d m) (e1 : ∀ i a : Nat, i < 16 → a < n → d' (4 * i + a + 350) = d (4 * i + a + 350)) (e2 : m' 622 = m 622) (e3 : m' 623 = m 623) : K_lat n B d' m' := fun i a s hi ha hs => by
  rw [e2, e3]
  obtain ⟨h1, h2⟩ := h i a s hi ha hs
  exact ⟨fun hn => by rw [e1 i a hi hn]; exact h1 hn, h2⟩
theorem K_lat_m {n B B' : Nat} (hB : B ≤ B') {d m : DD} (h : K_lat n B d m) : K_lat n B' d m := fun i a s hi ha hs => ⟨fun hn => PK_mono hB ((h i a s hi ha hs).1 hn), (h i a s hi ha hs).2⟩
/-- who is up -/
def K_ups (n : Nat) (d m : DD) : Prop := (d 4 0 = usF m 602 3 ∧ ∀ w, w < 3 → m 602 w = 0 ∨ m 602 w = 1) ∧ (d 4 1 = usF m 603 n ∧ ∀ w, w < 3 → m 603 w = 0 ∨ m 603 w = 1) ∧ (d 4 2 = usF m 604 2 ∧ ∀ w, w < 2 → m 604 w = 0 ∨ m 604 w = 1)
theorem usF_c {d d' : DD} {c : Nat} (e : d' c = d c) : ∀ n, usF d' c n = usF d c n
  | 0 => rfl
  | n + 1 => by rw [usF, usF, usF_c e n, e]
theorem K_ups_c {n : Nat} {d m d' m' : DD} (h : K_ups n d m) (e1 : d' 4 = d 4) (e2 : m' 602 = m 602) (e3 : m' 603 = m 603) (e4 : m' 604 = m 604) : K_ups n d' m' := by
  unfold K_ups
  rw [e1, usF_c e2, usF_c e3, usF_c e4, e2, e3, e4]
  exact h
/-- how many transactions, acceptors -/
def K_num (n : Nat) (d m : DD) : Prop := (d 0 8 = m 600 7 ∧ ∃ q : Nat, q ≤ 8 ∧ d 0 8 = nI q) ∧ m 600 1 = nI n ∧ d 0 3 = mostI (nI n) ∧ (n = 1 ∨ n = 3)
theorem K_num_c {n : Nat} {d m d' m' : DD} (h : K_num n d m) (e1 : d' 0 = d 0) (e2 : m' 600 1 = m 600 1) (e3 : m' 600 7 = m 600 7) : K_num n d' m' := by
  unfold K_num
  rw [e1, e2, e3]
  exact h
def CR0 (n B : Nat) (d m : DD) : Prop := K_num n d m ∧ K_ups n d m ∧ K_mem d m ∧ K_clo d m ∧ K_val d m ∧ K_loc d m ∧ K_sta d m ∧ K_wrt d m ∧ K_wrs d m ∧ K_pro n d m ∧ K_tak n B d m ∧ K_bal B d m ∧ K_prp d m ∧ K_kno d m ∧ K_hr n d m ∧ K_rpl n B d m ∧ K_lat n B d m
theorem CR0_c {n B : Nat} {d m d' m' : DD} (hn : n ≤ 3) (h : CR0 n B d m) (e1 : ∀ c, c < 420 → c ≠ 5 → c ≠ 8 → d' c = d c) (e2 : ∀ c, 601 ≤ c → c ≠ 624 → m' c = m c) (e3 : m' 600 1 = m 600 1) (e4 : m' 600 7 = m 600 7) : CR0 n B d' m' := by
  obtain ⟨c_num, c_ups, c_mem, c_clo, c_val, c_loc, c_sta, c_wrt, c_wrs, c_pro, c_tak, c_bal, c_prp, c_kno, c_hr, c_rpl, c_lat⟩ := h
  exact ⟨(K_num_c c_num (e1 _ (by omega) (by omega) (by omega)) e3 e4), (K_ups_c c_ups (e1 _ (by omega) (by omega) (by omega)) (e2 _ (by omega) (by omega)) (e2 _ (by omega) (by omega)) (e2 _ (by omega) (by omega))), (K_mem_c c_mem (fun _ _ => congrFun (e1 _ (by omega) (by omega) (by omega)) _) (e2 _ (by omega) (by omega))), (K_clo_c c_clo (fun _ _ => congrFun (e1 _ (by omega) (by omega) (by omega)) _) (e2 _ (by omega) (by omega))), (K_val_c c_val (fun _ _ _ _ => congrFun (e1 _ (by omega) (by omega) (by omega)) _) (e2 _ (by omega) (by omega))), (K_loc_c c_loc (fun _ _ _ _ => congrFun (e1 _ (by omega) (by omega) (by omega)) _) (e2 _ (by omega) (by omega))), (K_sta_c c_sta (fun _ _ _ _ => congrFun (e1 _ (by omega) (by omega) (by omega)) _) (e2 _ (by omega) (by omega))), (K_wrt_c c_wrt (fun _ _ _ _ => congrFun (e1 _ (by omega) (by omega) (by omega)) _) (e2 _ (by omega) (by omega))), (K_wrs_c c_wrs (fun _ _ _ _ _ _ => congrFun (e1 _ (by omega) (by omega) (by omega)) _) (e2 _ (by omega) (by omega))), (K_pro_c c_pro (fun _ _ _ _ _ _ => congrFun (e1 _ (by omega) (by omega) (by omega)) _) (e2 _ (by omega) (by omega))), (K_tak_c c_tak (fun _ _ _ _ _ _ => congrFun (e1 _ (by omega) (by omega) (by omega)) _) (e2 _ (by omega) (by omega)) (e2 _ (by omega) (by omega))), (K_bal_c c_bal (fun _ _ => congrFun (e1 _ (by omega) (by omega) (by omega)) _) (e2 _ (by omega) (by omega))), (K_prp_c c_prp (fun _ _ => congrFun (e1 _ (by omega) (by omega) (by omega)) _) (fun _ _ => congrFun (e1 _ (by omega) (by omega) (by omega)) _) (e2 _ (by omega) (by omega))), (K_kno_c c_kno (fun _ _ => congrFun (e1 _ (by omega) (by omega) (by omega)) _) (e2 _ (by omega) (by omega))), (K_hr_c c_hr (fun _ _ => e1 _ (by omega) (by omega) (by omega)) (e2 _ (by omega) (by omega))), (K_rpl_c c_rpl (fun _ _ _ _ => e1 _ (by omega) (by omega) (by omega)) (e2 _ (by omega) (by omega)) (e2 _ (by omega) (by omega)) (e2 _ (by omega) (by omega))), (K_lat_c c_lat (fun _ _ _ _ => e1 _ (by omega) (by omega) (by omega)) (e2 _ (by omega) (by omega)) (e2 _ (by omega) (by omega)))⟩
