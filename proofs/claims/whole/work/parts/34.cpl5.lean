/-! Leaders, beside the reference's. -/
theorem up2_id {d : DD} {c k : Nat} {v : Int32} (h : d c k = v) : up2 d c k v = d := by
  funext c' k'
  unfold up2
  split
  · rename_i e
    rw [e.1, e.2, h]
  · rfl
theorem K_lat_u {n B : Nat} (hn : n ≤ 3) {d m : DD} (h : K_lat n B d m) {i0 a0 s0 : Nat} (hi0 : i0 < 16) (ha0 : a0 < n) (hs0 : s0 < 3) {x y z : Int32} (hx : PK B x y z) : K_lat n B (up2 d (4 * i0 + a0 + 350) s0 x) (up2 (up2 m 622 (9 * i0 + 3 * a0 + s0) y) 623 (9 * i0 + 3 * a0 + s0) z) := by
  intro i a s hi ha hs
  by_cases e : i = i0 ∧ a = a0 ∧ s = s0
  · obtain ⟨rfl, rfl, rfl⟩ := e
    refine ⟨fun _ => ?_, fun hna => absurd ha0 hna⟩
    rw [up2_self, up2_self, up2_nc (by decide), up2_self]
    exact hx
  · obtain ⟨h1, h2⟩ := h i a s hi ha hs
    have e1 : up2 (up2 m 622 (9 * i0 + 3 * a0 + s0) y) 623 (9 * i0 + 3 * a0 + s0) z 622 (9 * i + 3 * a + s) = m 622 (9 * i + 3 * a + s) := (up2_nc (by decide)).trans (up2_nk (by omega))
    have e2 : up2 (up2 m 622 (9 * i0 + 3 * a0 + s0) y) 623 (9 * i0 + 3 * a0 + s0) z 623 (9 * i + 3 * a + s) = m 623 (9 * i + 3 * a + s) := (up2_nk (by omega)).trans (up2_nc (by decide))
    rw [e1, e2]
    refine ⟨fun hna => ?_, h2⟩
    rw [show up2 d (4 * i0 + a0 + 350) s0 x (4 * i + a + 350) s = d (4 * i + a + 350) s from if_neg (by omega)]
    exact h1 hna
theorem CR_u_lat {n B : Nat} {d m : DD} (hn : n ≤ 3) (h : CR n B d m) {i0 a0 s0 : Nat} (hi0 : i0 < 16) (ha0 : a0 < n) (hs0 : s0 < 3) {x y z : Int32} (hx : PK B x y z) : CR n B (up2 d (4 * i0 + a0 + 350) s0 x) (up2 (up2 m 622 (9 * i0 + 3 * a0 + s0) y) 623 (9 * i0 + 3 * a0 + s0) z) := by
  refine ⟨?_, NR_c h.2 (fun c hc => up2_off (by omega)) (congrFun ((up2_off (by omega)).trans (up2_off (by omega))) _) (congrFun ((up2_off (by omega)).trans (up2_off (by omega))) _) ((up2_off (by omega)).trans (up2_off (by omega)))⟩
  obtain ⟨c_num, c_ups, c_mem, c_clo, c_val, c_loc, c_sta, c_wrt, c_wrs, c_pro, c_tak, c_bal, c_prp, c_kno, c_hr, c_rpl, c_lat⟩ := h.1
  exact ⟨(K_num_c c_num (up2_off (by omega)) (congrFun ((up2_off (by omega)).trans (up2_off (by omega))) _) (congrFun ((up2_off (by omega)).trans (up2_off (by omega))) _)), (K_ups_c c_ups (up2_off (by omega)) ((up2_off (by omega)).trans (up2_off (by omega))) ((up2_off (by omega)).trans (up2_off (by omega))) ((up2_off (by omega)).trans (up2_off (by omega)))), (K_mem_c c_mem (fun _ _ => congrFun (up2_off (by omega)) _) ((up2_off (by omega)).trans (up2_off (by omega)))), (K_clo_c c_clo (fun _ _ => congrFun (up2_off (by omega)) _) ((up2_off (by omega)).trans (up2_off (by omega)))), (K_val_c c_val (fun _ _ _ _ => congrFun (up2_off (by omega)) _) ((up2_off (by omega)).trans (up2_off (by omega)))), (K_loc_c c_loc (fun _ _ _ _ => congrFun (up2_off (by omega)) _) ((up2_off (by omega)).trans (up2_off (by omega)))), (K_sta_c c_sta (fun _ _ _ _ => congrFun (up2_off (by omega)) _) ((up2_off (by omega)).trans (up2_off (by omega)))), (K_wrt_c c_wrt (fun _ _ _ _ => congrFun (up2_off (by omega)) _) ((up2_off (by omega)).trans (up2_off (by omega)))), (K_wrs_c c_wrs (fun _ _ _ _ _ _ => congrFun (up2_off (by omega)) _) ((up2_off (by omega)).trans (up2_off (by omega)))), (K_pro_c c_pro (fun _ _ _ _ _ _ => congrFun (up2_off (by omega)) _) ((up2_off (by omega)).trans (up2_off (by omega)))), (K_tak_c c_tak (fun _ _ _ _ _ _ => congrFun (up2_off (by omega)) _) ((up2_off (by omega)).trans (up2_off (by omega))) ((up2_off (by omega)).trans (up2_off (by omega)))), (K_bal_c c_bal (fun _ _ => congrFun (up2_off (by omega)) _) ((up2_off (by omega)).trans (up2_off (by omega)))), (K_prp_c c_prp (fun _ _ => congrFun (up2_off (by omega)) _) (fun _ _ => congrFun (up2_off (by omega)) _) ((up2_off (by omega)).trans (up2_off (by omega)))), (K_kno_c c_kno (fun _ _ => congrFun (up2_off (by omega)) _) ((up2_off (by omega)).trans (up2_off (by omega)))), (K_hr_c c_hr (fun _ _ => up2_off (by omega)) ((up2_off (by omega)).trans (up2_off (by omega)))), (K_rpl_c c_rpl (fun _ _ _ _ => up2_off (by omega)) ((up2_off (by omega)).trans (up2_off (by omega))) ((up2_off (by omega)).trans (up2_off (by omega))) ((up2_off (by omega)).trans (up2_off (by omega)))), (K_lat_u hn c_lat hi0 ha0 hs0 hx)⟩
theorem CR_lat {n B : Nat} {d m : DD} (h : CR n B d m) : K_lat n B d m := h.1.2.2.2.2.2.2.2.2.2.2.2.2.2.2.2.2
theorem CR_hear {n B : Nat} {d m : DD} {i a s b v : Nat} (hn : n ≤ 3) (hi : i < 16) (ha : a < n) (hs : s < 3) (hb : b ≤ B) (hv : v ≤ 1) (hB : B < 1000000) (h : CR n B d m) : CR n B (f_hear d i a s (nI b) (nI v)) (m_hear m i a s (nI b) (nI v)) := by
  have hp := (CR_lat h i a s hi (by omega) hs).1 ha
  unfold f_hear m_hear
  rw [PK_bal hB hp]
  split
  · exact h
  · exact CR_u_lat hn h hi ha hs (PK_mk hb hv)
/-- how many say the same -/
theorem sm_eq {n B : Nat} {d m : DD} {i a s : Nat} (hn : n ≤ 3) (hi : i < 16) (ha : a < n) (hs : s < 3) (hB : B < 1000000) (h : K_lat n B d m) (hc : ¬ d (4 * i + a + 350) s = -1) : ∀ o, o ≤ n → smM m i s (9 * i + 3 * a + s) o = sameI d i s (d (4 * i + a + 350) s) o
  | 0, _ => rfl
  | o + 1, ho => by
    have ih := sm_eq hn hi ha hs hB h hc o (by omega)
    have p1 := (h i a s hi (by omega) hs).1 ha
    have p2 := (h i o s hi (by omega) hs).1 (by omega)
    have h0 : ¬ m 622 (9 * i + 3 * a + s) < 0 := fun g => hc ((PK_neg hB p1).mpr g)
    have he := PK_eq hB p1 p2 hc
    unfold smM sameI
    rw [if_neg h0, ih]
    by_cases c : d (4 * i + o + 350) s = d (4 * i + a + 350) s
    · obtain ⟨c1, c2⟩ := he.mp c
      rw [if_pos c, if_pos c1, if_pos c2]
    · rw [if_neg c]
      by_cases c1 : m 622 (9 * i + 3 * o + s) = m 622 (9 * i + 3 * a + s)
      · rw [if_pos c1, if_neg (fun c2 => c (he.mpr ⟨c1, c2⟩)), Int32.add_zero]
      · rw [if_neg c1, Int32.add_zero]
theorem sm_rest {n B : Nat} {d m : DD} {i a s : Nat} (hn : n ≤ 3) (hi : i < 16) (ha : a < n) (hs : s < 3) (hB : B < 1000000) (h : K_lat n B d m) (hc : ¬ d (4 * i + a + 350) s = -1) : ∀ o, n + o ≤ 3 → smM m i s (9 * i + 3 * a + s) (n + o) = sameI d i s (d (4 * i + a + 350) s) n
  | 0, _ => sm_eq hn hi ha hs hB h hc n (Nat.le_refl _)
  | o + 1, ho => by
    have ih := sm_rest hn hi ha hs hB h hc o (by omega)
    have p1 := (h i a s hi (by omega) hs).1 ha
    have p2 := (h i (n + o) s hi (by omega) hs).2 (by omega)
    have h0 : ¬ m 622 (9 * i + 3 * a + s) < 0 := fun g => hc ((PK_neg hB p1).mpr g)
    rw [show n + (o + 1) = (n + o) + 1 by omega, smM, if_neg h0, if_neg (fun g => h0 (by rw [← g, p2]; decide)), ih]
theorem sm_neg {m : DD} {i s x : Nat} (h : m 622 x < 0) : ∀ o, smM m i s x o = 0
  | 0 => rfl
  | o + 1 => by rw [smM, if_pos h, sm_neg h o]
theorem most_n {n : Nat} (h : n = 1 ∨ n = 3) : (0 : Int32) < mostI (nI n) := by
  rcases h with rfl | rfl <;> decide
theorem dv_dc {n B : Nat} {d m : DD} {i s : Nat} {mj : Int32} (hn : n = 1 ∨ n = 3) (hi : i < 16) (hs : s < 3) (hB : B < 1000000) (h : K_lat n B d m) (hm : m 600 1 = nI n) (hj : mj = mostI (nI n)) : ∀ j a, j + a = n → dvF d n i s mj (n - a) = dcF m i s (3 - a) ∧ (dcF m i s (3 - a) = -1 ∨ dcF m i s (3 - a) = 0 ∨ dcF m i s (3 - a) = 1)
  | 0, a, ha => by
    obtain rfl : a = n := by omega
    rw [Nat.sub_self]
    have hsk : ∀ b, a ≤ b → b < 3 → dcF m i s (3 - b) = dcF m i s (3 - (b + 1)) := fun b h1 h2 => dcF_skip h2 (by
      rw [sm_neg (by rw [(h i b s hi h2 hs).2 (by omega)]; decide), hm]
      exact most_n hn)
    have e : dcF m i s (3 - a) = -1 := by
      rcases hn with rfl | rfl
      · rw [hsk 1 (by decide) (by decide), hsk 2 (by decide) (by decide)]; rfl
      · rfl
    exact ⟨e.symm ▸ rfl, Or.inl e⟩
  | j + 1, a, ha => by
    have hn3 : n ≤ 3 := by omega
    have ih := dv_dc hn hi hs hB h hm hj j (a + 1) (by omega)
    have p1 := (h i a s hi (by omega) hs).1 (by omega)
    by_cases c : d (4 * i + a + 350) s = -1
    · rw [dvF_skip (by omega) (Or.inl c), dcF_skip (by omega) (by rw [sm_neg ((PK_neg hB p1).mp c), hm]; exact most_n hn)]
      exact ih
    · have es := sm_rest hn3 hi (show a < n by omega) hs hB h c (3 - n) (by omega)
      rw [show n + (3 - n) = 3 by omega] at es
      by_cases c2 : sameI d i s (d (4 * i + a + 350) s) n < mj
      · rw [dvF_skip (by omega) (Or.inr c2), dcF_skip (by omega) (by rw [es, hm, ← hj]; exact c2)]
        exact ih
      · rw [dvF_hit (by omega) c c2, dcF_hit (by omega) (by rw [es, hm, ← hj]; exact c2)]
        have hv := PK_vot hB p1 c
        refine ⟨hv, ?_⟩
        rw [← hv]
        unfold votI
        split
        · exact Or.inr (Or.inl rfl)
        · exact Or.inr (Or.inr rfl)
theorem jg_td {d m : DD} {n i t : Nat} {mem mj : Int32} (hm : ∀ s, s < 3 → (hasI mem s = 0 ↔ memI (m 608 t) s = 0)) (hv : ∀ s, s < 3 → dvF d n i s mj n = dcF m i s 3) (h3 : ∀ s, s < 3 → dcF m i s 3 = -1 ∨ dcF m i s 3 = 0 ∨ dcF m i s 3 = 1) :
    (tdN m i t 3 = 0 ∧ tdA m i t 3 = 0 ∧ jgF d n i mem mj 3 = -1) ∨ (¬ tdN m i t 3 = 0 ∧ jgF d n i mem mj 3 = 0) ∨ (tdN m i t 3 = 0 ∧ ¬ tdA m i t 3 = 0 ∧ jgF d n i mem mj 3 = 1) := by
  have m0 := hm 0 (by decide)
  have m1 := hm 1 (by decide)
  have m2 := hm 2 (by decide)
  simp only [jgF, outF, tdN, tdA, hv 0 (by decide), hv 1 (by decide), hv 2 (by decide), Nat.reduceAdd, Nat.reduceSub, m0, m1, m2]
  have d01 : ¬ (-1 : Int32) = 0 := by decide
  have d02 : ¬ (-1 : Int32) = 1 := by decide
  have d03 : ¬ (1 : Int32) = 0 := by decide
  have d04 : ¬ (0 : Int32) = 1 := by decide
  have d05 : ¬ (0 : Int32) = -1 := by decide
  have d06 : ¬ (1 : Int32) = -1 := by decide
  by_cases c0 : memI (m 608 t) 0 = 0 <;> by_cases c1 : memI (m 608 t) 1 = 0 <;> by_cases c2 : memI (m 608 t) 2 = 0 <;> rcases h3 0 (by decide) with v0 | v0 | v0 <;> rcases h3 1 (by decide) with v1 | v1 | v1 <;> rcases h3 2 (by decide) with v2 | v2 | v2 <;> simp only [c0, c1, c2, v0, v1, v2, if_true, if_false, d01, d02, d03, d04, d05, d06] <;> decide
