/-! What arrives, what is taken out. -/
theorem CR_up0 {n B : Nat} {d m : DD} {k w : Nat} {x y : Int32} (hn : n ≤ 3) (h : CR n B d m) (hk : k < 3) (hu : K_ups n (up2 d 4 k x) (up2 m (602 + k) w y)) : CR n B (up2 d 4 k x) (up2 m (602 + k) w y) := by
  refine ⟨?_, NR_c h.2 (fun c hc => up2_off (by omega)) (congrFun (up2_off (by omega)) _) (congrFun (up2_off (by omega)) _) (up2_off (by omega))⟩
  obtain ⟨c_num, c_ups, c_mem, c_clo, c_val, c_loc, c_sta, c_wrt, c_wrs, c_pro, c_tak, c_bal, c_prp, c_kno, c_hr, c_rpl, c_lat⟩ := h.1
  exact ⟨(K_num_c c_num (up2_off (by omega)) (congrFun (up2_off (by omega)) _) (congrFun (up2_off (by omega)) _)), hu, (K_mem_c c_mem (fun _ _ => congrFun (up2_off (by omega)) _) (up2_off (by omega))), (K_clo_c c_clo (fun _ _ => congrFun (up2_off (by omega)) _) (up2_off (by omega))), (K_val_c c_val (fun _ _ _ _ => congrFun (up2_off (by omega)) _) (up2_off (by omega))), (K_loc_c c_loc (fun _ _ _ _ => congrFun (up2_off (by omega)) _) (up2_off (by omega))), (K_sta_c c_sta (fun _ _ _ _ => congrFun (up2_off (by omega)) _) (up2_off (by omega))), (K_wrt_c c_wrt (fun _ _ _ _ => congrFun (up2_off (by omega)) _) (up2_off (by omega))), (K_wrs_c c_wrs (fun _ _ _ _ _ _ => congrFun (up2_off (by omega)) _) (up2_off (by omega))), (K_pro_c c_pro (fun _ _ _ _ _ _ => congrFun (up2_off (by omega)) _) (up2_off (by omega))), (K_tak_c c_tak (fun _ _ _ _ _ _ => congrFun (up2_off (by omega)) _) (up2_off (by omega)) (up2_off (by omega))), (K_bal_c c_bal (fun _ _ => congrFun (up2_off (by omega)) _) (up2_off (by omega))), (K_prp_c c_prp (fun _ _ => congrFun (up2_off (by omega)) _) (fun _ _ => congrFun (up2_off (by omega)) _) (up2_off (by omega))), (K_kno_c c_kno (fun _ _ => congrFun (up2_off (by omega)) _) (up2_off (by omega))), (K_hr_c c_hr (fun _ _ => up2_off (by omega)) (up2_off (by omega))), (K_rpl_c c_rpl (fun _ _ _ _ => up2_off (by omega)) (up2_off (by omega)) (up2_off (by omega)) (up2_off (by omega))), (K_lat_c c_lat (fun _ _ _ _ => up2_off (by omega)) (up2_off (by omega)) (up2_off (by omega)))⟩
theorem hm_bound {n : Nat} (hn : n = 1 ∨ n = 3) {k w : Nat} (hk : k < 3) (h : outI (nI w) (hmI n (nI k)) = 0) (hw : w < 2 ^ 31) : (k = 0 ∧ w < 3) ∨ (k = 1 ∧ w < n) ∨ (k = 2 ∧ w < 2) := by
  rcases (show k = 0 ∨ k = 1 ∨ k = 2 by omega) with rfl | rfl | rfl
  · obtain ⟨j, hj, e⟩ := out_nat (x := nI w) (B := 3) (by decide) h
    exact Or.inl ⟨rfl, by rw [(nI_eq hw (by omega)).mp e]; exact hj⟩
  · obtain ⟨j, hj, e⟩ := out_nat (x := nI w) (B := n) (by omega) h
    exact Or.inr (Or.inl ⟨rfl, by rw [(nI_eq hw (by omega)).mp e]; exact hj⟩)
  · obtain ⟨j, hj, e⟩ := out_nat (x := nI w) (B := 2) (by decide) h
    exact Or.inr (Or.inr ⟨rfl, by rw [(nI_eq hw (by omega)).mp e]; exact hj⟩)
/-- who is up, at one place -/
theorem CR_has {n B : Nat} {d m : DD} {k w : Nat} (h : CR n B d m) (hw : (k = 0 ∧ w < 3) ∨ (k = 1 ∧ w < n) ∨ (k = 2 ∧ w < 2)) : hasI (d 4 k) w = if m (602 + k) w = 0 then 1 else 0 := by
  obtain ⟨⟨a1, a2⟩, ⟨b1, b2⟩, c1, c2⟩ := CK_ups h
  obtain ⟨-, -, -, hn⟩ := CK_num h
  rcases hw with ⟨rfl, hw⟩ | ⟨rfl, hw⟩ | ⟨rfl, hw⟩
  · rw [a1]; exact (us_3 a2 hw).2.2
  · rw [b1]
    rcases hn with rfl | rfl
    · exact (us_1 b2 hw).2.2
    · exact (us_3 b2 hw).2.2
  · rw [c1]; exact (us_2 c2 hw).2.2
theorem CR_has0 {n B : Nat} {d m : DD} {k w : Nat} (h : CR n B d m) (hw : (k = 0 ∧ w < 3) ∨ (k = 1 ∧ w < n) ∨ (k = 2 ∧ w < 2)) : hasI (d 4 k) w = 0 ↔ ¬ m (602 + k) w = 0 := by
  rw [CR_has h hw]
  by_cases c : m (602 + k) w = 0
  · rw [if_pos c]; exact ⟨fun e => absurd e (by decide), fun e => absurd c e⟩
  · rw [if_neg c]; exact ⟨fun _ => c, fun _ => rfl⟩
theorem b01_u {m : DD} {c w N : Nat} {x : Int32} (hx : x = 0 ∨ x = 1) (h : ∀ j, j < N → m c j = 0 ∨ m c j = 1) : ∀ j, j < N → up2 m c w x c j = 0 ∨ up2 m c w x c j = 1 := fun j hj => by
  by_cases e : j = w
  · subst e
    rw [up2_self]
    exact hx
  · rw [up2_nk e]
    exact h j hj
theorem ups_set {n : Nat} {d m : DD} {k w : Nat} (hn : n = 1 ∨ n = 3) (h : K_ups n d m) (hw : (k = 0 ∧ w < 3) ∨ (k = 1 ∧ w < n) ∨ (k = 2 ∧ w < 2)) : K_ups n (up2 d 4 k (withI (d 4 k) w)) (up2 m (602 + k) w 0) ∧ K_ups n (up2 d 4 k (woutI (d 4 k) w)) (up2 m (602 + k) w 1) := by
  obtain ⟨⟨a1, a2⟩, ⟨b1, b2⟩, c1, c2⟩ := h
  rcases hw with ⟨rfl, hw⟩ | ⟨rfl, hw⟩ | ⟨rfl, hw⟩
  · obtain ⟨u1, u2, -⟩ := us_3 a2 hw
    refine ⟨⟨⟨?_, b01_u (Or.inl rfl) a2⟩, ⟨?_, b2⟩, ?_, c2⟩, ⟨?_, b01_u (Or.inr rfl) a2⟩, ⟨?_, b2⟩, ?_, c2⟩
    · rw [up2_self, a1, u1]
    · rw [up2_nk (by decide), b1]; exact (usF_c (up2_off (by decide)) n).symm
    · rw [up2_nk (by decide), c1]; exact (usF_c (up2_off (by decide)) 2).symm
    · rw [up2_self, a1, u2]
    · rw [up2_nk (by decide), b1]; exact (usF_c (up2_off (by decide)) n).symm
    · rw [up2_nk (by decide), c1]; exact (usF_c (up2_off (by decide)) 2).symm
  · have u : withI (usF m 603 n) w = usF (up2 m 603 w 0) 603 n ∧ woutI (usF m 603 n) w = usF (up2 m 603 w 1) 603 n := by
      rcases hn with rfl | rfl
      · exact ⟨(us_1 b2 hw).1, (us_1 b2 hw).2.1⟩
      · exact ⟨(us_3 b2 hw).1, (us_3 b2 hw).2.1⟩
    obtain ⟨u1, u2⟩ := u
    refine ⟨⟨⟨?_, a2⟩, ⟨?_, b01_u (Or.inl rfl) b2⟩, ?_, c2⟩, ⟨?_, a2⟩, ⟨?_, b01_u (Or.inr rfl) b2⟩, ?_, c2⟩
    · rw [up2_nk (by decide), a1]; exact (usF_c (up2_off (by decide)) 3).symm
    · rw [up2_self, b1, u1]
    · rw [up2_nk (by decide), c1]; exact (usF_c (up2_off (by decide)) 2).symm
    · rw [up2_nk (by decide), a1]; exact (usF_c (up2_off (by decide)) 3).symm
    · rw [up2_self, b1, u2]
    · rw [up2_nk (by decide), c1]; exact (usF_c (up2_off (by decide)) 2).symm
  · obtain ⟨u1, u2, -⟩ := us_2 c2 hw
    refine ⟨⟨⟨?_, a2⟩, ⟨?_, b2⟩, ?_, b01_u (Or.inl rfl) c2⟩, ⟨?_, a2⟩, ⟨?_, b2⟩, ?_, b01_u (Or.inr rfl) c2⟩
    · rw [up2_nk (by decide), a1]; exact (usF_c (up2_off (by decide)) 3).symm
    · rw [up2_nk (by decide), b1]; exact (usF_c (up2_off (by decide)) n).symm
    · rw [up2_self, c1, u1]
    · rw [up2_nk (by decide), a1]; exact (usF_c (up2_off (by decide)) 3).symm
    · rw [up2_nk (by decide), b1]; exact (usF_c (up2_off (by decide)) n).symm
    · rw [up2_self, c1, u2]
theorem CR_up {n B : Nat} {d m : DD} {k w : Nat} {on : Int32} (hn : n ≤ 3) (h : CR n B d m) (hw : (k = 0 ∧ w < 3) ∨ (k = 1 ∧ w < n) ∨ (k = 2 ∧ w < 2)) : CR n B (upF d n k w on) (m_up m k w on) := by
  obtain ⟨-, -, -, hn2⟩ := CK_num h
  have hk : k < 3 := by omega
  have hf := CR_flag (x := 0) h
  obtain ⟨u1, u2⟩ := ups_set hn2 (CK_ups hf) hw
  have g1 := CR_up0 hn hf hk u1
  have g2 := CR_up0 hn hf hk u2
  unfold upF m_up
  by_cases c : on = 0
  · subst c
    rw [if_pos rfl]
    rcases hw with ⟨rfl, hw⟩ | ⟨rfl, hw⟩ | ⟨rfl, hw⟩
    · rw [if_pos rfl, if_pos rfl, if_pos rfl]
      exact CR_aw hn hw g2 8 (Nat.le_refl _)
    · rw [if_neg (show ¬ 1 = 0 by decide), if_neg (show ¬ 1 = 2 by decide), if_neg (show ¬ 1 = 0 by decide), if_pos rfl, if_pos rfl]
      exact g2
    · rw [if_neg (show ¬ 2 = 0 by decide), if_pos rfl, if_neg (show ¬ 2 = 0 by decide), if_neg (show ¬ 2 = 1 by decide), if_pos rfl]
      exact CR_stop hn hw g2
  · rw [if_neg c]
    rcases hw with ⟨rfl, hw⟩ | ⟨rfl, hw⟩ | ⟨rfl, hw⟩
    · rw [if_pos rfl, if_neg c, lpMUp_on c]
      exact g1
    · rw [if_neg (show ¬ 1 = 0 by decide), if_pos rfl, if_neg c]
      exact g1
    · rw [if_neg (show ¬ 2 = 0 by decide), if_neg (show ¬ 2 = 1 by decide), if_neg c]
      exact g1
/-- a message arrives -/
theorem CR_arrive {n B : Nat} {d m : DD} {mj : Int32} (hn : n ≤ 3) (hB : B < 1000000) (hj : d 0 3 = mj) (h : CR n B d m) (hh : MRR n B (d 481) (d 551) (m 624) 780) : CR n B (f_arrive d n mj) (m_arrive m n) := by
  obtain ⟨hs, e0, ek, hp⟩ := hh
  have e0 : m 624 780 = kc (d 481 0) := e0
  have e1 : m 624 781 = d 481 1 := ek 1 (by decide) (by decide)
  have e2 : m 624 782 = d 481 2 := ek 2 (by decide) (by decide)
  have e3 : m 624 783 = d 481 3 := ek 3 (by decide) (by decide)
  have e4 : m 624 784 = d 481 4 := ek 4 (by decide) (by decide)
  have e5 : m 624 785 = d 481 5 := ek 5 (by decide) (by decide)
  have e6 : m 624 786 = d 481 6 := ek 6 (by decide) (by decide)
  unfold f_arrive m_arrive
  rw [e0, e1, e2, e3, e4, e5, e6]
  rcases hs with ⟨h0, ⟨t, ht, h1⟩, ⟨s, hs, h2⟩, h3, h4, h5, h6⟩ | ⟨h0, ⟨t, ht, h1⟩, h2, ⟨a, ha, h3⟩, h4, ⟨b, hb1, hb, h5⟩, h6⟩ | ⟨h0, ⟨t, ht, h1⟩, h2, ⟨a, ha, h3⟩, ⟨ld, hld, h4⟩, ⟨b, hb1, hb, h5⟩, h6⟩ | ⟨h0, ⟨t, ht, h1⟩, ⟨s, hs, h2⟩, ⟨a, ha, h3⟩, h4, ⟨b, hb, h5⟩, ⟨v, hv, h6⟩⟩ | ⟨h0, ⟨t, ht, h1⟩, ⟨s, hs, h2⟩, ⟨a, ha, h3⟩, ⟨ld, hld, h4⟩, ⟨b, hb, h5⟩, ⟨v, hv, h6⟩⟩ | ⟨h0, ⟨t, ht, h1⟩, ⟨s, hs, h2⟩, h3, h4, h5, ⟨v, hv, h6⟩⟩
  · have hu := CR_has0 (k := 0) (w := s) h (Or.inl ⟨rfl, hs⟩)
    rw [h0, h1, h2, if_pos rfl, if_pos (show kc 0 = 80 by decide), cl_nI (by omega), cl_nI (by omega)]
    by_cases c : hasI (d 4 0) s = 0
    · rw [if_pos c, if_neg (hu.mp c)]; exact h
    · rw [if_neg c, if_pos (Decidable.not_not.mp fun g => c (hu.mpr g))]; exact CR_prep hn hs ht h
  · have hu := CR_has0 (k := 1) (w := a) h (Or.inr (Or.inl ⟨rfl, ha⟩))
    rw [h0, h1, h3, h5, if_neg (show ¬ (1 : Int32) = 0 by decide), if_pos rfl, if_neg (show ¬ kc 1 = 80 by decide), if_pos (show kc 1 = 65 by decide), cl_nI (by omega), cl_nI (by omega)]
    by_cases c : hasI (d 4 1) a = 0
    · rw [if_pos c, if_neg (hu.mp c)]; exact h
    · rw [if_neg c, if_pos (Decidable.not_not.mp fun g => c (hu.mpr g))]; exact CR_ask hn ha ht hb1 hb hB h
  · have hu := CR_has0 (k := 2) (w := ld) h (Or.inr (Or.inr ⟨rfl, hld⟩))
    rw [h0, h1, h3, h4, h5, if_neg (show ¬ (2 : Int32) = 0 by decide), if_neg (show ¬ (2 : Int32) = 1 by decide), if_pos rfl, if_neg (show ¬ kc 2 = 80 by decide), if_neg (show ¬ kc 2 = 65 by decide), if_pos (show kc 2 = 82 by decide), cl_nI (by omega), cl_nI (by omega), cl_nI (by omega), show ld * 8 + t = 8 * ld + t by omega]
    by_cases c : hasI (d 4 2) ld = 0
    · rw [if_pos c, if_neg (hu.mp c)]; exact h
    · rw [if_neg c, if_pos (Decidable.not_not.mp fun g => c (hu.mpr g))]; exact CR_reply hn (by omega) ha ht hb1 hb hB hj (hp h0) h
  · have hu := CR_has0 (k := 1) (w := a) h (Or.inr (Or.inl ⟨rfl, ha⟩))
    rw [h0, h1, h2, h3, h5, h6, if_neg (show ¬ (3 : Int32) = 0 by decide), if_neg (show ¬ (3 : Int32) = 1 by decide), if_neg (show ¬ (3 : Int32) = 2 by decide), if_pos rfl, if_neg (show ¬ kc 3 = 80 by decide), if_neg (show ¬ kc 3 = 65 by decide), if_neg (show ¬ kc 3 = 82 by decide), if_pos (show kc 3 = 86 by decide), cl_nI (by omega), cl_nI (by omega), cl_nI (by omega)]
    by_cases c : hasI (d 4 1) a = 0
    · rw [if_pos c, if_neg (hu.mp c)]; exact h
    · rw [if_neg c, if_pos (Decidable.not_not.mp fun g => c (hu.mpr g))]; exact CR_acc hn ha ht hs hb hv h
  · have hu := CR_has0 (k := 2) (w := ld) h (Or.inr (Or.inr ⟨rfl, hld⟩))
    rw [h0, h1, h2, h3, h4, h5, h6, if_neg (show ¬ (4 : Int32) = 0 by decide), if_neg (show ¬ (4 : Int32) = 1 by decide), if_neg (show ¬ (4 : Int32) = 2 by decide), if_neg (show ¬ (4 : Int32) = 3 by decide), if_pos rfl, if_neg (show ¬ kc 4 = 80 by decide), if_neg (show ¬ kc 4 = 65 by decide), if_neg (show ¬ kc 4 = 82 by decide), if_neg (show ¬ kc 4 = 86 by decide), if_pos (show kc 4 = 84 by decide), cl_nI (by omega), cl_nI (by omega), cl_nI (by omega), cl_nI (by omega), show ld * 8 + t = 8 * ld + t by omega]
    by_cases c : hasI (d 4 2) ld = 0
    · rw [if_pos c, if_neg (hu.mp c)]; exact h
    · rw [if_neg c, if_pos (Decidable.not_not.mp fun g => c (hu.mpr g))]; exact CR_told hn (by omega) ha hs ht hb hv hB hj h
  · have hu := CR_has0 (k := 0) (w := s) h (Or.inl ⟨rfl, hs⟩)
    rw [h0, h1, h2, h6, if_neg (show ¬ (5 : Int32) = 0 by decide), if_neg (show ¬ (5 : Int32) = 1 by decide), if_neg (show ¬ (5 : Int32) = 2 by decide), if_neg (show ¬ (5 : Int32) = 3 by decide), if_neg (show ¬ (5 : Int32) = 4 by decide), if_neg (show ¬ kc 5 = 80 by decide), if_neg (show ¬ kc 5 = 65 by decide), if_neg (show ¬ kc 5 = 82 by decide), if_neg (show ¬ kc 5 = 86 by decide), if_neg (show ¬ kc 5 = 84 by decide), cl_nI (by omega), cl_nI (by omega)]
    by_cases c : hasI (d 4 0) s = 0
    · rw [if_pos c, if_neg (hu.mp c)]; exact h
    · rw [if_neg c, if_pos (Decidable.not_not.mp fun g => c (hu.mpr g))]; exact CR_fin hn hs ht hv h
/-- taking one out -/
theorem m_out_row {m : DD} {i z j k : Nat} {st : Int32} (hiz : i < z) (hz : z ≤ 60) (hj : j < 60) (hk : k < 13) : m_out m i z st 624 (13 * j + k) = if st = 0 ∧ i ≤ j ∧ j < z - 1 then m 624 (13 * (j + 1) + k) else m 624 (13 * j + k) := by
  have e : lpTO m i 13 624 (13 * j + k) = m 624 (13 * j + k) := by rw [lpTO_at (by omega) 13 (Nat.le_refl _), if_neg (by omega)]
  unfold m_out
  by_cases c : st = 0
  · rw [if_pos c, lpSh_at]
    by_cases h : i ≤ j ∧ j < z - 1
    · rw [if_pos (by omega), if_pos ⟨c, h⟩, up2_nc (by decide), lpTO_at (by omega) 13 (Nat.le_refl _), if_neg (by omega)]
      exact congrArg (m 624) (by omega)
    · rw [if_neg (by omega), if_neg (fun g => h g.2), up2_nc (by decide), e]
  · rw [if_neg c, if_neg (fun g => c g.1), e]
/-- .. on both sides: the class's hand is not told of here -/
theorem CR_remove {n B : Nat} {d m : DD} {i z q : Nat} (hn : n ≤ 3) (hiz : i < z) (hz : z ≤ 60) (fz : d 5 1 = nI z) (fq : d 8 i = nI q) (h : CR n B d m) : CR n B (f_remove d i z q) (m_out m i z 0) := by
  obtain ⟨hN, ho, z', hz', fz', gz, hm⟩ := h.2
  obtain rfl : z' = z := (nI_eq (by omega) (by omega)).mp (fz'.symm.trans fz)
  refine ⟨CR0_c hn h.1 (fun c h1 h2 h3 => f_remove_off h2 h3) (fun c h1 h2 => m_out_off (by omega) h2) (m_out_mo (by decide)) (m_out_mo (by decide)), NetOK_remove hN hiz hz fq, ?_, z' - 1, by omega, f_remove_size, m_out_sz0, fun j p hj hp ep => ?_⟩
  · rw [m_out_mo (by decide), ← ho]
    unfold f_remove
    rw [up2_nc (by decide), up2_nk (by decide), shR_off (by decide)]
  · rw [f_rem_row hiz fq] at ep
    rw [f_remove_off (by omega) (by omega), f_remove_off (by omega) (by omega)]
    rcases rmI_c i z' j with ⟨g1, g2⟩ | ⟨g1, g2, g3⟩ | ⟨g1, g2, g3⟩ | ⟨g1, g2, g3, g4⟩
    · rw [g2] at ep
      exact MRR_c (hm j p (by omega) hp ep) (fun _ _ => rfl) (fun _ _ => rfl) (fun k hk => by rw [m_out_row hiz hz (by omega) hk, if_neg (by omega)])
    · rw [g3] at ep
      exact MRR_c (hm (j + 1) p (by omega) hp ep) (fun _ _ => rfl) (fun _ _ => rfl) (fun k hk => by rw [m_out_row hiz hz (by omega) hk, if_pos ⟨rfl, g1, g2⟩])
    · omega
    · omega
/-- picking one up: only the hand changes -/
theorem CR_pick {n B : Nat} {d m : DD} {i z q : Nat} (hn : n ≤ 3) (hq : q < 60) (hiz : i < z) (hz : z ≤ 60) (fz : d 5 1 = nI z) (fq : d 8 i = nI q) (h : CR n B d m) : CR n B (f_copy d q 61) m ∧ ∀ st, MRR n B (f_copy d q 61 481) (f_copy d q 61 551) (m_out m i z st 624) 780 := by
  obtain ⟨hN, ho, z', hz', fz', gz, hm⟩ := h.2
  obtain rfl : z' = z := (nI_eq (by omega) (by omega)).mp (fz'.symm.trans fz)
  refine ⟨⟨CR0_c hn h.1 (fun c h1 _ _ => f_copy_off (by omega) (by omega)) (fun _ _ _ => rfl) rfl rfl, NR_c h.2 (fun c hc => f_copy_off (by omega) (by omega)) rfl rfl rfl⟩, fun st => ?_⟩
  exact MRR_c (hm i q hiz hq fq) (fun k hk => f_copy_msg k hk) (fun s hs => f_copy_rep (by omega) (by omega) s hs) (fun k hk => m_out_780 hiz hz k hk)
theorem CR_stay {n B : Nat} {d m : DD} {i z : Nat} {st : Int32} (hn : n ≤ 3) (hc : ¬ st = 0) (hiz : i < z) (hz : z ≤ 60) (h : CR n B d m) : CR n B d (m_out m i z st) := by
  obtain ⟨hN, ho, z', hz', fz', gz, hm⟩ := h.2
  have es : m_out m i z st 600 = m 600 := by
    unfold m_out
    rw [if_neg hc, lpTO_off (by decide)]
  refine ⟨CR0_c hn h.1 (fun _ _ _ _ => rfl) (fun c h1 h2 => m_out_off (by omega) h2) (by rw [es]) (by rw [es]), hN, by rw [es]; exact ho, z', hz', fz', by rw [es]; exact gz, fun j p hj hp ep => ?_⟩
  exact MRR_c (hm j p hj hp ep) (fun _ _ => rfl) (fun _ _ => rfl) (fun k hk => by rw [m_out_row hiz hz (by omega) hk, if_neg (fun g => hc g.1)])
theorem f_remove_3 {d : DD} {i z q : Nat} : f_remove d i z q 0 3 = d 0 3 := congrFun (f_remove_off (by decide) (by decide)) 3
theorem CR_deliver {n B : Nat} {d m : DD} {i z : Nat} {st mj : Int32} (hn : n ≤ 3) (hB : B < 1000000) (hj : d 0 3 = mj) (hiz : i < z) (hz : z ≤ 60) (fz : d 5 1 = nI z) (h : CR n B d m) : CR n B (f_arrive (f_taken d i st) n mj) (m_dlv m n i z st) := by
  have hf := CR_flag (x := 0) h
  obtain ⟨q, hq, fq⟩ := h.2.1.2.1 i (by omega)
  obtain ⟨h1, h2⟩ := CR_pick hn hq hiz hz fz fq hf
  have e5 : f_copy d q 61 5 = d 5 := f_copy_off (by omega) (by omega)
  have e8 : f_copy d q 61 8 = d 8 := f_copy_off (by omega) (by omega)
  have e0 : f_copy d q 61 0 = d 0 := f_copy_off (by omega) (by omega)
  unfold f_taken f_picked m_dlv
  rw [fz, fq, cl_nI (by omega), cl_nI (by omega)]
  by_cases c : st = 0
  · subst c
    rw [if_pos rfl]
    refine CR_arrive hn hB ?_ (CR_remove hn hiz hz (by rw [e5]; exact fz) (by rw [e8]; exact fq) h1) ?_
    · rw [f_remove_3, e0]; exact hj
    · rw [f_remove_off (by decide) (by decide), f_remove_off (by decide) (by decide)]
      exact h2 0
  · rw [if_neg c]
    exact CR_arrive hn hB (by rw [e0]; exact hj) (CR_stay hn c hiz hz h1) (h2 st)
