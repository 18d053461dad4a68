/-! Taking over, forgetting, going up and down. -/
theorem CR_m {n B B' : Nat} (hB : B ≤ B') {d m : DD} (h : CR n B d m) : CR n B' d m := by
  refine ⟨?_, NR_m hB h.2⟩
  obtain ⟨c_num, c_ups, c_mem, c_clo, c_val, c_loc, c_sta, c_wrt, c_wrs, c_pro, c_tak, c_bal, c_prp, c_kno, c_hr, c_rpl, c_lat⟩ := h.1
  exact ⟨c_num, c_ups, c_mem, c_clo, c_val, c_loc, c_sta, c_wrt, c_wrs, c_pro, (K_tak_m hB c_tak), (K_bal_m hB c_bal), c_prp, c_kno, c_hr, (K_rpl_m hB c_rpl), (K_lat_m hB c_lat)⟩
theorem lpDrop_at {d : DD} {i : Nat} : ∀ n a, lpDrop d i n (i + 220) a = if a < n then 0 else d (i + 220) a
  | 0, a => by rw [if_neg (by omega)]; rfl
  | n + 1, a => by
    rw [lpDrop]
    by_cases e : a = n
    · subst e
      rw [up2_self, if_pos (by omega)]
    · rw [up2_nk e, lpDrop_at n a]
      by_cases h : a < n
      · rw [if_pos h, if_pos (by omega)]
      · rw [if_neg h, if_neg (by omega)]
theorem lpMD_at {d : DD} {i : Nat} : ∀ n k, lpMD d i n 619 k = if 3 * i ≤ k ∧ k < 3 * i + n then 0 else d 619 k
  | 0, k => by rw [if_neg (by omega)]; rfl
  | n + 1, k => by
    rw [lpMD]
    by_cases e : k = 3 * i + n
    · subst e
      rw [up2_self, if_pos (by omega)]
    · rw [up2_nk e, lpMD_at n k]
      by_cases h : 3 * i ≤ k ∧ k < 3 * i + n
      · rw [if_pos h, if_pos (by omega)]
      · rw [if_neg h, if_neg (by omega)]
theorem raise0 {d : DD} {i : Nat} {ld : Int32} : f_raise0 d i ld = up2 d (i + 200) 0 (rsI (d (i + 200) 0) ld) := by
  unfold f_raise0 rsI
  split
  · rfl
  · exact up2_up2
theorem rs_tk {q ld : Nat} (hq : q < 1000000) (hld : ld < 2) : ∃ b : Nat, 1 ≤ b ∧ b ≤ q + 2 ∧ rsI (nI q) (nI ld) = nI b ∧ tkB (nI q) (nI ld) = nI b := by
  obtain ⟨f1, f2⟩ := fmod2 (b := q + 1) (by omega)
  unfold rsI tkB
  rw [nI_1, f1, f2]
  by_cases c : nI ((q + 1) % 2) = nI ld
  · rw [if_pos c]
    exact ⟨q + 1, by omega, by omega, rfl, rfl⟩
  · rw [if_neg c, nI_1]
    exact ⟨q + 2, by omega, by omega, rfl, rfl⟩
theorem CR_raise {n B : Nat} {d m : DD} {i b : Nat} (hn : n ≤ 3) (hi : i < 16) (hb : b ≤ B) (h : CR n B d m) : CR n B (lpDrop (up2 (up2 d (i + 200) 0 (nI b)) (i + 200) 1 0) i n) (lpMD (up2 (up2 m 616 i (nI b)) 617 i 0) i 3) := by
  refine ⟨?_, NR_c h.2 (fun c hc => (lpDrop_off (by omega)).trans ((up2_off (by omega)).trans (up2_off (by omega)))) (congrFun ((lpMD_off (by omega) 3).trans ((up2_off (by omega)).trans (up2_off (by omega)))) _) (congrFun ((lpMD_off (by omega) 3).trans ((up2_off (by omega)).trans (up2_off (by omega)))) _) ((lpMD_off (by omega) 3).trans ((up2_off (by omega)).trans (up2_off (by omega))))⟩
  obtain ⟨c_num, c_ups, c_mem, c_clo, c_val, c_loc, c_sta, c_wrt, c_wrs, c_pro, c_tak, c_bal, c_prp, c_kno, c_hr, c_rpl, c_lat⟩ := h.1
  exact ⟨(K_num_c c_num ((lpDrop_off (by omega)).trans ((up2_off (by omega)).trans (up2_off (by omega)))) (congrFun ((lpMD_off (by omega) 3).trans ((up2_off (by omega)).trans (up2_off (by omega)))) _) (congrFun ((lpMD_off (by omega) 3).trans ((up2_off (by omega)).trans (up2_off (by omega)))) _)), (K_ups_c c_ups ((lpDrop_off (by omega)).trans ((up2_off (by omega)).trans (up2_off (by omega)))) ((lpMD_off (by omega) 3).trans ((up2_off (by omega)).trans (up2_off (by omega)))) ((lpMD_off (by omega) 3).trans ((up2_off (by omega)).trans (up2_off (by omega)))) ((lpMD_off (by omega) 3).trans ((up2_off (by omega)).trans (up2_off (by omega))))), (K_mem_c c_mem (fun _ _ => congrFun ((lpDrop_off (by omega)).trans ((up2_off (by omega)).trans (up2_off (by omega)))) _) ((lpMD_off (by omega) 3).trans ((up2_off (by omega)).trans (up2_off (by omega))))), (K_clo_c c_clo (fun _ _ => congrFun ((lpDrop_off (by omega)).trans ((up2_off (by omega)).trans (up2_off (by omega)))) _) ((lpMD_off (by omega) 3).trans ((up2_off (by omega)).trans (up2_off (by omega))))), (K_val_c c_val (fun _ _ _ _ => congrFun ((lpDrop_off (by omega)).trans ((up2_off (by omega)).trans (up2_off (by omega)))) _) ((lpMD_off (by omega) 3).trans ((up2_off (by omega)).trans (up2_off (by omega))))), (K_loc_c c_loc (fun _ _ _ _ => congrFun ((lpDrop_off (by omega)).trans ((up2_off (by omega)).trans (up2_off (by omega)))) _) ((lpMD_off (by omega) 3).trans ((up2_off (by omega)).trans (up2_off (by omega))))), (K_sta_c c_sta (fun _ _ _ _ => congrFun ((lpDrop_off (by omega)).trans ((up2_off (by omega)).trans (up2_off (by omega)))) _) ((lpMD_off (by omega) 3).trans ((up2_off (by omega)).trans (up2_off (by omega))))), (K_wrt_c c_wrt (fun _ _ _ _ => congrFun ((lpDrop_off (by omega)).trans ((up2_off (by omega)).trans (up2_off (by omega)))) _) ((lpMD_off (by omega) 3).trans ((up2_off (by omega)).trans (up2_off (by omega))))), (K_wrs_c c_wrs (fun _ _ _ _ _ _ => congrFun ((lpDrop_off (by omega)).trans ((up2_off (by omega)).trans (up2_off (by omega)))) _) ((lpMD_off (by omega) 3).trans ((up2_off (by omega)).trans (up2_off (by omega))))), (K_pro_c c_pro (fun _ _ _ _ _ _ => congrFun ((lpDrop_off (by omega)).trans ((up2_off (by omega)).trans (up2_off (by omega)))) _) ((lpMD_off (by omega) 3).trans ((up2_off (by omega)).trans (up2_off (by omega))))), (K_tak_c c_tak (fun _ _ _ _ _ _ => congrFun ((lpDrop_off (by omega)).trans ((up2_off (by omega)).trans (up2_off (by omega)))) _) ((lpMD_off (by omega) 3).trans ((up2_off (by omega)).trans (up2_off (by omega)))) ((lpMD_off (by omega) 3).trans ((up2_off (by omega)).trans (up2_off (by omega))))), (fun i1 hi1 => by
    rw [show lpDrop (up2 (up2 d (i + 200) 0 (nI b)) (i + 200) 1 0) i n (i1 + 200) = up2 (up2 d (i + 200) 0 (nI b)) (i + 200) 1 0 (i1 + 200) from lpDrop_off (by omega), lpMD_off (by decide) 3, up2_nk (by decide), up2_off (show 616 ≠ 617 by decide)]
    by_cases e : i1 = i
    · subst e
      rw [up2_self, up2_self]
      exact ⟨rfl, b, hb, rfl⟩
    · rw [up2_nc (by omega), up2_nk e]
      exact c_bal i1 hi1), (fun i1 hi1 h0 => by
    rw [show lpDrop (up2 (up2 d (i + 200) 0 (nI b)) (i + 200) 1 0) i n (i1 + 200) = up2 (up2 d (i + 200) 0 (nI b)) (i + 200) 1 0 (i1 + 200) from lpDrop_off (by omega)] at h0 ⊢
    rw [lpMD_off (by decide) 3]
    by_cases e : i1 = i
    · subst e
      rw [up2_self, up2_self]
    · rw [up2_nc (by omega), up2_nc (by omega), up2_nk e, up2_off (by decide)]
      rw [up2_nc (by omega), up2_nc (by omega)] at h0
      exact c_prp i1 hi1 h0), (K_kno_c c_kno (fun i1 hi1 => by
    rw [show lpDrop (up2 (up2 d (i + 200) 0 (nI b)) (i + 200) 1 0) i n (i1 + 200) = up2 (up2 d (i + 200) 0 (nI b)) (i + 200) 1 0 (i1 + 200) from lpDrop_off (by omega), up2_nk (by decide), up2_nk (by decide)]) ((lpMD_off (by omega) 3).trans ((up2_off (by omega)).trans (up2_off (by omega))))), (fun i1 a1 hi1 ha1 => by
    rw [lpMD_at]
    by_cases e : i1 = i
    · subst e
      rw [lpDrop_at, if_pos (show 3 * i1 ≤ 3 * i1 + a1 ∧ 3 * i1 + a1 < 3 * i1 + 3 by omega)]
      exact ⟨fun q => if_pos q, fun _ => rfl⟩
    · rw [if_neg (by omega), lpDrop_off (by omega), up2_off (by omega), up2_off (by omega), up2_off (by omega), up2_off (by omega)]
      exact c_hr i1 a1 hi1 ha1), (fun i1 a1 s1 hi1 ha1 hs1 h0 => by
    rw [lpMD_at] at h0
    by_cases e : i1 = i
    · subst e
      rw [if_pos (by omega)] at h0
      exact absurd rfl h0
    · rw [if_neg (by omega), up2_off (by omega), up2_off (by omega)] at h0
      rw [lpMD_off (by decide) 3, lpMD_off (by decide) 3, up2_off (by decide), up2_off (by decide), up2_off (by decide), up2_off (by decide), lpDrop_off (by omega), up2_off (by omega), up2_off (by omega)]
      exact c_rpl i1 a1 s1 hi1 ha1 hs1 h0), (K_lat_c c_lat (fun _ _ _ _ => (lpDrop_off (by omega)).trans ((up2_off (by omega)).trans (up2_off (by omega)))) ((lpMD_off (by omega) 3).trans ((up2_off (by omega)).trans (up2_off (by omega)))) ((lpMD_off (by omega) 3).trans ((up2_off (by omega)).trans (up2_off (by omega)))))⟩
theorem CR_take {n B : Nat} {d m : DD} {ld t : Nat} (hn : n ≤ 3) (hld : ld < 2) (ht : t < 8) (hB : B + 2 < 1000000) (h : CR n B d m) : rsI (d (ld * 8 + t + 200) 0) (nI ld) = tkB (m 616 (8 * ld + t)) (nI ld) ∧ CR n (B + 2) (f_take d n ld t) (m_take m n ld t) := by
  have ei : ld * 8 + t = 8 * ld + t := by omega
  rw [show f_take d n ld t = lpSA (f_raise d n (8 * ld + t) (nI ld)) (nI t) (rsI (d (8 * ld + t + 200) 0) (nI ld)) n by unfold f_take; rw [ei], ei]
  obtain ⟨e1, q, hq, fq⟩ := CK_bal h (8 * ld + t) (by omega)
  obtain ⟨b, hb1, hb2, r1, r2⟩ := rs_tk (q := q) (ld := ld) (by omega) hld
  have hf : CR n (B + 2) d (up2 m 600 0 0) := CR_m (by omega) (CR_flag h)
  have hr := CR_raise (i := 8 * ld + t) (b := b) hn (by omega) (by omega) hf
  unfold m_take f_raise
  rw [raise0, ← e1, fq, r1, r2]
  exact ⟨rfl, CR_sa hn ht hb1 (by omega) hr n (Nat.le_refl _)⟩
/-- forgetting -/
theorem lpFill_at {d : DD} {c : Nat} {v : Int32} : ∀ n k, lpFill d c v n c k = if k < n then v else d c k
  | 0, k => by rw [if_neg (by omega)]; rfl
  | n + 1, k => by
    rw [lpFill]
    by_cases e : k = n
    · subst e
      rw [up2_self, if_pos (by omega)]
    · rw [up2_nk e, lpFill_at n k]
      by_cases h : k < n
      · rw [if_pos h, if_pos (by omega)]
      · rw [if_neg h, if_neg (by omega)]
theorem lpForget_off {d : DD} {i c : Nat} : ∀ n, (c < 4 * i + 350 ∨ 4 * i + n + 350 ≤ c) → lpForget d i n c = d c
  | 0, _ => rfl
  | n + 1, h => by rw [lpForget, f_fill_off (by omega), lpForget_off n (by omega)]
theorem lpForget_at {d : DD} {i : Nat} : ∀ n a s, a < n → s < 3 → lpForget d i n (4 * i + a + 350) s = -1
  | 0, a, s, h, _ => absurd h (by omega)
  | n + 1, a, s, h, hs => by
    rw [lpForget]
    by_cases e : a = n
    · subst e
      unfold f_fill
      rw [lpFill_at, if_pos hs]
    · rw [f_fill_off (by omega)]
      exact lpForget_at n a s (by omega) hs
/-- e is d with ledger i forgotten, or left -/
def FG (n : Nat) (d e : DD) (i : Nat) : Prop := e (i + 200) 0 = d (i + 200) 0 ∧ e (i + 200) 1 = 1 ∧ e (i + 200) 2 = -1 ∧ (∀ a, a < n → e (i + 220) a = 0) ∧ ∀ a s, a < n → s < 3 → e (4 * i + a + 350) s = -1
def SMl (n : Nat) (d e : DD) (i : Nat) : Prop := e (i + 200) = d (i + 200) ∧ e (i + 220) = d (i + 220) ∧ ∀ a, a < n → e (4 * i + a + 350) = d (4 * i + a + 350)
theorem f_forget_off {n : Nat} {d : DD} {i c : Nat} (h1 : c ≠ i + 200) (h2 : c ≠ i + 220) (h3 : c < 4 * i + 350 ∨ 4 * i + n + 350 ≤ c) : f_forget d n i c = d c := by
  unfold f_forget
  rw [lpForget_off n h3, lpDrop_off h2, up2_off h1, up2_off h1]
theorem f_forget_at {n : Nat} {d : DD} {i : Nat} (hn : n ≤ 3) (hi : i < 16) : FG n d (f_forget d n i) i := by
  have e : f_forget d n i (i + 200) = up2 (up2 d (i + 200) 1 1) (i + 200) 2 (-1) (i + 200) := by
    unfold f_forget
    rw [lpForget_off n (by omega), lpDrop_off (by omega)]
  refine ⟨by rw [e, up2_nk (by decide), up2_nk (by decide)], by rw [e, up2_nk (by decide), up2_self], by rw [e, up2_self], fun a ha => ?_, fun a s ha hs => ?_⟩
  · unfold f_forget
    rw [lpForget_off n (by omega), lpDrop_at, if_pos ha]
  · unfold f_forget
    exact lpForget_at n a s ha hs
theorem lpStop_at {n : Nat} {d : DD} {ld : Nat} (hn : n ≤ 3) (hld : ld < 2) : ∀ t, t ≤ 8 → (∀ i, i < 16 → (8 * ld ≤ i ∧ i < 8 * ld + t → FG n d (lpStop d n ld t) i) ∧ (¬ (8 * ld ≤ i ∧ i < 8 * ld + t) → SMl n d (lpStop d n ld t) i)) ∧ ∀ c, (c < 200 ∨ (216 ≤ c ∧ c < 220) ∨ (236 ≤ c ∧ c < 350) ∨ 414 ≤ c) → lpStop d n ld t c = d c
  | 0, _ => ⟨fun i _ => ⟨fun h => absurd h (by omega), fun _ => ⟨rfl, rfl, fun _ _ => rfl⟩⟩, fun _ _ => rfl⟩
  | t + 1, ht => by
    obtain ⟨ih, io⟩ := lpStop_at (d := d) hn hld t (by omega)
    rw [lpStop, show ld * 8 + t = 8 * ld + t by omega]
    refine ⟨fun i hi => ⟨fun h => ?_, fun h => ?_⟩, fun c hc => ?_⟩
    · by_cases e : i = 8 * ld + t
      · subst e
        obtain ⟨g1, g2, g3, g4, g5⟩ := f_forget_at (n := n) (d := lpStop d n ld t) (i := 8 * ld + t) hn hi
        exact ⟨g1.trans (congrFun ((ih _ hi).2 (by omega)).1 _), g2, g3, g4, g5⟩
      · obtain ⟨g1, g2, g3, g4, g5⟩ := (ih i hi).1 (by omega)
        have o1 : f_forget (lpStop d n ld t) n (8 * ld + t) (i + 200) = lpStop d n ld t (i + 200) := f_forget_off (by omega) (by omega) (by omega)
        have o2 : f_forget (lpStop d n ld t) n (8 * ld + t) (i + 220) = lpStop d n ld t (i + 220) := f_forget_off (by omega) (by omega) (by omega)
        exact ⟨by rw [o1]; exact g1, by rw [o1]; exact g2, by rw [o1]; exact g3, fun a ha => by rw [o2]; exact g4 a ha, fun a s ha hs => by rw [f_forget_off (by omega) (by omega) (by omega)]; exact g5 a s ha hs⟩
    · obtain ⟨g1, g2, g3⟩ := (ih i hi).2 (by omega)
      exact ⟨by rw [f_forget_off (by omega) (by omega) (by omega)]; exact g1, by rw [f_forget_off (by omega) (by omega) (by omega)]; exact g2, fun a ha => by rw [f_forget_off (by omega) (by omega) (by omega)]; exact g3 a ha⟩
    · rw [f_forget_off (by omega) (by omega) (by omega)]
      exact io c hc
theorem lpF1_off {d : DD} {ld c : Nat} (h1 : c ≠ 617) (h2 : c ≠ 618) : ∀ t, lpF1 d ld t c = d c
  | 0 => rfl
  | t + 1 => by rw [lpF1, up2_off h2, up2_off h1, lpF1_off h1 h2 t]
theorem lpF1_at {d : DD} {ld : Nat} : ∀ t k, lpF1 d ld t 617 k = (if 8 * ld ≤ k ∧ k < 8 * ld + t then 1 else d 617 k) ∧ lpF1 d ld t 618 k = (if 8 * ld ≤ k ∧ k < 8 * ld + t then -1 else d 618 k)
  | 0, k => by rw [if_neg (by omega), if_neg (by omega)]; exact ⟨rfl, rfl⟩
  | t + 1, k => by
    obtain ⟨i1, i2⟩ := lpF1_at (d := d) (ld := ld) t k
    rw [lpF1]
    by_cases e : k = 8 * ld + t
    · subst e
      rw [if_pos (by omega), if_pos (by omega), up2_nc (by decide), up2_self, up2_self]
      exact ⟨rfl, rfl⟩
    · rw [up2_nc (by decide), up2_nk e, up2_nk e, up2_nc (by decide), i1, i2]
      by_cases h : 8 * ld ≤ k ∧ k < 8 * ld + t
      · rw [if_pos h, if_pos h, if_pos (by omega), if_pos (by omega)]; exact ⟨rfl, rfl⟩
      · rw [if_neg h, if_neg h, if_neg (by omega), if_neg (by omega)]; exact ⟨rfl, rfl⟩
theorem lpF2_off {d : DD} {ld c : Nat} (h1 : c ≠ 619) : ∀ t, lpF2 d ld t c = d c
  | 0 => rfl
  | t + 1 => by rw [lpF2, up2_off h1, lpF2_off h1 t]
theorem lpF2_at {d : DD} {ld : Nat} : ∀ t k, lpF2 d ld t 619 k = if 24 * ld ≤ k ∧ k < 24 * ld + t then 0 else d 619 k
  | 0, k => by rw [if_neg (by omega)]; rfl
  | t + 1, k => by
    rw [lpF2]
    by_cases e : k = 24 * ld + t
    · subst e
      rw [up2_self, if_pos (by omega)]
    · rw [up2_nk e, lpF2_at t k]
      by_cases h : 24 * ld ≤ k ∧ k < 24 * ld + t
      · rw [if_pos h, if_pos (by omega)]
      · rw [if_neg h, if_neg (by omega)]
theorem lpF3_off {d : DD} {ld c : Nat} (h1 : c ≠ 622) : ∀ t, lpF3 d ld t c = d c
  | 0 => rfl
  | t + 1 => by rw [lpF3, up2_off h1, lpF3_off h1 t]
theorem lpF3_at {d : DD} {ld : Nat} : ∀ t k, lpF3 d ld t 622 k = if 72 * ld ≤ k ∧ k < 72 * ld + t then -1 else d 622 k
  | 0, k => by rw [if_neg (by omega)]; rfl
  | t + 1, k => by
    rw [lpF3]
    by_cases e : k = 72 * ld + t
    · subst e
      rw [up2_self, if_pos (by omega)]
    · rw [up2_nk e, lpF3_at t k]
      by_cases h : 72 * ld ≤ k ∧ k < 72 * ld + t
      · rw [if_pos h, if_pos (by omega)]
      · rw [if_neg h, if_neg (by omega)]
theorem m_fgt_off {d : DD} {ld c : Nat} (h : c < 617 ∨ c = 620 ∨ c = 621 ∨ 623 ≤ c) : m_fgt d ld c = d c := by
  unfold m_fgt
  rw [lpF3_off (by omega), lpF2_off (by omega), lpF1_off (by omega) (by omega)]
theorem m_fgt_at {d : DD} {ld k : Nat} : m_fgt d ld 617 k = (if 8 * ld ≤ k ∧ k < 8 * ld + 8 then 1 else d 617 k) ∧ m_fgt d ld 618 k = (if 8 * ld ≤ k ∧ k < 8 * ld + 8 then -1 else d 618 k) ∧ m_fgt d ld 619 k = (if 24 * ld ≤ k ∧ k < 24 * ld + 24 then 0 else d 619 k) ∧ m_fgt d ld 622 k = (if 72 * ld ≤ k ∧ k < 72 * ld + 72 then -1 else d 622 k) := by
  unfold m_fgt
  obtain ⟨a1, a2⟩ := lpF1_at (d := d) (ld := ld) 8 k
  exact ⟨by rw [lpF3_off (by decide), lpF2_off (by decide), a1], by rw [lpF3_off (by decide), lpF2_off (by decide), a2], by rw [lpF3_off (by decide), lpF2_at, lpF1_off (by decide) (by decide)], by rw [lpF3_at, lpF2_off (by decide), lpF1_off (by decide) (by decide)]⟩
theorem CR_stop {n B : Nat} {d m : DD} {ld : Nat} (hn : n ≤ 3) (hld : ld < 2) (h : CR n B d m) : CR n B (lpStop d n ld 8) (m_fgt m ld) := by
  obtain ⟨ih, io⟩ := lpStop_at (d := d) hn hld 8 (Nat.le_refl _)
  refine ⟨?_, NR_c h.2 (fun c hc => io c (by omega)) (congrFun (m_fgt_off (by omega)) _) (congrFun (m_fgt_off (by omega)) _) (m_fgt_off (by omega))⟩
  obtain ⟨c_num, c_ups, c_mem, c_clo, c_val, c_loc, c_sta, c_wrt, c_wrs, c_pro, c_tak, c_bal, c_prp, c_kno, c_hr, c_rpl, c_lat⟩ := h.1
  exact ⟨(K_num_c c_num (io _ (by omega)) (congrFun (m_fgt_off (by omega)) _) (congrFun (m_fgt_off (by omega)) _)), (K_ups_c c_ups (io _ (by omega)) (m_fgt_off (by omega)) (m_fgt_off (by omega)) (m_fgt_off (by omega))), (K_mem_c c_mem (fun _ _ => congrFun (io _ (by omega)) _) (m_fgt_off (by omega))), (K_clo_c c_clo (fun _ _ => congrFun (io _ (by omega)) _) (m_fgt_off (by omega))), (K_val_c c_val (fun _ _ _ _ => congrFun (io _ (by omega)) _) (m_fgt_off (by omega))), (K_loc_c c_loc (fun _ _ _ _ => congrFun (io _ (by omega)) _) (m_fgt_off (by omega))), (K_sta_c c_sta (fun _ _ _ _ => congrFun (io _ (by omega)) _) (m_fgt_off (by omega))), (K_wrt_c c_wrt (fun _ _ _ _ => congrFun (io _ (by omega)) _) (m_fgt_off (by omega))), (K_wrs_c c_wrs (fun _ _ _ _ _ _ => congrFun (io _ (by omega)) _) (m_fgt_off (by omega))), (K_pro_c c_pro (fun _ _ _ _ _ _ => congrFun (io _ (by omega)) _) (m_fgt_off (by omega))), (K_tak_c c_tak (fun _ _ _ _ _ _ => congrFun (io _ (by omega)) _) (m_fgt_off (by omega)) (m_fgt_off (by omega))), (K_bal_c c_bal (fun i hi => by
    by_cases e : 8 * ld ≤ i ∧ i < 8 * ld + 8
    · exact ((ih i hi).1 e).1
    · exact congrFun ((ih i hi).2 e).1 _) (m_fgt_off (by omega))), (fun i hi h0 => by
    rw [m_fgt_at.1]
    by_cases e : 8 * ld ≤ i ∧ i < 8 * ld + 8
    · rw [if_pos e]
      exact ((ih i hi).1 e).2.1
    · rw [if_neg e]
      rw [((ih i hi).2 e).1] at h0 ⊢
      exact c_prp i hi h0), (fun i hi => by
    rw [m_fgt_at.2.1]
    by_cases e : 8 * ld ≤ i ∧ i < 8 * ld + 8
    · rw [if_pos e]
      exact Or.inl ⟨((ih i hi).1 e).2.2.1, rfl⟩
    · rw [if_neg e, ((ih i hi).2 e).1]
      exact c_kno i hi), (fun i a hi ha => by
    rw [m_fgt_at.2.2.1]
    by_cases e : 8 * ld ≤ i ∧ i < 8 * ld + 8
    · rw [if_pos (by omega)]
      exact ⟨fun q => ((ih i hi).1 e).2.2.2.1 a q, fun _ => rfl⟩
    · rw [if_neg (by omega), ((ih i hi).2 e).2.1]
      exact c_hr i a hi ha), (fun i a s hi ha hs h0 => by
    rw [m_fgt_at.2.2.1] at h0
    by_cases e : 8 * ld ≤ i ∧ i < 8 * ld + 8
    · rw [if_pos (by omega)] at h0
      exact absurd rfl h0
    · rw [if_neg (by omega)] at h0
      rw [m_fgt_off (by omega), m_fgt_off (by omega), io _ (by omega)]
      exact c_rpl i a s hi ha hs h0), (fun i a s hi ha hs => by
    rw [m_fgt_at.2.2.2, m_fgt_off (by omega)]
    by_cases e : 8 * ld ≤ i ∧ i < 8 * ld + 8
    · rw [if_pos (by omega)]
      exact ⟨fun q => by rw [((ih i hi).1 e).2.2.2.2 a s q hs]; exact PK_none, fun _ => rfl⟩
    · rw [if_neg (by omega)]
      exact ⟨fun q => by rw [((ih i hi).2 e).2.2 a q]; exact (c_lat i a s hi ha hs).1 q, (c_lat i a s hi ha hs).2⟩)⟩
theorem CR_aw {n B : Nat} {d m : DD} {w : Nat} (hn : n ≤ 3) (hw : w < 3) (h : CR n B d m) : ∀ t, t ≤ 8 → CR n B (lpAW d w t) (lpMUp m w 0 t)
  | 0, _ => h
  | t + 1, ht => by
    have ih := CR_aw hn hw h t (by omega)
    have e := (CR_sta ih hw (show t < 8 by omega)).1
    unfold lpAW lpMUp
    rw [if_pos rfl, e]
    split
    · exact CR_abort hn hw (by omega) ih
    · exact ih
theorem lpMUp_on {m : DD} {w : Nat} {on : Int32} (h : ¬ on = 0) : ∀ t, lpMUp m w on t = m
  | 0 => rfl
  | t + 1 => by rw [lpMUp, if_neg h, lpMUp_on h t]
theorem us_3 {m : DD} {c w : Nat} (h : ∀ w, w < 3 → m c w = 0 ∨ m c w = 1) (hw : w < 3) : withI (usF m c 3) w = usF (up2 m c w 0) c 3 ∧ woutI (usF m c 3) w = usF (up2 m c w 1) c 3 ∧ hasI (usF m c 3) w = if m c w = 0 then 1 else 0 := by
  rcases (show w = 0 ∨ w = 1 ∨ w = 2 by omega) with rfl | rfl | rfl <;> rcases h 0 (by decide) with h0 | h0 <;> rcases h 1 (by decide) with h1 | h1 <;> rcases h 2 (by decide) with h2 | h2 <;> refine ⟨?_, ?_, ?_⟩ <;> simp [usF, up2, h0, h1, h2] <;> decide
theorem us_2 {m : DD} {c w : Nat} (h : ∀ w, w < 2 → m c w = 0 ∨ m c w = 1) (hw : w < 2) : withI (usF m c 2) w = usF (up2 m c w 0) c 2 ∧ woutI (usF m c 2) w = usF (up2 m c w 1) c 2 ∧ hasI (usF m c 2) w = if m c w = 0 then 1 else 0 := by
  rcases (show w = 0 ∨ w = 1 by omega) with rfl | rfl <;> rcases h 0 (by decide) with h0 | h0 <;> rcases h 1 (by decide) with h1 | h1 <;> refine ⟨?_, ?_, ?_⟩ <;> simp [usF, up2, h0, h1] <;> decide
theorem us_1 {m : DD} {c w : Nat} (h : ∀ w, w < 3 → m c w = 0 ∨ m c w = 1) (hw : w < 1) : withI (usF m c 1) w = usF (up2 m c w 0) c 1 ∧ woutI (usF m c 1) w = usF (up2 m c w 1) c 1 ∧ hasI (usF m c 1) w = if m c w = 0 then 1 else 0 := by
  rcases (show w = 0 by omega) with rfl
  rcases h 0 (by decide) with h0 | h0 <;> refine ⟨?_, ?_, ?_⟩ <;> simp [usF, up2, h0] <;> decide
