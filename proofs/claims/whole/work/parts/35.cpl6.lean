/-! Leaders: what they are told, what is replied, taking over, forgetting. -/
theorem CK_num {n B : Nat} {d m : DD} (h : CR n B d m) : K_num n d m := h.1.1
theorem CK_ups {n B : Nat} {d m : DD} (h : CR n B d m) : K_ups n d m := h.1.2.1
theorem CK_mem {n B : Nat} {d m : DD} (h : CR n B d m) : K_mem d m := h.1.2.2.1
theorem CK_clo {n B : Nat} {d m : DD} (h : CR n B d m) : K_clo d m := h.1.2.2.2.1
theorem CK_val {n B : Nat} {d m : DD} (h : CR n B d m) : K_val d m := h.1.2.2.2.2.1
theorem CK_loc {n B : Nat} {d m : DD} (h : CR n B d m) : K_loc d m := h.1.2.2.2.2.2.1
theorem CK_sta {n B : Nat} {d m : DD} (h : CR n B d m) : K_sta d m := h.1.2.2.2.2.2.2.1
theorem CK_wrt {n B : Nat} {d m : DD} (h : CR n B d m) : K_wrt d m := h.1.2.2.2.2.2.2.2.1
theorem CK_wrs {n B : Nat} {d m : DD} (h : CR n B d m) : K_wrs d m := h.1.2.2.2.2.2.2.2.2.1
theorem CK_pro {n B : Nat} {d m : DD} (h : CR n B d m) : K_pro n d m := h.1.2.2.2.2.2.2.2.2.2.1
theorem CK_tak {n B : Nat} {d m : DD} (h : CR n B d m) : K_tak n B d m := h.1.2.2.2.2.2.2.2.2.2.2.1
theorem CK_bal {n B : Nat} {d m : DD} (h : CR n B d m) : K_bal B d m := h.1.2.2.2.2.2.2.2.2.2.2.2.1
theorem CK_prp {n B : Nat} {d m : DD} (h : CR n B d m) : K_prp d m := h.1.2.2.2.2.2.2.2.2.2.2.2.2.1
theorem CK_kno {n B : Nat} {d m : DD} (h : CR n B d m) : K_kno d m := h.1.2.2.2.2.2.2.2.2.2.2.2.2.2.1
theorem CK_hr {n B : Nat} {d m : DD} (h : CR n B d m) : K_hr n d m := h.1.2.2.2.2.2.2.2.2.2.2.2.2.2.2.1
theorem CK_rpl {n B : Nat} {d m : DD} (h : CR n B d m) : K_rpl n B d m := h.1.2.2.2.2.2.2.2.2.2.2.2.2.2.2.2.1
theorem CR_told {n B : Nat} {d m : DD} {i a s t b v : Nat} {mj : Int32} (hn : n ≤ 3) (hi : i < 16) (ha : a < n) (hs : s < 3) (ht : t < 8) (hb : b ≤ B) (hv : v ≤ 1) (hB : B < 1000000) (hj : d 0 3 = mj) (h : CR n B d m) : CR n B (f_arrT d n i a s t (nI b) (nI v) mj) (m_told (m_hear m i a s (nI b) (nI v)) i t) := by
  have h1 := CR_hear hn hi ha hs hb hv hB h
  have hj1 : f_hear d i a s (nI b) (nI v) 0 3 = mj := (congrFun (f_hear_off (by omega)) _).trans hj
  unfold f_arrT m_told f_jdg
  generalize f_hear d i a s (nI b) (nI v) = e at h1 hj1 ⊢
  generalize m_hear m i a s (nI b) (nI v) = m1 at h1 ⊢
  obtain ⟨-, k1, k2, k3⟩ := CK_num h1
  have hdv := fun s hs => dv_dc (mj := mj) k3 hi (s := s) hs hB (CR_lat h1) k1 (by rw [← hj1, k2]) n 0 (by omega)
  rcases CK_kno h1 i hi with ⟨x1, y1⟩ | ⟨x1, y1⟩ | ⟨x1, y1⟩
  · rw [if_pos x1, if_pos (show m1 618 i < 0 by rw [y1]; decide)]
    rcases jg_td (t := t) (fun s hs => CR_mem h1 ht hs) (fun s hs => (hdv s hs).1) (fun s hs => (hdv s hs).2) with ⟨q1, q2, q3⟩ | ⟨q1, q3⟩ | ⟨q1, q2, q3⟩
    · rw [if_pos q3, q3, if_pos q1, if_pos q2, up2_id x1]
      exact h1
    · rw [q3, if_neg (by decide), if_neg q1]
      exact CR_so (v := 0) hn ht (by decide) (CR_u_kno hn h1 hi (Or.inr (Or.inr ⟨rfl, rfl⟩))) 3 (by decide)
    · rw [q3, if_neg (by decide), if_pos q1, if_neg q2]
      exact CR_so (v := 1) hn ht (by decide) (CR_u_kno hn h1 hi (Or.inr (Or.inl ⟨rfl, rfl⟩))) 3 (by decide)
  · rw [if_neg (by rw [x1]; decide), if_neg (by rw [y1]; decide)]
    exact h1
  · rw [if_neg (by rw [x1]; decide), if_neg (by rw [y1]; decide)]
    exact h1
/-- the best reply -/
theorem bst_pr {n B : Nat} {d m : DD} {i s : Nat} (hn : n ≤ 3) (hi : i < 16) (hs : s < 3) (hB : B < 1000000) (hh : K_hr n d m) (hr : K_rpl n B d m) : ∀ a, a ≤ n → (bstI d i s a = -1 ∧ prB m i s a = -1 ∧ prV m i s a = 0) ∨ ∃ bb vv : Nat, bb ≤ B ∧ vv ≤ 1 ∧ bstI d i s a = nI (2 * bb + vv) ∧ prB m i s a = nI bb ∧ prV m i s a = nI vv
  | 0, _ => Or.inl ⟨rfl, rfl, rfl⟩
  | a + 1, ha => by
    have ih := bst_pr hn hi hs hB hh hr a (by omega)
    have e := (hh i a hi (by omega)).1 (by omega)
    unfold bstI prB prV
    rw [e]
    by_cases c : m 619 (3 * i + a) = 0
    · rw [if_pos c, if_pos c, if_pos c]
      exact ih
    · have p := hr i a s hi (by omega) hs c
      have hb : balI (bstI d i s a) = prB m i s a := by
        rcases ih with ⟨g1, g2, g3⟩ | ⟨bb, vv, g0, g1, g2, g3, g4⟩
        · rw [g1, g2]; rfl
        · exact PK_bal hB (v := nI vv) (Or.inr ⟨bb, vv, g0, g1, g3, rfl, g2⟩)
      rw [if_neg c, if_neg c, if_neg c, hb, PK_bal hB p]
      by_cases c2 : m 620 (9 * i + 3 * a + s) ≤ prB m i s a
      · rw [if_pos c2, if_neg (Int32.not_lt.mpr c2), if_neg (Int32.not_lt.mpr c2)]
        exact ih
      · have c3 := Int32.not_le.mp c2
        rw [if_neg c2, if_pos c3, if_pos c3]
        rcases p with ⟨g1, g2⟩ | ⟨bb, vv, g0, g1, g2, g3, g4⟩
        · exfalso
          rw [g2] at c3
          rcases ih with ⟨q1, q2, q3⟩ | ⟨bb, vv, q0, q1, q2, q3, q4⟩
          · rw [q2] at c3
            exact absurd c3 (by decide)
          · rw [q3] at c3
            exact nI_pos (n := bb) (by omega) (Int32.lt_trans c3 (by decide))
        · exact Or.inr ⟨bb, vv, g0, g1, g4, g2, g3⟩
theorem pr_rest {n : Nat} {d m : DD} {i s : Nat} (hn : n ≤ 3) (hi : i < 16) (hh : K_hr n d m) : ∀ o, n + o ≤ 3 → prV m i s (n + o) = prV m i s n
  | 0, _ => rfl
  | o + 1, ho => by
    rw [show n + (o + 1) = (n + o) + 1 by omega, prV, if_pos ((hh i (n + o) hi (by omega)).2 (by omega)), pr_rest hn hi hh o (by omega)]
theorem vtp_pr {n B : Nat} {d m : DD} {i s : Nat} (hn : n ≤ 3) (hi : i < 16) (hs : s < 3) (hB : B < 1000000) (h : CR n B d m) : vtpI d n i s = prV m i s 3 ∧ ∃ v : Nat, v ≤ 1 ∧ prV m i s 3 = nI v := by
  have e := pr_rest (s := s) hn hi (CK_hr h) (3 - n) (by omega)
  rw [show n + (3 - n) = 3 by omega] at e
  rw [e]
  unfold vtpI
  rcases bst_pr (s := s) hn hi hs hB (CK_hr h) (CK_rpl h) n (Nat.le_refl _) with ⟨g1, g2, g3⟩ | ⟨bb, vv, g0, g1, g2, g3, g4⟩
  · rw [if_pos g1, g3]
    exact ⟨rfl, 0, by decide, rfl⟩
  · have hx : ¬ bstI d i s n = -1 := by rw [g2]; exact nI_m1 (by omega)
    rw [if_neg hx, PK_vot hB (v := nI vv) (Or.inr ⟨bb, vv, g0, g1, g3, rfl, g2⟩) hx, g4]
    exact ⟨rfl, vv, g1, rfl⟩
theorem CR_pr {n B : Nat} {d m : DD} {i t b : Nat} (hn : n ≤ 3) (hi : i < 16) (ht : t < 8) (hb : b ≤ B) (hB : B < 1000000) (h : CR n B d m) : ∀ j, j ≤ 3 → CR n B (lpPr d n i t (nI b) j) (lpMW m n i t (nI b) j)
  | 0, _ => h
  | j + 1, hj => by
    have ih := CR_pr hn hi ht hb hB h j (by omega)
    unfold lpPr lpMW
    by_cases c : hasI (lpPr d n i t (nI b) j 6 t) j = 0
    · rw [if_pos c, if_pos ((CR_mem ih ht (by omega)).mp c)]
      exact ih
    · rw [if_neg c, if_neg (fun g => c ((CR_mem ih ht (by omega)).mpr g))]
      obtain ⟨e1, v, hv, e2⟩ := vtp_pr (s := j) hn hi (by omega) hB ih
      rw [e1, e2]
      exact CR_sv hn ht (by omega) hb hv ih n (Nat.le_refl _)
theorem lpKR_at {d : DD} {i a : Nat} (h : 4 * i + a + 280 ≠ 551) : ∀ j s, lpKR d i a j (4 * i + a + 280) s = if s < j then d 551 s else d (4 * i + a + 280) s
  | 0, s => by rw [if_neg (by omega)]; rfl
  | j + 1, s => by
    have ih := lpKR_at (d := d) h j s
    rw [lpKR, lpKR_off (fun e => h e.symm)]
    by_cases e : s = j
    · subst e
      rw [up2_self, if_pos (by omega)]
    · rw [up2_nk e, ih]
      by_cases h2 : s < j
      · rw [if_pos h2, if_pos (by omega)]
      · rw [if_neg h2, if_neg (by omega)]
theorem lpMK_off {d : DD} {i a c : Nat} (h1 : c ≠ 620) (h2 : c ≠ 621) : ∀ j, lpMK d i a j c = d c
  | 0 => rfl
  | j + 1 => by rw [lpMK, up2_off h2, up2_off h1, lpMK_off h1 h2 j]
theorem lpMK_at {d : DD} {i a : Nat} : ∀ j, j ≤ 3 → ∀ k, lpMK d i a j 620 k = (if 9 * i + 3 * a ≤ k ∧ k < 9 * i + 3 * a + j then d 624 (780 + (7 + (k - (9 * i + 3 * a)))) else d 620 k) ∧ lpMK d i a j 621 k = (if 9 * i + 3 * a ≤ k ∧ k < 9 * i + 3 * a + j then d 624 (780 + (10 + (k - (9 * i + 3 * a)))) else d 621 k)
  | 0, _, k => by rw [if_neg (by omega), if_neg (by omega)]; exact ⟨rfl, rfl⟩
  | j + 1, hj, k => by
    obtain ⟨i1, i2⟩ := lpMK_at (d := d) (i := i) (a := a) j (by omega) k
    rw [lpMK, lpMK_off (by decide) (by decide) j]
    by_cases e : k = 9 * i + 3 * a + j
    · subst e
      rw [if_pos (by omega), if_pos (by omega), up2_nc (by decide), up2_self, up2_self, show 9 * i + 3 * a + j - (9 * i + 3 * a) = j by omega]
      exact ⟨congrArg (d 624) (by omega), congrArg (d 624) (by omega)⟩
    · rw [up2_nc (by decide), up2_nk e, up2_nk e, up2_nc (by decide), i1, i2]
      by_cases h2 : 9 * i + 3 * a ≤ k ∧ k < 9 * i + 3 * a + j
      · rw [if_pos h2, if_pos h2, if_pos (by omega), if_pos (by omega)]
        exact ⟨rfl, rfl⟩
      · rw [if_neg h2, if_neg h2, if_neg (by omega), if_neg (by omega)]
        exact ⟨rfl, rfl⟩
theorem CR_kept {n B : Nat} {d m : DD} {i a : Nat} (hn : n ≤ 3) (hi : i < 16) (ha : a < n) (hand : ∀ s, s < 3 → PK B (d 551 s) (m 624 (780 + (7 + s))) (m 624 (780 + (10 + s)))) (h : CR n B d m) : CR n B (f_kept d i a) (lpMK (up2 m 619 (3 * i + a) 1) i a 3) := by
  unfold f_kept
  refine ⟨?_, NR_c h.2 (fun c hc => (lpKR_off (by omega)).trans (up2_off (by omega))) (congrFun ((lpMK_off (by omega) (by omega) 3).trans (up2_off (by omega))) _) (congrFun ((lpMK_off (by omega) (by omega) 3).trans (up2_off (by omega))) _) ((lpMK_off (by omega) (by omega) 3).trans (up2_off (by omega)))⟩
  obtain ⟨c_num, c_ups, c_mem, c_clo, c_val, c_loc, c_sta, c_wrt, c_wrs, c_pro, c_tak, c_bal, c_prp, c_kno, c_hr, c_rpl, c_lat⟩ := h.1
  exact ⟨(K_num_c c_num ((lpKR_off (by omega)).trans (up2_off (by omega))) (congrFun ((lpMK_off (by omega) (by omega) 3).trans (up2_off (by omega))) _) (congrFun ((lpMK_off (by omega) (by omega) 3).trans (up2_off (by omega))) _)), (K_ups_c c_ups ((lpKR_off (by omega)).trans (up2_off (by omega))) ((lpMK_off (by omega) (by omega) 3).trans (up2_off (by omega))) ((lpMK_off (by omega) (by omega) 3).trans (up2_off (by omega))) ((lpMK_off (by omega) (by omega) 3).trans (up2_off (by omega)))), (K_mem_c c_mem (fun _ _ => congrFun ((lpKR_off (by omega)).trans (up2_off (by omega))) _) ((lpMK_off (by omega) (by omega) 3).trans (up2_off (by omega)))), (K_clo_c c_clo (fun _ _ => congrFun ((lpKR_off (by omega)).trans (up2_off (by omega))) _) ((lpMK_off (by omega) (by omega) 3).trans (up2_off (by omega)))), (K_val_c c_val (fun _ _ _ _ => congrFun ((lpKR_off (by omega)).trans (up2_off (by omega))) _) ((lpMK_off (by omega) (by omega) 3).trans (up2_off (by omega)))), (K_loc_c c_loc (fun _ _ _ _ => congrFun ((lpKR_off (by omega)).trans (up2_off (by omega))) _) ((lpMK_off (by omega) (by omega) 3).trans (up2_off (by omega)))), (K_sta_c c_sta (fun _ _ _ _ => congrFun ((lpKR_off (by omega)).trans (up2_off (by omega))) _) ((lpMK_off (by omega) (by omega) 3).trans (up2_off (by omega)))), (K_wrt_c c_wrt (fun _ _ _ _ => congrFun ((lpKR_off (by omega)).trans (up2_off (by omega))) _) ((lpMK_off (by omega) (by omega) 3).trans (up2_off (by omega)))), (K_wrs_c c_wrs (fun _ _ _ _ _ _ => congrFun ((lpKR_off (by omega)).trans (up2_off (by omega))) _) ((lpMK_off (by omega) (by omega) 3).trans (up2_off (by omega)))), (K_pro_c c_pro (fun _ _ _ _ _ _ => congrFun ((lpKR_off (by omega)).trans (up2_off (by omega))) _) ((lpMK_off (by omega) (by omega) 3).trans (up2_off (by omega)))), (K_tak_c c_tak (fun _ _ _ _ _ _ => congrFun ((lpKR_off (by omega)).trans (up2_off (by omega))) _) ((lpMK_off (by omega) (by omega) 3).trans (up2_off (by omega))) ((lpMK_off (by omega) (by omega) 3).trans (up2_off (by omega)))), (K_bal_c c_bal (fun _ _ => congrFun ((lpKR_off (by omega)).trans (up2_off (by omega))) _) ((lpMK_off (by omega) (by omega) 3).trans (up2_off (by omega)))), (K_prp_c c_prp (fun _ _ => congrFun ((lpKR_off (by omega)).trans (up2_off (by omega))) _) (fun _ _ => congrFun ((lpKR_off (by omega)).trans (up2_off (by omega))) _) ((lpMK_off (by omega) (by omega) 3).trans (up2_off (by omega)))), (K_kno_c c_kno (fun _ _ => congrFun ((lpKR_off (by omega)).trans (up2_off (by omega))) _) ((lpMK_off (by omega) (by omega) 3).trans (up2_off (by omega)))), (fun i1 a1 hi1 ha1 => by
    rw [show lpKR (up2 d (i + 220) a 1) i a 3 (i1 + 220) = up2 d (i + 220) a 1 (i1 + 220) from lpKR_off (by omega), lpMK_off (by decide) (by decide) 3]
    by_cases e : i1 = i ∧ a1 = a
    · obtain ⟨rfl, rfl⟩ := e
      rw [up2_self, up2_self]
      exact ⟨fun _ => rfl, fun hna => absurd ha hna⟩
    · rw [show up2 d (i + 220) a 1 (i1 + 220) a1 = d (i1 + 220) a1 from if_neg (by omega), show up2 m 619 (3 * i + a) 1 619 (3 * i1 + a1) = m 619 (3 * i1 + a1) from if_neg (by omega)]
      exact c_hr i1 a1 hi1 ha1), (fun i1 a1 s1 hi1 ha1 hs1 h0 => by
    rw [lpMK_off (by decide) (by decide) 3] at h0
    obtain ⟨q1, q2⟩ := lpMK_at (d := up2 m 619 (3 * i + a) 1) (i := i) (a := a) 3 (by decide) (9 * i1 + 3 * a1 + s1)
    rw [q1, q2, up2_off (by decide), up2_off (by decide), up2_off (by decide)]
    by_cases e : i1 = i ∧ a1 = a
    · obtain ⟨rfl, rfl⟩ := e
      rw [lpKR_at (by omega), if_pos hs1, if_pos (by omega), if_pos (by omega), up2_off (by omega), show 9 * i1 + 3 * a1 + s1 - (9 * i1 + 3 * a1) = s1 by omega]
      exact hand s1 hs1
    · rw [if_neg (by omega), if_neg (by omega), lpKR_off (by omega), up2_off (by omega)]
      rw [show up2 m 619 (3 * i + a) 1 619 (3 * i1 + a1) = m 619 (3 * i1 + a1) from if_neg (by omega)] at h0
      exact c_rpl i1 a1 s1 hi1 ha1 hs1 h0), (K_lat_c c_lat (fun _ _ _ _ => (lpKR_off (by omega)).trans (up2_off (by omega))) ((lpMK_off (by omega) (by omega) 3).trans (up2_off (by omega))) ((lpMK_off (by omega) (by omega) 3).trans (up2_off (by omega))))⟩
theorem cnt_mn {n B : Nat} {d m e : DD} {i a : Nat} (hn : n = 1 ∨ n = 3) (hi : i < 16) (h : CR n B d m) (he : m = lpMK e i a 3) : cntI d i n = mnF e i a 3 := by
  have g : ∀ s, s < 3 → lpMK e i a s 619 (3 * i + s) = m 619 (3 * i + s) := fun s _ => by rw [he, lpMK_off (by decide) (by decide), lpMK_off (by decide) (by decide)]
  have k := CK_hr h i
  simp only [mnF, g 0 (by decide), g 1 (by decide), g 2 (by decide)]
  rcases hn with rfl | rfl
  · simp only [cntI]
    rw [(k 0 hi (by decide)).1 (by decide), (k 1 hi (by decide)).2 (by decide), (k 2 hi (by decide)).2 (by decide)]
    simp
  · simp only [cntI]
    rw [(k 0 hi (by decide)).1 (by decide), (k 1 hi (by decide)).1 (by decide), (k 2 hi (by decide)).1 (by decide)]
theorem CR_reply {n B : Nat} {d m : DD} {i a t b : Nat} {mj : Int32} (hn : n ≤ 3) (hi : i < 16) (ha : a < n) (ht : t < 8) (hb1 : 1 ≤ b) (hb : b ≤ B) (hB : B < 1000000) (hj : d 0 3 = mj) (hand : ∀ s, s < 3 → PK B (d 551 s) (m 624 (780 + (7 + s))) (m 624 (780 + (10 + s)))) (h : CR n B d m) : CR n B (f_arrR d n i a t (nI b) mj) (m_rep m n i a t (nI b)) := by
  obtain ⟨e1, q, hq, fq⟩ := CK_bal h i hi
  obtain ⟨-, k1, k2, k3⟩ := CK_num h
  have hk := CR_kept hn hi ha hand h
  have hc := cnt_mn k3 hi hk rfl
  unfold f_arrR m_rep
  rw [← e1]
  by_cases c1 : nI b = d (i + 200) 0
  · rw [if_pos c1, if_pos c1.symm, ← CK_prp h i hi (by rw [← c1]; exact nI_ne0 (by omega) (by omega))]
    by_cases c2 : d (i + 200) 1 = 0
    · rw [if_pos c2, if_pos c2, hc, lpMK_off (by decide) (by decide) 3, up2_off (by decide), k1, ← k2, hj]
      by_cases c3 : mj ≤ mnF (up2 m 619 (3 * i + a) 1) i a 3
      · rw [if_pos c3, if_pos c3]
        exact CR_pr hn hi ht hb hB (CR_u_prp hn hk hi) 3 (by decide)
      · rw [if_neg c3, if_neg c3]
        exact hk
    · rw [if_neg c2, if_neg c2]
      exact h
  · rw [if_neg c1, if_neg (fun g => c1 g.symm)]
    exact h
