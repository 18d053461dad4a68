/-! The face: the same answer, the same throw. -/
def xc4 : Option String → Int32
  | none => 0
  | some e => if e = IAE then 1 else if e = NSE then 2 else if e = ISE then 3 else 4
def xc1 : Option String → Int32
  | none => 0
  | some _ => 1
theorem rg_out (x y : Int32) : (rgX x y = none ∧ outI x y = 0) ∨ (rgX x y = some IAE ∧ ¬ outI x y = 0) := by
  unfold rgX outI
  by_cases c : x < 0
  · rw [if_pos c, if_pos c]; exact Or.inr ⟨rfl, by decide⟩
  · rw [if_neg c, if_neg c]
    by_cases c2 : x < y
    · rw [if_pos c2, if_pos c2]; exact Or.inl ⟨rfl, rfl⟩
    · rw [if_neg c2, if_neg c2]; exact Or.inr ⟨rfl, by decide⟩
theorem x4_i : xc4 (some IAE) = 1 := by decide
theorem x4_n : xc4 (some NSE) = 2 := by decide
theorem x4_s : xc4 (some ISE) = 3 := by decide
theorem x4_u : xc4 (some UOE) = 4 := by decide
theorem CR_tr {n B : Nat} {d m : DD} (h : CR n B d m) : d 0 8 = m 600 7 := (CK_num h).1.1
theorem CR_n {n B : Nat} {d m : DD} (h : CR n B d m) : n ≤ 3 := by
  rcases (CK_num h).2.2.2 with rfl | rfl <;> decide
theorem CR_net {n B : Nat} {d m : DD} (h : CR n B d m) : NetOK d := h.2.1
theorem CR_MN {n B : Nat} {d m : DD} (h : CR n B d m) : MN m := by
  obtain ⟨-, -, z, hz, -, gz, -⟩ := h.2
  exact ⟨z, hz, gz⟩
theorem MSH_ok {n B : Nat} {d : DD} {q : Nat} (h : MSH n B (d (q + 420) 0) (d (q + 420) 1) (d (q + 420) 2) (d (q + 420) 3) (d (q + 420) 4) (d (q + 420) 5) (d (q + 420) 6)) : MsgOK n d q := by
  unfold MsgOK
  rcases h with ⟨h0, ⟨t, ht, h1⟩, ⟨s, hs, h2⟩, h3, h4, h5, h6⟩ | ⟨h0, ⟨t, ht, h1⟩, h2, ⟨a, ha, h3⟩, h4, ⟨b, hb1, hb, h5⟩, h6⟩ | ⟨h0, ⟨t, ht, h1⟩, h2, ⟨a, ha, h3⟩, ⟨ld, hld, h4⟩, ⟨b, hb1, hb, h5⟩, h6⟩ | ⟨h0, ⟨t, ht, h1⟩, ⟨s, hs, h2⟩, ⟨a, ha, h3⟩, h4, ⟨b, hb, h5⟩, ⟨v, hv, h6⟩⟩ | ⟨h0, ⟨t, ht, h1⟩, ⟨s, hs, h2⟩, ⟨a, ha, h3⟩, ⟨ld, hld, h4⟩, ⟨b, hb, h5⟩, ⟨v, hv, h6⟩⟩ | ⟨h0, ⟨t, ht, h1⟩, ⟨s, hs, h2⟩, h3, h4, h5, ⟨v, hv, h6⟩⟩
  · exact Or.inl ⟨h0, s, t, hs, ht, h1, h2⟩
  · exact Or.inr (Or.inl ⟨h0, a, t, ha, ht, h1, h3⟩)
  · exact Or.inr (Or.inr (Or.inl ⟨h0, ld, t, a, hld, ht, ha, h1, h3, h4⟩))
  · exact Or.inr (Or.inr (Or.inr (Or.inl ⟨h0, a, t, s, ha, ht, hs, h1, h2, h3⟩)))
  · exact Or.inr (Or.inr (Or.inr (Or.inr (Or.inl ⟨h0, ld, t, a, s, hld, ht, ha, hs, h1, h2, h3, h4⟩))))
  · exact Or.inr (Or.inr (Or.inr (Or.inr (Or.inr ⟨h0, s, t, hs, ht, h1, h2⟩))))
theorem CR_msgs {n B : Nat} {d m : DD} (h : CR n B d m) : ∀ i z, z ≤ 60 → d 5 1 = nI z → i < z → ∀ q, q < 60 → d 8 i = nI q → MsgOK n d q := by
  obtain ⟨-, -, z', hz', fz', -, hm⟩ := h.2
  intro i z hz fz hiz q hq fq
  obtain rfl : z' = z := (nI_eq (by omega) (by omega)).mp (fz'.symm.trans fz)
  exact MSH_ok (hm i q hiz hq fq).1
theorem MRR_ok {n B : Nat} {r ρ : Nat → Int32} {m : DD} {b : Nat} (hn : n ≤ 3) (h : MRR n B r ρ (m 624) b) : MmB m b := by
  obtain ⟨hs, e0, ek, -⟩ := h
  unfold MmB
  rw [e0, ek 1 (by decide) (by decide), ek 2 (by decide) (by decide), ek 3 (by decide) (by decide), ek 4 (by decide) (by decide)]
  rcases hs with ⟨h0, ⟨t, ht, h1⟩, ⟨s, hs, h2⟩, h3, h4, h5, h6⟩ | ⟨h0, ⟨t, ht, h1⟩, h2, ⟨a, ha, h3⟩, h4, ⟨b, hb1, hb, h5⟩, h6⟩ | ⟨h0, ⟨t, ht, h1⟩, h2, ⟨a, ha, h3⟩, ⟨ld, hld, h4⟩, ⟨b, hb1, hb, h5⟩, h6⟩ | ⟨h0, ⟨t, ht, h1⟩, ⟨s, hs, h2⟩, ⟨a, ha, h3⟩, h4, ⟨b, hb, h5⟩, ⟨v, hv, h6⟩⟩ | ⟨h0, ⟨t, ht, h1⟩, ⟨s, hs, h2⟩, ⟨a, ha, h3⟩, ⟨ld, hld, h4⟩, ⟨b, hb, h5⟩, ⟨v, hv, h6⟩⟩ | ⟨h0, ⟨t, ht, h1⟩, ⟨s, hs, h2⟩, h3, h4, h5, ⟨v, hv, h6⟩⟩ <;> rw [h0]
  · exact Or.inl ⟨by decide, s, t, hs, ht, h1, h2⟩
  · exact Or.inr (Or.inl ⟨by decide, a, t, by omega, ht, h1, h3⟩)
  · exact Or.inr (Or.inr (Or.inl ⟨by decide, ld, t, a, hld, ht, by omega, h1, h3, h4⟩))
  · exact Or.inr (Or.inr (Or.inr (Or.inl ⟨by decide, a, t, s, by omega, ht, hs, h1, h2, h3⟩)))
  · exact Or.inr (Or.inr (Or.inr (Or.inr (Or.inl ⟨by decide, ld, t, a, s, hld, ht, by omega, hs, h1, h2, h3, h4⟩))))
  · exact Or.inr (Or.inr (Or.inr (Or.inr (Or.inr ⟨by decide, s, t, hs, ht, h1, h2⟩))))
theorem CR_Mm {n B : Nat} {d m : DD} (h : CR n B d m) : ∀ i, i < cl (m 600 25) → MmB m (13 * i) := by
  have hn := CR_n h
  obtain ⟨hN, -, z, hz, fz, gz, hm⟩ := h.2
  intro i hi
  rw [gz, cl_nI (by omega)] at hi
  obtain ⟨q, hq, fq⟩ := hN.2.1 i (by omega)
  exact MRR_ok hn (hm i q hi hq fq)
/-- when it throws, nothing but the reference's flag changes -/
theorem CR_thr {n B : Nat} {d m : DD} {x : Int32} (h : CR n B d m) : CR n B d (up2 (up2 m 600 0 0) 600 0 x) := CR_flag (CR_flag h)
theorem A_begin {n B : Nat} {d m : DD} (h : CR n B d m) : xc1 (bnX d) = mC_begin m ∧ (bnX d = none → d 0 8 + 1 - 1 = m 600 7 + 1 - 1 ∧ CR n B (up2 d 0 8 (d 0 8 + 1)) (up2 (up2 m 600 0 0) 600 7 (m 600 7 + 1))) := by
  obtain ⟨⟨e, q, hq, fq⟩, k1, k2, k3⟩ := CK_num h
  unfold bnX mC_begin
  rw [← e, fq]
  by_cases c : q < 8
  · rw [if_pos (show nI q < 8 from nI_lt (b := 8) c (by decide)), if_neg (fun g => by have := (nI_eq (a := q) (b := 8) (by omega) (by omega)).mp g; omega)]
    refine ⟨rfl, fun _ => ⟨rfl, ?_⟩⟩
    refine ⟨?_, NR_c h.2 (fun c hc => up2_off (by omega)) ((up2_nk (by decide)).trans (up2_nk (by decide))) ((up2_nk (by decide)).trans (up2_nk (by decide))) ((up2_off (by decide)).trans (up2_off (by decide)))⟩
    obtain ⟨c_num, c_ups, c_mem, c_clo, c_val, c_loc, c_sta, c_wrt, c_wrs, c_pro, c_tak, c_bal, c_prp, c_kno, c_hr, c_rpl, c_lat⟩ := h.1
    exact ⟨⟨⟨by rw [up2_self, up2_self], q + 1, by omega, by rw [up2_self, nI_1]⟩, by rw [up2_nk (by decide), up2_nk (by decide)]; exact k1, by rw [up2_nk (by decide)]; exact k2, k3⟩, (K_ups_c c_ups (up2_off (by omega)) ((up2_off (by omega)).trans (up2_off (by omega))) ((up2_off (by omega)).trans (up2_off (by omega))) ((up2_off (by omega)).trans (up2_off (by omega)))), (K_mem_c c_mem (fun _ _ => congrFun (up2_off (by omega)) _) ((up2_off (by omega)).trans (up2_off (by omega)))), (K_clo_c c_clo (fun _ _ => congrFun (up2_off (by omega)) _) ((up2_off (by omega)).trans (up2_off (by omega)))), (K_val_c c_val (fun _ _ _ _ => congrFun (up2_off (by omega)) _) ((up2_off (by omega)).trans (up2_off (by omega)))), (K_loc_c c_loc (fun _ _ _ _ => congrFun (up2_off (by omega)) _) ((up2_off (by omega)).trans (up2_off (by omega)))), (K_sta_c c_sta (fun _ _ _ _ => congrFun (up2_off (by omega)) _) ((up2_off (by omega)).trans (up2_off (by omega)))), (K_wrt_c c_wrt (fun _ _ _ _ => congrFun (up2_off (by omega)) _) ((up2_off (by omega)).trans (up2_off (by omega)))), (K_wrs_c c_wrs (fun _ _ _ _ _ _ => congrFun (up2_off (by omega)) _) ((up2_off (by omega)).trans (up2_off (by omega)))), (K_pro_c c_pro (fun _ _ _ _ _ _ => congrFun (up2_off (by omega)) _) ((up2_off (by omega)).trans (up2_off (by omega)))), (K_tak_c c_tak (fun _ _ _ _ _ _ => congrFun (up2_off (by omega)) _) ((up2_off (by omega)).trans (up2_off (by omega))) ((up2_off (by omega)).trans (up2_off (by omega)))), (K_bal_c c_bal (fun _ _ => congrFun (up2_off (by omega)) _) ((up2_off (by omega)).trans (up2_off (by omega)))), (K_prp_c c_prp (fun _ _ => congrFun (up2_off (by omega)) _) (fun _ _ => congrFun (up2_off (by omega)) _) ((up2_off (by omega)).trans (up2_off (by omega)))), (K_kno_c c_kno (fun _ _ => congrFun (up2_off (by omega)) _) ((up2_off (by omega)).trans (up2_off (by omega)))), (K_hr_c c_hr (fun _ _ => up2_off (by omega)) ((up2_off (by omega)).trans (up2_off (by omega)))), (K_rpl_c c_rpl (fun _ _ _ _ => up2_off (by omega)) ((up2_off (by omega)).trans (up2_off (by omega))) ((up2_off (by omega)).trans (up2_off (by omega))) ((up2_off (by omega)).trans (up2_off (by omega)))), (K_lat_c c_lat (fun _ _ _ _ => up2_off (by omega)) ((up2_off (by omega)).trans (up2_off (by omega))) ((up2_off (by omega)).trans (up2_off (by omega))))⟩
  · obtain rfl : q = 8 := by omega
    rw [if_neg (show ¬ nI 8 < 8 by decide), if_pos (show nI 8 = 8 from rfl)]
    exact ⟨rfl, fun g => nomatch g⟩
theorem CR_bg {n B : Nat} {d m : DD} (h : CR n B d m) (t : Int32) : (bgX d t = none ∧ t < m 600 7) ∨ (bgX d t = some NSE ∧ ¬ t < m 600 7) := by
  unfold bgX
  rw [CR_tr h]
  by_cases c : t < m 600 7
  · rw [if_pos c]; exact Or.inl ⟨rfl, c⟩
  · rw [if_neg c]; exact Or.inr ⟨rfl, c⟩
theorem CR_upx {n B : Nat} {d m : DD} {k w : Nat} (h : CR n B d m) (hw : (k = 0 ∧ w < 3) ∨ (k = 1 ∧ w < n) ∨ (k = 2 ∧ w < 2)) : (upX d k w = none ∧ m (602 + k) w = 0) ∨ (upX d k w = some ISE ∧ ¬ m (602 + k) w = 0) := by
  have hu := CR_has0 h hw
  unfold upX
  by_cases c : hasI (d 4 k) w = 0
  · rw [if_pos c]; exact Or.inr ⟨rfl, hu.mp c⟩
  · rw [if_neg c]; exact Or.inl ⟨rfl, Decidable.not_not.mp fun g => c (hu.mpr g)⟩
theorem with_8 : ∀ q : Nat, q < 8 → ∀ s : Nat, s < 3 → withI (nI q) s = nI (q ||| (1 <<< s)) ∧ q ||| (1 <<< s) < 8 := by decide +kernel
theorem with_16 : ∀ q : Nat, q < 16 → ∀ s : Nat, s < 4 → withI (nI q) s = nI (q ||| (1 <<< s)) ∧ q ||| (1 <<< s) < 16 := by decide +kernel
theorem bc_on : ∀ q : Nat, q < 16 → bcI (nI q) = onF (nI q) 4 := by decide +kernel
theorem up2_comm {d : DD} {c k c' k' : Nat} {v v' : Int32} (h : c ≠ c') : up2 (up2 d c k v) c' k' v' = up2 (up2 d c' k' v') c k v := by
  funext a b
  unfold up2
  by_cases h1 : a = c' ∧ b = k'
  · rw [if_pos h1, if_neg (fun g => h (g.1.symm.trans h1.1)), if_pos h1]
  · rw [if_neg h1, if_neg h1]
theorem CR_write {n B : Nat} {d m : DD} {t s k : Nat} {v : Int32} (h : CR n B d m) (ht : t < 8) (hs : s < 3) (hk : k < 4) : bcI (f_write d t s k v (s + 50) t) = onF (withI (m 611 (3 * t + s)) k) 4 ∧ CR n B (f_write d t s k v) (m_write m t s k v) := by
  have hn := CR_n h
  have hf := CR_flag (x := 0) h
  obtain ⟨e1, q1, hq1, fq1⟩ := CK_mem h t ht
  obtain ⟨e2, q2, hq2, fq2⟩ := CK_wrt h s t hs ht
  obtain ⟨w1, w2⟩ := with_8 q1 hq1 s hs
  obtain ⟨w3, w4⟩ := with_16 q2 hq2 k hk
  have a6 : f_keep d s t k v 6 = d 6 := by
    unfold f_keep
    rw [up2_off (by omega), up2_off (by omega), up2_off (by omega), up2_off (by omega)]
  have er : f_write d t s k v = up2 (up2 (up2 (up2 (up2 d (s + 40) t 1) 6 t (withI (d 6 t) s)) (s + 30) k (nI t)) (s + 50) t (withI (d (s + 50) t) k)) (8 * s + t + 70) k v := by
    unfold f_write
    rw [a6]
    unfold f_keep
    rw [up2_comm (show 8 * s + t + 70 ≠ 6 by omega), up2_comm (show s + 50 ≠ 6 by omega), up2_comm (show s + 30 ≠ 6 by omega)]
  rw [er]
  refine ⟨?_, ?_⟩
  · rw [up2_nc (by omega), up2_self, ← e2, fq2, w3]
    exact bc_on _ w4
  · unfold m_write
    refine CR_u_wrs hn (CR_u_wrt hn (CR_u_loc hn (CR_u_mem hn (CR_u_sta hn hf hs ht ⟨rfl, 1, by decide, rfl⟩) ht ?_) hs hk ⟨rfl, Or.inr ⟨t, ht, rfl⟩⟩) hs ht ?_) hs ht hk rfl
    · rw [← e1, fq1, w1]
      exact ⟨rfl, _, w2, rfl⟩
    · rw [← e2, fq2, w3]
      exact ⟨rfl, _, w4, rfl⟩
theorem A_write {n B : Nat} {d m : DD} (h : CR n B d m) (t s k v : Int32) : xc4 (wrX d t s k) = mC_write m t s k ∧ (wrX d t s k = none → bcI (f_write d (cl t) (cl s) (cl k) v (cl s + 50) (cl t)) = onF (withI (m 611 (3 * cl t + cl s)) (cl k)) 4 ∧ CR n B (f_write d (cl t) (cl s) (cl k) v) (m_write m (cl t) (cl s) (cl k) v)) := by
  unfold wrX mC_write
  rcases rg_out t 8 with ⟨r1, o1⟩ | ⟨r1, o1⟩
  · rcases rg_out s 3 with ⟨r2, o2⟩ | ⟨r2, o2⟩
    · rcases rg_out k 4 with ⟨r3, o3⟩ | ⟨r3, o3⟩
      · obtain ⟨t, ht, rfl⟩ := rg_nat (B := 8) (by decide) r1
        obtain ⟨s, hs, rfl⟩ := rg_nat (B := 3) (by decide) r2
        obtain ⟨k, hk, rfl⟩ := rg_nat (B := 4) (by decide) r3
        rw [r1, r2, r3, if_pos o1, if_pos o2, if_pos o3, cl_nI (by omega), cl_nI (by omega), cl_nI (by omega)]
        rcases CR_bg h (nI t) with ⟨r4, o4⟩ | ⟨r4, o4⟩
        · rw [r4, if_pos o4]
          rcases CR_upx (k := 0) (w := s) h (Or.inl ⟨rfl, hs⟩) with ⟨r5, o5⟩ | ⟨r5, o5⟩
          · rw [r5, if_pos (show m 602 s = 0 from o5)]
            obtain ⟨e1, l⟩ := CK_loc h s k hs hk
            obtain ⟨e2, q, hq, fq⟩ := CR_sta h hs ht
            have e3 := CK_clo h t ht
            have hc := CR_write (v := v) h ht hs hk
            have ho : ¬ openI d s t = 0 ↔ m 610 (3 * t + s) ≤ 1 := by
              unfold openI
              rw [← e2, fq]
              rcases (show q = 0 ∨ q = 1 ∨ q = 2 ∨ q = 3 ∨ q = 4 by omega) with rfl | rfl | rfl | rfl | rfl <;> decide
            have hA : xc4 (if d 7 t = 0 then (if openI d s t = 0 then some UOE else none) else some UOE) = (if m 609 t = 0 then (if m 610 (3 * t + s) ≤ 1 then 0 else 4) else 4) := by
              rw [← e3]
              by_cases c : d 7 t = 0
              · rw [if_pos c, if_pos c]
                by_cases c2 : openI d s t = 0
                · rw [if_pos c2, if_neg (fun g => (ho.mpr g) c2)]; rfl
                · rw [if_neg c2, if_pos (ho.mp c2)]; rfl
              · rw [if_neg c, if_neg c]; rfl
            unfold lockedI
            rw [← e1]
            rcases l with l | ⟨j, hj, l⟩
            · rw [l, if_pos rfl, if_pos rfl, if_pos (show (-1 : Int32) < 0 by decide)]
              exact ⟨hA, fun _ => hc⟩
            · rw [l, if_neg (nI_m1 (by omega)), if_neg (nI_pos (by omega))]
              by_cases c : nI j = nI t
              · rw [if_pos c, if_pos rfl, if_pos c]
                exact ⟨hA, fun _ => hc⟩
              · rw [if_neg c, if_neg (show ¬ (1 : Int32) = 0 by decide), if_neg c]
                exact ⟨rfl, fun g => nomatch g⟩
          · rw [r5, if_neg (show ¬ m 602 s = 0 from o5)]
            exact ⟨rfl, fun g => nomatch g⟩
        · rw [r4, if_neg o4]
          exact ⟨rfl, fun g => nomatch g⟩
      · rw [r1, r2, r3, if_pos o1, if_pos o2, if_neg o3]
        exact ⟨rfl, fun g => nomatch g⟩
    · rw [r1, r2, if_pos o1, if_neg o2]
      exact ⟨rfl, fun g => nomatch g⟩
  · rw [r1, if_neg o1]
    exact ⟨rfl, fun g => nomatch g⟩
theorem A_request {n B : Nat} {d m : DD} (h : CR n B d m) (t : Int32) : xc4 (rqX d t) = mC_request m t ∧ (rqX d t = none → bcI (lpRq (up2 d 7 (cl t) 1) (cl t) 3 6 (cl t)) = onF (m_request m (cl t) 608 (cl t)) 4 ∧ CR n B (lpRq (up2 d 7 (cl t) 1) (cl t) 3) (m_request m (cl t))) := by
  unfold rqX mC_request
  rcases rg_out t 8 with ⟨r1, o1⟩ | ⟨r1, o1⟩
  · obtain ⟨t, ht, rfl⟩ := rg_nat (B := 8) (by decide) r1
    rw [r1, if_pos o1, cl_nI (by omega)]
    rcases CR_bg h (nI t) with ⟨r4, o4⟩ | ⟨r4, o4⟩
    · rw [r4, if_pos o4, ← (CK_mem h t ht).1, ← CK_clo h t ht]
      have hc : CR n B (lpRq (up2 d 7 t 1) t 3) (m_request m t) := CR_rq (CR_n h) ht (CR_u_clo (CR_n h) (CR_flag h) ht rfl) 3 (Nat.le_refl _)
      obtain ⟨e, q, hq, fq⟩ := CK_mem hc t ht
      by_cases c : d 6 t = 0
      · rw [if_pos c, if_pos c]
        exact ⟨rfl, fun g => nomatch g⟩
      · rw [if_neg c, if_neg c]
        by_cases c2 : d 7 t = 0
        · rw [if_pos c2, if_pos c2]
          refine ⟨rfl, fun _ => ⟨?_, hc⟩⟩
          rw [← e, fq]
          exact bc_on q (by omega)
        · rw [if_neg c2, if_neg c2]
          exact ⟨rfl, fun g => nomatch g⟩
    · rw [r4, if_neg o4]
      exact ⟨rfl, fun g => nomatch g⟩
  · rw [r1, if_neg o1]
    exact ⟨rfl, fun g => nomatch g⟩
theorem A_refuse {n B : Nat} {d m : DD} (h : CR n B d m) (t s : Int32) : xc4 (rfX d t s) = mC_refuse m t s ∧ (rfX d t s = none → bcI (f_refuse d n (cl t) (cl s) (cl s + 50) (cl t)) = onF (m_refuse m n (cl t) (cl s) 611 (3 * cl t + cl s)) 4 ∧ CR n B (f_refuse d n (cl t) (cl s)) (m_refuse m n (cl t) (cl s))) := by
  unfold rfX mC_refuse
  rcases rg_out t 8 with ⟨r1, o1⟩ | ⟨r1, o1⟩
  · rcases rg_out s 3 with ⟨r2, o2⟩ | ⟨r2, o2⟩
    · obtain ⟨t, ht, rfl⟩ := rg_nat (B := 8) (by decide) r1
      obtain ⟨s, hs, rfl⟩ := rg_nat (B := 3) (by decide) r2
      rw [r1, r2, if_pos o1, if_pos o2, cl_nI (by omega), cl_nI (by omega)]
      rcases CR_bg h (nI t) with ⟨r4, o4⟩ | ⟨r4, o4⟩
      · rw [r4, if_pos o4]
        rcases CR_upx (k := 0) (w := s) h (Or.inl ⟨rfl, hs⟩) with ⟨r5, o5⟩ | ⟨r5, o5⟩
        · rw [r5, if_pos (show m 602 s = 0 from o5), ← (CR_sta h hs ht).1]
          have hc : CR n B (f_refuse d n t s) (m_refuse m n t s) := CR_sv (b := 0) (v := 0) (CR_n h) ht hs (Nat.zero_le _) (by decide) (CR_abort (CR_n h) hs ht (CR_flag h)) n (Nat.le_refl _)
          obtain ⟨e, q, hq, fq⟩ := CK_wrt hc s t hs ht
          by_cases c : d (s + 40) t = 1
          · rw [if_pos c, if_pos c]
            refine ⟨rfl, fun _ => ⟨?_, hc⟩⟩
            rw [← e, fq]
            exact bc_on q hq
          · rw [if_neg c, if_neg c]
            exact ⟨rfl, fun g => nomatch g⟩
        · rw [r5, if_neg (show ¬ m 602 s = 0 from o5)]
          exact ⟨rfl, fun g => nomatch g⟩
      · rw [r4, if_neg o4]
        exact ⟨rfl, fun g => nomatch g⟩
    · rw [r1, r2, if_pos o1, if_neg o2]
      exact ⟨rfl, fun g => nomatch g⟩
  · rw [r1, if_neg o1]
    exact ⟨rfl, fun g => nomatch g⟩
theorem A_take {n B : Nat} {d m : DD} (hB : B + 2 < 1000000) (h : CR n B d m) (ld t : Int32) : xc4 (tkX d ld t) = mC_take m ld t ∧ (tkX d ld t = none → rsI (d (cl ld * 8 + cl t + 200) 0) ld = tkB (m 616 (8 * cl ld + cl t)) ld ∧ CR n (B + 2) (f_take d n (cl ld) (cl t)) (m_take m n (cl ld) (cl t))) := by
  unfold tkX mC_take
  rcases rg_out ld 2 with ⟨r1, o1⟩ | ⟨r1, o1⟩
  · rcases rg_out t 8 with ⟨r2, o2⟩ | ⟨r2, o2⟩
    · obtain ⟨ld, hld, rfl⟩ := rg_nat (B := 2) (by decide) r1
      obtain ⟨t, ht, rfl⟩ := rg_nat (B := 8) (by decide) r2
      rw [r1, r2, if_pos o1, if_pos o2, cl_nI (by omega), cl_nI (by omega)]
      rcases CR_bg h (nI t) with ⟨r4, o4⟩ | ⟨r4, o4⟩
      · rw [r4, if_pos o4]
        rcases CR_upx (k := 2) (w := ld) h (Or.inr (Or.inr ⟨rfl, hld⟩)) with ⟨r5, o5⟩ | ⟨r5, o5⟩
        · rw [r5, if_pos (show m 604 ld = 0 from o5), ← CK_clo h t ht]
          by_cases c : d 7 t = 0
          · rw [if_pos c, if_pos c]
            exact ⟨rfl, fun g => nomatch g⟩
          · rw [if_neg c, if_neg c]
            exact ⟨rfl, fun _ => CR_take (CR_n h) hld ht hB h⟩
        · rw [r5, if_neg (show ¬ m 604 ld = 0 from o5)]
          exact ⟨rfl, fun g => nomatch g⟩
      · rw [r4, if_neg o4]
        exact ⟨rfl, fun g => nomatch g⟩
    · rw [r1, r2, if_pos o1, if_neg o2]
      exact ⟨rfl, fun g => nomatch g⟩
  · rw [r1, if_neg o1]
    exact ⟨rfl, fun g => nomatch g⟩
theorem CR_msx {n B : Nat} {d m : DD} (h : CR n B d m) (i : Int32) : (∃ j z : Nat, z ≤ 60 ∧ j < z ∧ i = nI j ∧ d 5 1 = nI z ∧ m 600 25 = nI z ∧ msX d i = none ∧ mC_msg m i = 0) ∨ (msX d i = some IOE ∧ mC_msg m i = 1) := by
  obtain ⟨-, -, z, hz, fz, gz, -⟩ := h.2
  unfold mC_msg
  rw [gz]
  rcases rg_out i (nI z) with ⟨r, o⟩ | ⟨r, o⟩
  · obtain ⟨j, hj, rfl⟩ := rg_nat (by omega) r
    refine Or.inl ⟨j, z, hz, hj, rfl, fz, rfl, ?_, by rw [if_pos o]⟩
    unfold msX
    rw [fz, if_neg (nI_pos (by omega)), if_pos (nI_lt hj (by omega))]
  · refine Or.inr ⟨?_, by rw [if_neg o]⟩
    unfold msX
    rw [fz]
    unfold rgX at r
    by_cases c : i < 0
    · rw [if_pos c]
    · rw [if_neg c] at r ⊢
      by_cases c2 : i < nI z
      · rw [if_pos c2] at r
        exact nomatch r
      · rw [if_neg c2]
theorem A_lose {n B : Nat} {d m : DD} (h : CR n B d m) (i : Int32) : xc1 (msX d i) = mC_msg m i ∧ (msX d i = none → d 5 1 - 1 = nI (cl (m 600 25) - 1) ∧ CR n B (f_remove d (cl i) (cl (d 5 1)) (cl (d 8 (cl i)))) (m_out (up2 m 600 0 0) (cl i) (cl (m 600 25)) 0)) := by
  rcases CR_msx h i with ⟨j, z, hz, hj, rfl, fz, gz, r, o⟩ | ⟨r, o⟩
  · rw [r, o]
    refine ⟨rfl, fun _ => ?_⟩
    obtain ⟨q, hq, fq⟩ := h.2.1.2.1 j (by omega)
    rw [cl_nI (by omega), fq, fz, gz, cl_nI (by omega), cl_nI (by omega)]
    exact ⟨pk_sub (a := z) (b := 1) (by omega), CR_remove (CR_n h) hj hz fz fq (CR_flag h)⟩
  · rw [r, o]
    exact ⟨rfl, fun g => nomatch g⟩
theorem A_deliver {n B : Nat} {d m : DD} {mj : Int32} (hB : B < 1000000) (hj : d 0 3 = mj) (h : CR n B d m) (i st : Int32) : xc1 (msX d i) = mC_msg m i ∧ (msX d i = none → f_arrive (f_taken d (cl i) st) n mj 5 1 = m_dlv m n (cl i) (cl (m 600 25)) st 600 25 ∧ CR n B (f_arrive (f_taken d (cl i) st) n mj) (m_dlv m n (cl i) (cl (m 600 25)) st)) := by
  rcases CR_msx h i with ⟨j, z, hz, hj9, rfl, fz, gz, r, o⟩ | ⟨r, o⟩
  · rw [r, o]
    refine ⟨rfl, fun _ => ?_⟩
    rw [cl_nI (by omega), gz, cl_nI (by omega)]
    have hc := CR_deliver (st := st) (CR_n h) hB hj hj9 hz fz h
    obtain ⟨-, -, z2, hz2, fz2, gz2, -⟩ := hc.2
    exact ⟨by rw [fz2, gz2], hc⟩
  · rw [r, o]
    exact ⟨rfl, fun g => nomatch g⟩
theorem A_up {n B : Nat} {d m : DD} (h : CR n B d m) (k w on : Int32) : xc1 (upXo n k w) = mC_up n k w ∧ (upXo n k w = none → hasI (d 4 (cl k)) (cl w) = mR_up m (cl k) (cl w) ∧ CR n B (upF d n (cl k) (cl w) on) (m_up m (cl k) (cl w) on)) := by
  unfold upXo mC_up
  rcases rg_out k 3 with ⟨r1, o1⟩ | ⟨r1, o1⟩
  · obtain ⟨k, hk, rfl⟩ := rg_nat (B := 3) (by decide) r1
    rcases rg_out w (hmI n (nI k)) with ⟨r2, o2⟩ | ⟨r2, o2⟩
    · have r1' : rgX (nI k) (nI 3) = none := r1
      rw [r1', r2, if_pos o1, if_pos o2]
      refine ⟨rfl, fun _ => ?_⟩
      have hw : ¬ w < 0 := fun g => by
        unfold rgX at r2
        rw [if_pos g] at r2
        exact nomatch r2
      obtain ⟨w, hw9, rfl⟩ := nI_of hw
      have hb := hm_bound (CK_num h).2.2.2 hk o2 hw9
      rw [cl_nI (by omega), cl_nI (by omega)]
      exact ⟨CR_has h hb, CR_up (CR_n h) h hb⟩
    · have r1' : rgX (nI k) (nI 3) = none := r1
      rw [r1', r2, if_pos o1, if_neg o2]
      exact ⟨rfl, fun g => nomatch g⟩
  · have r1' : rgX k (nI 3) = some IAE := r1
    rw [r1', if_neg o1]
    exact ⟨rfl, fun g => nomatch g⟩
theorem A_value {n B : Nat} {d m : DD} (h : CR n B d m) (s k : Int32) : xc1 (vlX s k) = mC_vl s k ∧ (vlX s k = none → d (cl s + 20) (cl k) = m 605 (4 * cl s + cl k) ∧ d (cl s + 30) (cl k) = m 606 (4 * cl s + cl k)) := by
  unfold vlX mC_vl
  rcases rg_out s 3 with ⟨r1, o1⟩ | ⟨r1, o1⟩
  · rcases rg_out k 4 with ⟨r2, o2⟩ | ⟨r2, o2⟩
    · obtain ⟨s, hs, rfl⟩ := rg_nat (B := 3) (by decide) r1
      obtain ⟨k, hk, rfl⟩ := rg_nat (B := 4) (by decide) r2
      rw [r1, r2, if_pos o1, if_pos o2, cl_nI (by omega), cl_nI (by omega)]
      exact ⟨rfl, fun _ => ⟨CK_val h s k hs hk, (CK_loc h s k hs hk).1⟩⟩
    · rw [r1, r2, if_pos o1, if_neg o2]
      exact ⟨rfl, fun g => nomatch g⟩
  · rw [r1, if_neg o1]
    exact ⟨rfl, fun g => nomatch g⟩
theorem A_state {n B : Nat} {d m : DD} (h : CR n B d m) (t s : Int32) : xc4 (stX d t s) = mC_state m t s ∧ (stX d t s = none → d (cl s + 40) (cl t) = m 610 (3 * cl t + cl s)) := by
  unfold stX mC_state
  rcases rg_out t 8 with ⟨r1, o1⟩ | ⟨r1, o1⟩
  · rcases rg_out s 3 with ⟨r2, o2⟩ | ⟨r2, o2⟩
    · rw [r1, r2, if_pos o1, if_pos o2]
      rcases CR_bg h t with ⟨r4, o4⟩ | ⟨r4, o4⟩
      · obtain ⟨t, ht, rfl⟩ := rg_nat (B := 8) (by decide) r1
        obtain ⟨s, hs, rfl⟩ := rg_nat (B := 3) (by decide) r2
        rw [r4, if_pos o4, cl_nI (by omega), cl_nI (by omega)]
        exact ⟨rfl, fun _ => (CR_sta h hs ht).1⟩
      · rw [r4, if_neg o4]
        exact ⟨rfl, fun g => nomatch g⟩
    · rw [r1, r2, if_pos o1, if_neg o2]
      exact ⟨rfl, fun g => nomatch g⟩
  · rw [r1, if_neg o1]
    exact ⟨rfl, fun g => nomatch g⟩
theorem A_outcome {n B : Nat} {d m : DD} (h : CR n B d m) (ld t : Int32) : xc4 (ocX d ld t) = mC_oc m ld t ∧ (ocX d ld t = none → ocI (d (cl ld * 8 + cl t + 200) 2) = m 618 (8 * cl ld + cl t)) := by
  unfold ocX mC_oc
  rcases rg_out ld 2 with ⟨r1, o1⟩ | ⟨r1, o1⟩
  · rcases rg_out t 8 with ⟨r2, o2⟩ | ⟨r2, o2⟩
    · rw [r1, r2, if_pos o1, if_pos o2]
      rcases CR_bg h t with ⟨r4, o4⟩ | ⟨r4, o4⟩
      · obtain ⟨ld, hld, rfl⟩ := rg_nat (B := 2) (by decide) r1
        obtain ⟨t, ht, rfl⟩ := rg_nat (B := 8) (by decide) r2
        rw [r4, if_pos o4, cl_nI (by omega), cl_nI (by omega), show ld * 8 + t = 8 * ld + t by omega]
        rcases CK_kno h (8 * ld + t) (by omega) with ⟨x, y⟩ | ⟨x, y⟩ | ⟨x, y⟩
        · rw [x, y, if_pos rfl, if_neg (by decide)]
          exact ⟨rfl, fun g => nomatch g⟩
        · rw [x, y, if_neg (by decide), if_pos (by decide)]
          exact ⟨rfl, fun _ => rfl⟩
        · rw [x, y, if_neg (by decide), if_pos (by decide)]
          exact ⟨rfl, fun _ => rfl⟩
      · rw [r4, if_neg o4]
        exact ⟨rfl, fun g => nomatch g⟩
    · rw [r1, r2, if_pos o1, if_neg o2]
      exact ⟨rfl, fun g => nomatch g⟩
  · rw [r1, if_neg o1]
    exact ⟨rfl, fun g => nomatch g⟩
theorem A_taken {n B : Nat} {d m : DD} (hB : B < 1000000) (h : CR n B d m) (a t s pr : Int32) : xc4 (tnX n d a t s) = mC_tn m n a t s ∧ (tnX n d a t s = none → tnI d (cl a) (cl t) (cl s) pr = mR_tn m (cl a) (cl t) (cl s) pr) := by
  have hn := CR_n h
  unfold tnX mC_tn
  rcases rg_out a (nI n) with ⟨r0, o0⟩ | ⟨r0, o0⟩
  · rcases rg_out t 8 with ⟨r1, o1⟩ | ⟨r1, o1⟩
    · rcases rg_out s 3 with ⟨r2, o2⟩ | ⟨r2, o2⟩
      · rw [r0, r1, r2, if_pos o0, if_pos o1, if_pos o2]
        rcases CR_bg h t with ⟨r4, o4⟩ | ⟨r4, o4⟩
        · obtain ⟨a, ha, rfl⟩ := rg_nat (B := n) (by omega) r0
          obtain ⟨t, ht, rfl⟩ := rg_nat (B := 8) (by decide) r1
          obtain ⟨s, hs, rfl⟩ := rg_nat (B := 3) (by decide) r2
          rw [r4, if_pos o4, cl_nI (by omega), cl_nI (by omega), cl_nI (by omega)]
          refine ⟨rfl, fun _ => ?_⟩
          unfold tnI mR_tn
          by_cases c : pr = 0
          · rw [if_pos c, if_pos c]
            rcases CK_tak h a t s ha ht hs with ⟨x, y⟩ | ⟨bb, vv, h1, h2, x, y, z⟩
            · rw [x, y, if_neg (by decide)]
            · rw [x, y, z, if_pos (nI_pos' (by omega)), show (2 : Int32) = nI 2 from rfl, pk_mul, nI_add]
          · rw [if_neg c, if_neg c]
            exact CK_pro h a t s ha ht hs
        · rw [r4, if_neg o4]
          exact ⟨rfl, fun g => nomatch g⟩
      · rw [r0, r1, r2, if_pos o0, if_pos o1, if_neg o2]
        exact ⟨rfl, fun g => nomatch g⟩
    · rw [r0, r1, if_pos o0, if_neg o1]
      exact ⟨rfl, fun g => nomatch g⟩
  · rw [r0, if_neg o0]
    exact ⟨rfl, fun g => nomatch g⟩
theorem A_count {n B : Nat} {d m : DD} (h : CR n B d m) (x : Int32) : xc1 (rgX x 7) = mC_ct x ∧ (rgX x 7 = none → ctI d n x = mR_ct m n x) := by
  obtain ⟨-, ho, z, hz, fz, gz, -⟩ := h.2
  obtain ⟨⟨a1, -⟩, ⟨b1, -⟩, c1, -⟩ := CK_ups h
  have u : ∀ c N, c ≠ 600 → usF (up2 m 600 0 0) c N = usF m c N := fun c N hc => usF_c (up2_off hc) N
  rcases rg_out x 7 with ⟨r, o⟩ | ⟨r, o⟩
  · obtain ⟨j, hj, rfl⟩ := rg_nat (B := 7) (by decide) r
    rw [r]
    rcases (show j = 0 ∨ j = 1 ∨ j = 2 ∨ j = 3 ∨ j = 4 ∨ j = 5 ∨ j = 6 by omega) with rfl | rfl | rfl | rfl | rfl | rfl | rfl
    · exact ⟨rfl, fun _ => fz.trans gz.symm⟩
    · exact ⟨rfl, fun _ => ho⟩
    · exact ⟨rfl, fun _ => CR_tr h⟩
    · exact ⟨rfl, fun _ => rfl⟩
    · exact ⟨rfl, fun _ => a1.trans (u 602 3 (by decide)).symm⟩
    · exact ⟨rfl, fun _ => b1.trans (u 603 n (by decide)).symm⟩
    · exact ⟨rfl, fun _ => c1.trans (u 604 2 (by decide)).symm⟩
  · rw [r]
    refine ⟨?_, fun g => nomatch g⟩
    have hx : ∀ j : Nat, j < 7 → ¬ x = nI j := fun j hj e => by
      rw [e] at o
      unfold outI at o
      rw [if_neg (nI_pos (by omega)), if_pos (show nI j < 7 from nI_lt (b := 7) hj (by decide))] at o
      exact o rfl
    unfold mC_ct
    rw [if_neg (show ¬ x = 0 from hx 0 (by decide)), if_neg (show ¬ x = 1 from hx 1 (by decide)), if_neg (show ¬ x = 2 from hx 2 (by decide)), if_neg (show ¬ x = 3 from hx 3 (by decide)), if_neg (show ¬ x = 4 from hx 4 (by decide)), if_neg (show ¬ x = 5 from hx 5 (by decide)), if_neg (show ¬ x = 6 from hx 6 (by decide))]
    rfl
