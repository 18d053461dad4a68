/-! The reference's flag stays as it is behind the first row of each call. -/
section FL
variable {d : DD}
theorem fl_up {cn k : Nat} {v : Int32} (hn : 601 ≤ cn) : up2 d cn k v 600 0 = d 600 0 := congrFun (up2_off (by omega)) 0
theorem fl_snd {kd t s a ld b v : Int32} : m_snd d kd t s a ld b v 600 0 = d 600 0 := by
  unfold m_snd
  split
  · exact up2_nk (by decide)
  · exact m_put_mo (by decide)
theorem fl_MV {t s b v : Int32} : ∀ n, lpMV d t s b v n 600 0 = d 600 0
  | 0 => rfl
  | n + 1 => (fl_snd).trans (fl_MV n)
theorem fl_MA {t b : Int32} : ∀ n, lpMA d t b n 600 0 = d 600 0
  | 0 => rfl
  | n + 1 => (fl_snd).trans (fl_MA n)
theorem fl_MT {t s a b v : Int32} : ∀ n, lpMT d t s a b v n 600 0 = d 600 0
  | 0 => rfl
  | n + 1 => (fl_snd).trans (fl_MT n)
theorem fl_MRq {t : Nat} : ∀ n, lpMRq d t n 600 0 = d 600 0
  | 0 => rfl
  | n + 1 => by
    unfold lpMRq
    split
    · exact fl_MRq n
    · exact (fl_snd).trans (fl_MRq n)
theorem fl_MO {t : Nat} {v : Int32} : ∀ n, lpMO d t v n 600 0 = d 600 0
  | 0 => rfl
  | n + 1 => by
    unfold lpMO
    split
    · exact fl_MO n
    · exact (fl_snd).trans (fl_MO n)
theorem fl_abort {t s : Nat} : m_abort d t s 600 0 = d 600 0 := congrFun (m_abort_off (by decide) (by decide)) 0
theorem fl_prep {n t s : Nat} : m_prep d n t s 600 0 = d 600 0 := by
  unfold m_prep
  split
  · exact (fl_MV n).trans (fl_up (by decide))
  · split
    · exact (fl_MV n).trans (fl_abort)
    · split
      · exact (fl_MV n).trans (fl_abort)
      · rfl
theorem fl_MC {t s : Nat} : ∀ n, lpMC d t s n 600 0 = d 600 0
  | 0 => rfl
  | n + 1 => by
    unfold lpMC
    split
    · exact fl_MC n
    · exact (fl_up (by decide)).trans (fl_MC n)
theorem fl_commit {t s : Nat} : m_commit d t s 600 0 = d 600 0 := (congrFun (lpMU_off (by decide) 4) 0).trans ((fl_up (by decide)).trans (fl_MC 4))
theorem fl_fin {t s : Nat} {v : Int32} : m_fin d t s v 600 0 = d 600 0 := by
  unfold m_fin
  split
  · split
    · exact fl_commit
    · split
      · rfl
      · split
        · exact fl_abort
        · rfl
  · split
    · rfl
    · split
      · exact fl_abort
      · rfl
theorem fl_ask {a t : Nat} {b : Int32} : m_ask d a t b 600 0 = d 600 0 := by
  unfold m_ask
  split
  · unfold m_ask2
    split
    · exact (up2_nk (by decide)).trans (congrFun (lpMP_off (by decide) 3) 0)
    · exact (congrFun (lpMR_off (by decide) 3) 0).trans ((m_put_mo (by decide)).trans (congrFun (lpMP_off (by decide) 3) 0))
  · rfl
theorem fl_acc {a t s : Nat} {b v : Int32} : m_acc d a t s b v 600 0 = d 600 0 := by
  unfold m_acc
  split
  · exact (fl_MT 2).trans ((fl_up (by decide)).trans ((fl_up (by decide)).trans (fl_up (by decide))))
  · rfl
theorem fl_MW {n i t : Nat} {b : Int32} : ∀ m, lpMW d n i t b m 600 0 = d 600 0
  | 0 => rfl
  | m + 1 => by
    unfold lpMW
    split
    · exact fl_MW m
    · exact (fl_MV n).trans (fl_MW m)
theorem fl_rep {n i a t : Nat} {b : Int32} : m_rep d n i a t b 600 0 = d 600 0 := by
  unfold m_rep
  split
  · split
    · split
      · exact (fl_MW 3).trans ((fl_up (by decide)).trans ((congrFun (lpMK_off (by decide) (by decide) 3) 0).trans (fl_up (by decide))))
      · exact (congrFun (lpMK_off (by decide) (by decide) 3) 0).trans (fl_up (by decide))
    · rfl
  · rfl
theorem fl_told {i t : Nat} : m_told d i t 600 0 = d 600 0 := by
  unfold m_told
  split
  · split
    · split
      · rfl
      · exact (fl_MO 3).trans (fl_up (by decide))
    · exact (fl_MO 3).trans (fl_up (by decide))
  · rfl
theorem fl_arrive {n : Nat} : m_arrive d n 600 0 = d 600 0 := by
  unfold m_arrive
  split
  · split
    · exact fl_prep
    · rfl
  · split
    · split
      · exact fl_ask
      · rfl
    · split
      · split
        · exact fl_rep
        · rfl
      · split
        · split
          · exact fl_acc
          · rfl
        · split
          · split
            · exact (fl_told).trans (congrFun (m_hear_off (by decide) (by decide)) 0)
            · rfl
          · split
            · exact fl_fin
            · rfl
theorem fl_0 : up2 d 600 0 0 600 0 = 0 := up2_self
theorem fl_dlv {n i z : Nat} {st : Int32} : m_dlv d n i z st 600 0 = 0 := fl_arrive.trans ((m_out_mo (by decide)).trans fl_0)
theorem fl_lose {i z : Nat} {st : Int32} : m_out (up2 d 600 0 0) i z st 600 0 = 0 := (m_out_mo (by decide)).trans fl_0
theorem fl_begin {v : Int32} : up2 (up2 d 600 0 0) 600 7 v 600 0 = 0 := (up2_nk (by decide)).trans fl_0
theorem fl_write {t s k : Nat} {v : Int32} : m_write d t s k v 600 0 = 0 := (fl_up (by decide)).trans ((fl_up (by decide)).trans ((fl_up (by decide)).trans ((fl_up (by decide)).trans ((fl_up (by decide)).trans fl_0))))
theorem fl_request {t : Nat} : m_request d t 600 0 = 0 := (fl_MRq 3).trans ((fl_up (by decide)).trans fl_0)
theorem fl_refuse {n t s : Nat} : m_refuse d n t s 600 0 = 0 := (fl_MV n).trans (fl_abort.trans fl_0)
theorem fl_take {n ld t : Nat} : m_take d n ld t 600 0 = 0 := (fl_MA n).trans ((congrFun (lpMD_off (by decide) 3) 0).trans ((fl_up (by decide)).trans ((fl_up (by decide)).trans fl_0)))
theorem fl_MUp {w : Nat} {on : Int32} : ∀ t, lpMUp d w on t 600 0 = d 600 0
  | 0 => rfl
  | t + 1 => by
    unfold lpMUp
    split
    · split
      · exact fl_abort.trans (fl_MUp t)
      · exact fl_MUp t
    · exact fl_MUp t
theorem fl_mup {k w : Nat} {on : Int32} : m_up d k w on 600 0 = 0 := by
  unfold m_up
  split
  · split <;> exact (fl_MUp 8).trans ((fl_up (by decide)).trans fl_0)
  · split
    · split <;> exact (fl_up (by decide)).trans fl_0
    · split
      · exact (congrFun (m_fgt_off (by decide)) 0).trans ((fl_up (by decide)).trans fl_0)
      · exact (fl_up (by decide)).trans fl_0
end FL
theorem CR0_c9 {n B : Nat} {d m d' m' : DD} (hn : n ≤ 3) (h : CR0 n B d m) (e1 : ∀ c, c < 420 → c ≠ 5 → c ≠ 8 → c ≠ 9 → d' c = d c) (e2 : ∀ c, 601 ≤ c → c ≠ 624 → m' c = m c) (e3 : m' 600 1 = m 600 1) (e4 : m' 600 7 = m 600 7) : CR0 n B d' m' := by
  obtain ⟨c_num, c_ups, c_mem, c_clo, c_val, c_loc, c_sta, c_wrt, c_wrs, c_pro, c_tak, c_bal, c_prp, c_kno, c_hr, c_rpl, c_lat⟩ := h
  exact ⟨(K_num_c c_num (e1 _ (by omega) (by omega) (by omega) (by omega)) e3 e4), (K_ups_c c_ups (e1 _ (by omega) (by omega) (by omega) (by omega)) (e2 _ (by omega) (by omega)) (e2 _ (by omega) (by omega)) (e2 _ (by omega) (by omega))), (K_mem_c c_mem (fun _ _ => congrFun (e1 _ (by omega) (by omega) (by omega) (by omega)) _) (e2 _ (by omega) (by omega))), (K_clo_c c_clo (fun _ _ => congrFun (e1 _ (by omega) (by omega) (by omega) (by omega)) _) (e2 _ (by omega) (by omega))), (K_val_c c_val (fun _ _ _ _ => congrFun (e1 _ (by omega) (by omega) (by omega) (by omega)) _) (e2 _ (by omega) (by omega))), (K_loc_c c_loc (fun _ _ _ _ => congrFun (e1 _ (by omega) (by omega) (by omega) (by omega)) _) (e2 _ (by omega) (by omega))), (K_sta_c c_sta (fun _ _ _ _ => congrFun (e1 _ (by omega) (by omega) (by omega) (by omega)) _) (e2 _ (by omega) (by omega))), (K_wrt_c c_wrt (fun _ _ _ _ => congrFun (e1 _ (by omega) (by omega) (by omega) (by omega)) _) (e2 _ (by omega) (by omega))), (K_wrs_c c_wrs (fun _ _ _ _ _ _ => congrFun (e1 _ (by omega) (by omega) (by omega) (by omega)) _) (e2 _ (by omega) (by omega))), (K_pro_c c_pro (fun _ _ _ _ _ _ => congrFun (e1 _ (by omega) (by omega) (by omega) (by omega)) _) (e2 _ (by omega) (by omega))), (K_tak_c c_tak (fun _ _ _ _ _ _ => congrFun (e1 _ (by omega) (by omega) (by omega) (by omega)) _) (e2 _ (by omega) (by omega)) (e2 _ (by omega) (by omega))), (K_bal_c c_bal (fun _ _ => congrFun (e1 _ (by omega) (by omega) (by omega) (by omega)) _) (e2 _ (by omega) (by omega))), (K_prp_c c_prp (fun _ _ => congrFun (e1 _ (by omega) (by omega) (by omega) (by omega)) _) (fun _ _ => congrFun (e1 _ (by omega) (by omega) (by omega) (by omega)) _) (e2 _ (by omega) (by omega))), (K_kno_c c_kno (fun _ _ => congrFun (e1 _ (by omega) (by omega) (by omega) (by omega)) _) (e2 _ (by omega) (by omega))), (K_hr_c c_hr (fun _ _ => e1 _ (by omega) (by omega) (by omega) (by omega)) (e2 _ (by omega) (by omega))), (K_rpl_c c_rpl (fun _ _ _ _ => e1 _ (by omega) (by omega) (by omega) (by omega)) (e2 _ (by omega) (by omega)) (e2 _ (by omega) (by omega)) (e2 _ (by omega) (by omega))), (K_lat_c c_lat (fun _ _ _ _ => e1 _ (by omega) (by omega) (by omega) (by omega)) (e2 _ (by omega) (by omega)) (e2 _ (by omega) (by omega)))⟩

theorem CR_cg {n B : Nat} {d m d' m' : DD} (h : CR n B d m) (e1 : ∀ c, c < 600 → c ≠ 9 → d' c = d c) (e2 : ∀ c, 601 ≤ c → m' c = m c) (e3 : ∀ k, k ≠ 0 → m' 600 k = m 600 k) : CR n B d' m' :=
  ⟨CR0_c9 (CR_n h) h.1 (fun c h1 _ _ h4 => e1 c (by omega) h4) (fun c h1 _ => e2 c h1) (e3 1 (by decide)) (e3 7 (by decide)), NR_c h.2 (fun c hc => e1 c (by omega) (by omega)) (e3 25 (by decide)) (e3 26 (by decide)) (e2 624 (by decide))⟩
/-- what the class's answer and the reference's have to do with each other -/
theorem st_gen {n B B' : Nat} {D D1 fD fM u : DD} {Xo : Option String} {xc : Option String → Int32} {k R R' C r : Int32} (hCR : CR n B D D) (hB : ∀ x, CR n B x x → CR n B' x x) (x0 : xc none = 0) (x1 : ∀ E, xc (some E) ≠ 0)
    (hw : k = xc Xo ∧ (Xo = none → D1 = up2 fD 9 0 R) ∧ (¬ Xo = none → D1 = D)) (hi : Xo = none → ∀ c, 600 ≤ c → fD c = D c) (lo : Xo = none → ∀ c, c < 600 → fM c = D1 c) (fl : fM 600 0 = 0) (hA : CR n B D D1 → xc Xo = C ∧ (Xo = none → R = R' ∧ CR n B' fD fM)) (hm : mQ D1 C R' fM r u) : u 600 0 = k ∧ (k = 0 → u 9 0 = r) ∧ CR n B' u u := by
  obtain ⟨w1, w2, w3⟩ := hw
  have hD1 : ∀ c, 600 ≤ c → D1 c = D c := by
    intro c hc
    by_cases h : Xo = none
    · rw [w2 h, up2_off (by omega)]
      exact hi h c hc
    · rw [w3 h]
  have hCR1 : CR n B D D1 := CR_cg hCR (fun _ _ _ => rfl) (fun c h => hD1 c (by omega)) (fun k _ => by rw [hD1 600 (by decide)])
  obtain ⟨a1, a2⟩ := hA hCR1
  cases Xo with
  | none =>
    obtain ⟨b1, b2⟩ := a2 rfl
    have hC : C = 0 := by rw [← a1, x0]
    rcases hm with ⟨-, rfl, rfl⟩ | ⟨hc, -⟩
    · have h9 : u 9 0 = R := by rw [lo rfl 9 (by decide), w2 rfl, up2_self]
      refine ⟨by rw [fl, w1, x0], fun _ => by rw [h9, b1], CR_cg b2 (fun c h1 h2 => ?_) (fun _ _ => rfl) (fun _ _ => rfl)⟩
      rw [lo rfl c h1, w2 rfl, up2_off h2]
    · exact absurd hC hc
  | some E =>
    have hC : C = k := by rw [← a1, w1]
    have hk : k ≠ 0 := by rw [w1]; exact x1 E
    have hD : D1 = D := w3 (by intro h; cases h)
    rcases hm with ⟨hc, -⟩ | ⟨-, rfl⟩
    · exact absurd (hC.symm.trans hc) hk
    · refine ⟨by rw [up2_self, hC], fun h => absurd h hk, hB _ ?_⟩
      rw [hD]
      exact CR_cg hCR (fun c h1 _ => lo_no h1) (fun c h => (up2_off (by omega)).trans (up2_off (by omega))) (fun k h => (up2_nk h).trans (up2_nk h))
theorem xc1_s (E : String) : xc1 (some E) ≠ 0 := by
  show (1 : Int32) ≠ 0
  decide
theorem xc4_s (E : String) : xc4 (some E) ≠ 0 := by
  show (if E = IAE then (1 : Int32) else if E = NSE then 2 else if E = ISE then 3 else 4) ≠ 0
  (repeat' split) <;> decide
theorem xcT_s (E : String) : xcT (some E) ≠ 0 := by
  show (if E = IAE then (1 : Int32) else 2) ≠ 0
  split <;> decide
