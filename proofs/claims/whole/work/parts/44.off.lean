/-! The reference leaves the class's cells alone. -/
section LO
variable {d : DD} {c : Nat}
theorem lo_up {cn k : Nat} {v : Int32} (h : c < 600) (hn : 600 ≤ cn) : up2 d cn k v c = d c := up2_off (by omega)
theorem lo_snd {kd t s a ld b v : Int32} (h : c < 600) : m_snd d kd t s a ld b v c = d c := by
  unfold m_snd
  split
  · exact lo_up h (by decide)
  · exact m_put_off (by omega) (by omega)
theorem lo_MV {t s b v : Int32} (h : c < 600) : ∀ n, lpMV d t s b v n c = d c
  | 0 => rfl
  | n + 1 => (lo_snd h).trans (lo_MV h n)
theorem lo_MA {t b : Int32} (h : c < 600) : ∀ n, lpMA d t b n c = d c
  | 0 => rfl
  | n + 1 => (lo_snd h).trans (lo_MA h n)
theorem lo_MT {t s a b v : Int32} (h : c < 600) : ∀ n, lpMT d t s a b v n c = d c
  | 0 => rfl
  | n + 1 => (lo_snd h).trans (lo_MT h n)
theorem lo_MRq {t : Nat} (h : c < 600) : ∀ n, lpMRq d t n c = d c
  | 0 => rfl
  | n + 1 => by
    unfold lpMRq
    split
    · exact lo_MRq h n
    · exact (lo_snd h).trans (lo_MRq h n)
theorem lo_MO {t : Nat} {v : Int32} (h : c < 600) : ∀ n, lpMO d t v n c = d c
  | 0 => rfl
  | n + 1 => by
    unfold lpMO
    split
    · exact lo_MO h n
    · exact (lo_snd h).trans (lo_MO h n)
theorem lo_abort {t s : Nat} (h : c < 600) : m_abort d t s c = d c := m_abort_off (by omega) (by omega)
theorem lo_prep {n t s : Nat} (h : c < 600) : m_prep d n t s c = d c := by
  unfold m_prep
  split
  · exact (lo_MV h n).trans (lo_up h (by decide))
  · split
    · exact (lo_MV h n).trans (lo_abort h)
    · split
      · exact (lo_MV h n).trans (lo_abort h)
      · rfl
theorem lo_MC {t s : Nat} (h : c < 600) : ∀ n, lpMC d t s n c = d c
  | 0 => rfl
  | n + 1 => by
    unfold lpMC
    split
    · exact lo_MC h n
    · exact (lo_up h (by decide)).trans (lo_MC h n)
theorem lo_commit {t s : Nat} (h : c < 600) : m_commit d t s c = d c := (lpMU_off (by omega) 4).trans ((lo_up h (by decide)).trans (lo_MC h 4))
theorem lo_fin {t s : Nat} {v : Int32} (h : c < 600) : m_fin d t s v c = d c := by
  unfold m_fin
  split
  · split
    · exact lo_commit h
    · split
      · rfl
      · split
        · exact lo_abort h
        · rfl
  · split
    · rfl
    · split
      · exact lo_abort h
      · rfl
theorem lo_ask {a t : Nat} {b : Int32} (h : c < 600) : m_ask d a t b c = d c := by
  unfold m_ask
  split
  · unfold m_ask2
    split
    · exact (lo_up h (by decide)).trans (lpMP_off (by omega) 3)
    · exact (lpMR_off (by omega) 3).trans ((m_put_off (by omega) (by omega)).trans (lpMP_off (by omega) 3))
  · rfl
theorem lo_acc {a t s : Nat} {b v : Int32} (h : c < 600) : m_acc d a t s b v c = d c := by
  unfold m_acc
  split
  · exact (lo_MT h 2).trans ((lo_up h (by decide)).trans ((lo_up h (by decide)).trans (lo_up h (by decide))))
  · rfl
theorem lo_MW {n i t : Nat} {b : Int32} (h : c < 600) : ∀ m, lpMW d n i t b m c = d c
  | 0 => rfl
  | m + 1 => by
    unfold lpMW
    split
    · exact lo_MW h m
    · exact (lo_MV h n).trans (lo_MW h m)
theorem lo_rep {n i a t : Nat} {b : Int32} (h : c < 600) : m_rep d n i a t b c = d c := by
  unfold m_rep
  split
  · split
    · split
      · exact (lo_MW h 3).trans ((lo_up h (by decide)).trans ((lpMK_off (by omega) (by omega) 3).trans (lo_up h (by decide))))
      · exact (lpMK_off (by omega) (by omega) 3).trans (lo_up h (by decide))
    · rfl
  · rfl
theorem lo_told {i t : Nat} (h : c < 600) : m_told d i t c = d c := by
  unfold m_told
  split
  · split
    · split
      · rfl
      · exact (lo_MO h 3).trans (lo_up h (by decide))
    · exact (lo_MO h 3).trans (lo_up h (by decide))
  · rfl
theorem lo_arrive {n : Nat} (h : c < 600) : m_arrive d n c = d c := by
  unfold m_arrive
  split
  · split
    · exact lo_prep h
    · rfl
  · split
    · split
      · exact lo_ask h
      · rfl
    · split
      · split
        · exact lo_rep h
        · rfl
      · split
        · split
          · exact lo_acc h
          · rfl
        · split
          · split
            · exact (lo_told h).trans (m_hear_off (by omega) (by omega))
            · rfl
          · split
            · exact lo_fin h
            · rfl
theorem lo_dlv {n i z : Nat} {st : Int32} (h : c < 600) : m_dlv d n i z st c = d c := (lo_arrive h).trans ((m_out_off (by omega) (by omega)).trans (lo_up h (by decide)))
theorem lo_lose {i z : Nat} {st : Int32} (h : c < 600) : m_out (up2 d 600 0 0) i z st c = d c := (m_out_off (by omega) (by omega)).trans (lo_up h (by decide))
theorem lo_write {t s k : Nat} {v : Int32} (h : c < 600) : m_write d t s k v c = d c := (lo_up h (by decide)).trans ((lo_up h (by decide)).trans ((lo_up h (by decide)).trans ((lo_up h (by decide)).trans ((lo_up h (by decide)).trans (lo_up h (by decide))))))
theorem lo_request {t : Nat} (h : c < 600) : m_request d t c = d c := (lo_MRq h 3).trans ((lo_up h (by decide)).trans (lo_up h (by decide)))
theorem lo_refuse {n t s : Nat} (h : c < 600) : m_refuse d n t s c = d c := (lo_MV h n).trans ((lo_abort h).trans (lo_up h (by decide)))
theorem lo_take {n ld t : Nat} (h : c < 600) : m_take d n ld t c = d c := (lo_MA h n).trans ((lpMD_off (by omega) 3).trans ((lo_up h (by decide)).trans ((lo_up h (by decide)).trans (lo_up h (by decide)))))
theorem lo_MUp {w : Nat} {on : Int32} (h : c < 600) : ∀ t, lpMUp d w on t c = d c
  | 0 => rfl
  | t + 1 => by
    unfold lpMUp
    split
    · split
      · exact (lo_abort h).trans (lo_MUp h t)
      · exact lo_MUp h t
    · exact lo_MUp h t
theorem lo_mup {k w : Nat} {on : Int32} (h : c < 600) : m_up d k w on c = d c := by
  unfold m_up
  split
  · split <;> exact (lo_MUp h 8).trans ((lo_up h (by decide)).trans (lo_up h (by decide)))
  · split
    · split <;> exact (lo_up h (by decide)).trans (lo_up h (by decide))
    · split
      · exact (m_fgt_off (by omega)).trans ((lo_up h (by decide)).trans (lo_up h (by decide)))
      · exact (lo_up h (by decide)).trans (lo_up h (by decide))
theorem lo_no {x : Int32} (h : c < 600) : up2 (up2 d 600 0 0) 600 0 x c = d c := (lo_up h (by decide)).trans (lo_up h (by decide))
end LO
/-! The class leaves the reference's cells alone. -/
section HI
variable {d : DD} {c : Nat}
theorem hi_write {t s k : Nat} {v : Int32} (h : 600 ≤ c) (hs : s < 3) (ht : t < 8) : f_write d t s k v c = d c := by
  unfold f_write f_keep
  rw [up2_off (by omega), up2_off (by omega), up2_off (by omega), up2_off (by omega), up2_off (by omega)]
theorem hi_rq {t : Nat} (hN : NetOK d) (h : 600 ≤ c) : lpRq (up2 d 7 t 1) t 3 c = d c := ((lpRq_ok (NetOK_keep hN (up2_off (by decide)) (up2_off (by decide))) 3).2 c (by omega) (by omega)).trans (up2_off (by omega))
theorem hi_SVa {n t s : Nat} {x y b v : Int32} (hN : NetOK d) (h : 600 ≤ c) (hs : s < 3) : lpSV (f_abort d s t) x y b v n c = d c := ((lpSV_ok (NetOK_keep hN (f_abort_off (by omega) (by omega)) (f_abort_off (by omega) (by omega))) n).2 c (by omega) (by omega)).trans (f_abort_off (by omega) (by omega))
theorem hi_refuse {n t s : Nat} (hN : NetOK d) (h : 600 ≤ c) (hs : s < 3) : f_refuse d n t s c = d c := hi_SVa hN h hs
theorem hi_take {n ld t : Nat} (hN : NetOK d) (h : 600 ≤ c) (hl : ld < 2) (ht : t < 8) : f_take d n ld t c = d c := ((lpSA_ok (NetOK_keep hN (f_raise_off (by omega) (by omega)) (f_raise_off (by omega) (by omega))) n).2 c (by omega) (by omega)).trans (f_raise_off (by omega) (by omega))
theorem hi_lose {i z q : Nat} (h : 600 ≤ c) : f_remove d i z q c = d c := f_remove_off (by omega) (by omega)
theorem hi_commit {s t : Nat} (h : 600 ≤ c) (hs : s < 3) : f_commit d s t c = d c := by
  have hc : ∀ k, lpCommit d s t k c = d c := by
    intro k
    induction k with
    | zero => rfl
    | succ k ih =>
      unfold lpCommit
      split
      · exact ih
      · exact (up2_off (by omega)).trans ih
  exact (lpUnlock_off (by omega)).trans ((up2_off (by omega)).trans (hc 4))
theorem hi_arrP {n s t : Nat} (hN : NetOK d) (h : 600 ≤ c) (hs : s < 3) : f_arrP d n s t c = d c := by
  unfold f_arrP
  split
  · exact ((lpSV_ok (NetOK_keep hN (up2_off (by omega)) (up2_off (by omega))) n).2 c (by omega) (by omega)).trans (up2_off (by omega))
  · split
    · exact hi_SVa hN h hs
    · split
      · exact hi_SVa hN h hs
      · rfl
theorem hi_arrA {a t : Nat} {b : Int32} (hN : NetOK d) (h : 600 ≤ c) (ha : a < 3) (ht : t < 8) : f_arrA d a t b c = d c := by
  unfold f_arrA
  split
  · exact ((f_reply_ok (NetOK_keep hN (lpProm_off (by omega)) (lpProm_off (by omega)))).2 c (by omega) (by omega)).trans (lpProm_off (by omega))
  · rfl
theorem hi_kept {i a : Nat} (hi : i < 16) (ha : a < 3) (h : c < 220 ∨ 600 ≤ c) : f_kept d i a c = d c := (lpKR_off (by omega)).trans (up2_off (by omega))
theorem hi_arrR {n i a t : Nat} {b mj : Int32} (hN : NetOK d) (h : 600 ≤ c) (hi : i < 16) (ha : a < 3) : f_arrR d n i a t b mj c = d c := by
  unfold f_arrR
  split
  · split
    · split
      · exact ((lpPr_ok (NetOK_keep hN ((up2_off (by omega)).trans (hi_kept hi ha (by omega))) ((up2_off (by omega)).trans (hi_kept hi ha (by omega)))) 3).2 c (by omega) (by omega)).trans ((up2_off (by omega)).trans (hi_kept hi ha (by omega)))
      · exact hi_kept hi ha (by omega)
    · rfl
  · rfl
theorem hi_arrV {a t s : Nat} {b v : Int32} (hN : NetOK d) (h : 600 ≤ c) (ha : a < 3) (ht : t < 8) : f_arrV d a t s b v c = d c := by
  unfold f_arrV
  have e : ∀ x, (x < 130 ∨ 600 ≤ x) → f_accept d a t s b v x = d x := fun x hx => (up2_off (by omega)).trans (up2_off (by omega))
  split
  · exact ((lpTold_ok (NetOK_keep hN (e 5 (by omega)) (e 8 (by omega))) 2).2 c (by omega) (by omega)).trans (e c (by omega))
  · rfl
theorem hi_arrT {n i a s t : Nat} {b v mj : Int32} (hN : NetOK d) (h : 600 ≤ c) (hi : i < 16) (ha : a < 3) : f_arrT d n i a s t b v mj c = d c := by
  have e1 : ∀ x, (x < 350 ∨ 600 ≤ x) → f_hear d i a s b v x = d x := fun x hx => f_hear_off (by omega)
  have e2 : ∀ x, (x < 200 ∨ 600 ≤ x) → f_jdg (f_hear d i a s b v) n i t mj x = d x := fun x hx => (up2_off (by omega)).trans (e1 x (by omega))
  unfold f_arrT
  split
  · split
    · exact e2 c (by omega)
    · exact ((lpSO_ok (NetOK_keep hN (e2 5 (by omega)) (e2 8 (by omega))) 3).2 c (by omega) (by omega)).trans (e2 c (by omega))
  · exact e1 c (by omega)
theorem hi_arrO {s t : Nat} {v : Int32} (h : 600 ≤ c) (hs : s < 3) : f_arrO d s t v c = d c := by
  unfold f_arrO
  split
  · split
    · exact hi_commit h hs
    · split
      · exact f_abort_off (by omega) (by omega)
      · rfl
  · split
    · split
      · rfl
      · exact f_abort_off (by omega) (by omega)
    · rfl
theorem hi_arrive {n : Nat} {mj : Int32} (hn : n ≤ 3) (hN : NetOK d) (hM : MsgOK n d 61) (h : 600 ≤ c) : f_arrive d n mj c = d c := by
  unfold f_arrive
  rcases hM with ⟨fk, s, t, hs, ht, f1, f2⟩ | ⟨fk, a, t, ha, ht, f1, f3⟩ | ⟨fk, ld, t, a, hld, ht, ha, f1, f3, f4⟩ | ⟨fk, a, t, s, ha, ht, hs, f1, f2, f3⟩ | ⟨fk, ld, t, a, s, hld, ht, ha, hs, f1, f2, f3, f4⟩ | ⟨fk, s, t, hs, ht, f1, f2⟩
  · have f1 : d 481 1 = nI t := f1; have f2 : d 481 2 = nI s := f2; have fk : d 481 0 = 0 := fk
    rw [fk, f1, f2, if_pos rfl, cl_nI (by omega), cl_nI (by omega)]
    split
    · rfl
    · exact hi_arrP hN h hs
  · have f1 : d 481 1 = nI t := f1; have f3 : d 481 3 = nI a := f3; have fk : d 481 0 = 1 := fk
    rw [fk, f1, f3, if_neg (by decide), if_pos rfl, cl_nI (by omega), cl_nI (by omega)]
    split
    · rfl
    · exact hi_arrA hN h (by omega) ht
  · have f1 : d 481 1 = nI t := f1; have f3 : d 481 3 = nI a := f3; have f4 : d 481 4 = nI ld := f4; have fk : d 481 0 = 2 := fk
    rw [fk, f1, f3, f4, if_neg (by decide), if_neg (by decide), if_pos rfl, cl_nI (by omega), cl_nI (by omega), cl_nI (by omega)]
    split
    · rfl
    · exact hi_arrR hN h (by omega) (by omega)
  · have f1 : d 481 1 = nI t := f1; have f2 : d 481 2 = nI s := f2; have f3 : d 481 3 = nI a := f3; have fk : d 481 0 = 3 := fk
    rw [fk, f1, f2, f3, if_neg (by decide), if_neg (by decide), if_neg (by decide), if_pos rfl, cl_nI (by omega), cl_nI (by omega), cl_nI (by omega)]
    split
    · rfl
    · exact hi_arrV hN h (by omega) ht
  · have f1 : d 481 1 = nI t := f1; have f2 : d 481 2 = nI s := f2; have f3 : d 481 3 = nI a := f3; have f4 : d 481 4 = nI ld := f4; have fk : d 481 0 = 4 := fk
    rw [fk, f1, f2, f3, f4, if_neg (by decide), if_neg (by decide), if_neg (by decide), if_neg (by decide), if_pos rfl, cl_nI (by omega), cl_nI (by omega), cl_nI (by omega), cl_nI (by omega)]
    split
    · rfl
    · exact hi_arrT hN h (by omega) (by omega)
  · have f1 : d 481 1 = nI t := f1; have f2 : d 481 2 = nI s := f2; have fk : d 481 0 = 5 := fk
    rw [fk, f1, f2, if_neg (by decide), if_neg (by decide), if_neg (by decide), if_neg (by decide), if_neg (by decide), cl_nI (by omega), cl_nI (by omega)]
    split
    · rfl
    · exact hi_arrO h hs
theorem hi_AW {s : Nat} (h : 600 ≤ c) (hs : s < 3) : ∀ t, lpAW d s t c = d c
  | 0 => rfl
  | t + 1 => by
    unfold lpAW
    split
    · exact (f_abort_off (by omega) (by omega)).trans (hi_AW h hs t)
    · exact hi_AW h hs t
theorem hi_Stop {n ld : Nat} (hn : n ≤ 3) (h : 600 ≤ c) (hl : ld < 2) : ∀ t, t ≤ 8 → lpStop d n ld t c = d c
  | 0, _ => rfl
  | t + 1, ht => (f_forget_off (by omega) (by omega) (by omega)).trans (hi_Stop hn h hl t (by omega))
theorem hi_up {n k w : Nat} {on : Int32} (hn : n ≤ 3) (h : 600 ≤ c) (hk : k < 3) (hw : k = 0 → w < 3) (hw2 : k = 2 → w < 2) : upF d n k w on c = d c := by
  unfold upF
  split
  · split
    · exact (hi_AW h (hw (by assumption)) 8).trans (up2_off (by omega))
    · split
      · exact (hi_Stop hn h (hw2 (by assumption)) 8 (by decide)).trans (up2_off (by omega))
      · exact up2_off (by omega)
  · exact up2_off (by omega)
end HI
