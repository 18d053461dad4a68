/-! Each call of the class beside the reference's. -/
theorem xs_none {a b : Option String} (h : xs a b = none) : a = none ∧ b = none := by
  cases a with
  | none => exact ⟨rfl, h⟩
  | some e => cases h
theorem rg_lt {x : Int32} {B : Nat} (hB : B < 2 ^ 31) (h : rgX x (nI B) = none) : cl x < B := by
  obtain ⟨j, hj, rfl⟩ := rg_nat hB h
  rw [cl_nI (by omega)]
  exact hj
section ST
variable {n B : Nat} {D D1 u : DD} {k r : Int32}
abbrev SC (n B : Nat) (u : DD) (k r : Int32) : Prop := u 600 0 = k ∧ (k = 0 → u 9 0 = r) ∧ CR n B u u
theorem St_begin (h : CR n B D D) (hw : k = xc1 (bnX D) ∧ (bnX D = none → D1 = up2 (up2 D 0 8 (D 0 8 + 1)) 9 0 (D 0 8 + 1 - 1)) ∧ (¬ bnX D = none → D1 = D)) (hm : mQ D1 (mC_begin D1) (D1 600 7 + 1 - 1) (up2 (up2 D1 600 0 0) 600 7 (D1 600 7 + 1)) r u) : SC n B u k r :=
  st_gen h (fun _ q => q) rfl xc1_s hw (fun _ c hc => up2_off (by omega)) (fun _ c hc => (lo_up hc (by decide)).trans (lo_up hc (by decide))) fl_begin (fun q => A_begin q) hm
theorem St_write {t s kk v : Int32} (h : CR n B D D) (hw : k = xc4 (wrX D t s kk) ∧ (wrX D t s kk = none → D1 = up2 (f_write D (cl t) (cl s) (cl kk) v) 9 0 (bcI (f_write D (cl t) (cl s) (cl kk) v (cl s + 50) (cl t)))) ∧ (¬ wrX D t s kk = none → D1 = D)) (hm : mQ D1 (mC_write D1 t s kk) (onF (withI (D1 611 (3 * cl t + cl s)) (cl kk)) 4) (m_write D1 (cl t) (cl s) (cl kk) v) r u) : SC n B u k r :=
  st_gen h (fun _ q => q) rfl xc4_s hw (fun h0 c hc => by
    obtain ⟨a1, a2⟩ := xs_none h0
    exact hi_write hc (rg_lt (B := 3) (by decide) (xs_none a2).1) (rg_lt (B := 8) (by decide) a1)) (fun _ c hc => lo_write hc) fl_write (fun q => A_write q t s kk v) hm
theorem St_request {t : Int32} (h : CR n B D D) (hw : k = xc4 (rqX D t) ∧ (rqX D t = none → D1 = up2 (lpRq (up2 D 7 (cl t) 1) (cl t) 3) 9 0 (bcI (lpRq (up2 D 7 (cl t) 1) (cl t) 3 6 (cl t)))) ∧ (¬ rqX D t = none → D1 = D)) (hm : mQ D1 (mC_request D1 t) (onF (m_request D1 (cl t) 608 (cl t)) 4) (m_request D1 (cl t)) r u) : SC n B u k r :=
  st_gen h (fun _ q => q) rfl xc4_s hw (fun h0 c hc => hi_rq (CR_net h) hc) (fun _ c hc => lo_request hc) fl_request (fun q => A_request q t) hm
theorem St_refuse {t s : Int32} (h : CR n B D D) (hw : k = xc4 (rfX D t s) ∧ (rfX D t s = none → D1 = up2 (f_refuse D n (cl t) (cl s)) 9 0 (bcI (f_refuse D n (cl t) (cl s) (cl s + 50) (cl t)))) ∧ (¬ rfX D t s = none → D1 = D)) (hm : mQ D1 (mC_refuse D1 t s) (onF (m_refuse D1 n (cl t) (cl s) 611 (3 * cl t + cl s)) 4) (m_refuse D1 n (cl t) (cl s)) r u) : SC n B u k r :=
  st_gen h (fun _ q => q) rfl xc4_s hw (fun h0 c hc => hi_refuse (CR_net h) hc (rg_lt (B := 3) (by decide) (xs_none (xs_none h0).2).1)) (fun _ c hc => lo_refuse hc) fl_refuse (fun q => A_refuse q t s) hm
theorem St_take {ld t : Int32} (hB : B + 2 < 1000000) (h : CR n B D D) (hw : k = xc4 (tkX D ld t) ∧ (tkX D ld t = none → D1 = up2 (f_take D n (cl ld) (cl t)) 9 0 (rsI (D (cl ld * 8 + cl t + 200) 0) ld)) ∧ (¬ tkX D ld t = none → D1 = D)) (hm : mQ D1 (mC_take D1 ld t) (tkB (D1 616 (8 * cl ld + cl t)) ld) (m_take D1 n (cl ld) (cl t)) r u) : SC n (B + 2) u k r :=
  st_gen h (fun _ q => CR_m (by omega) q) rfl xc4_s hw (fun h0 c hc => hi_take (CR_net h) hc (rg_lt (B := 2) (by decide) (xs_none h0).1) (rg_lt (B := 8) (by decide) (xs_none (xs_none h0).2).1)) (fun _ c hc => lo_take hc) fl_take (fun q => A_take hB q ld t) hm
theorem St_lose {i : Int32} (h : CR n B D D) (hw : k = xc1 (msX D i) ∧ (msX D i = none → D1 = up2 (f_remove D (cl i) (cl (D 5 1)) (cl (D 8 (cl i)))) 9 0 (D 5 1 - 1)) ∧ (¬ msX D i = none → D1 = D)) (hm : mQ D1 (mC_msg D1 i) (nI (cl (D1 600 25) - 1)) (m_out (up2 D1 600 0 0) (cl i) (cl (D1 600 25)) 0) r u) : SC n B u k r :=
  st_gen h (fun _ q => q) rfl xc1_s hw (fun _ c hc => hi_lose hc) (fun _ c hc => lo_lose hc) fl_lose (fun q => A_lose q i) hm
theorem hi_taken {i : Nat} {st : Int32} {c : Nat} (hc : 600 ≤ c) : f_taken D i st c = D c := by
  unfold f_taken f_picked
  split
  · exact (f_remove_off (by omega) (by omega)).trans (f_copy_off (by omega) (by omega))
  · exact f_copy_off (by omega) (by omega)
theorem St_deliver {i st mj : Int32} (hB : B < 1000000) (hj : D 0 3 = mj) (h : CR n B D D) (hw : k = xc1 (msX D i) ∧ (msX D i = none → D1 = up2 (f_arrive (f_taken D (cl i) st) n mj) 9 0 (f_arrive (f_taken D (cl i) st) n mj 5 1)) ∧ (¬ msX D i = none → D1 = D)) (hm : mQ D1 (mC_msg D1 i) (m_dlv D1 n (cl i) (cl (D1 600 25)) st 600 25) (m_dlv D1 n (cl i) (cl (D1 600 25)) st) r u) : SC n B u k r := by
  refine st_gen h (fun _ q => q) rfl xc1_s hw (fun h0 c hc => ?_) (fun _ c hc => lo_dlv hc) fl_dlv (fun q => A_deliver hB hj q i st) hm
  have hN := CR_net h
  obtain ⟨⟨z, hz, fz⟩, hrow, hinj⟩ := id hN
  obtain ⟨j, hjz, rfl⟩ := ms_nat (by omega) fz h0
  obtain ⟨q, hq, fq⟩ := hrow j (by omega)
  have hM := CR_msgs h j z hz fz hjz q hq fq
  have e1 : NetOK (f_picked D j) := NetOK_keep hN (f_copy_off (by omega) (by omega)) (f_copy_off (by omega) (by omega))
  have e2 : MsgOK n (f_picked D j) 61 := by
    unfold f_picked
    rw [fq, cl_nI (by omega)]
    exact MsgOK_to hM f_copy_msg
  rw [cl_nI (by omega)]
  have hT : NetOK (f_taken D j st) ∧ MsgOK n (f_taken D j st) 61 := by
    unfold f_taken
    split
    · rw [fz, fq, cl_nI (by omega), cl_nI (by omega)]
      refine ⟨NetOK_remove e1 hjz hz ?_, MsgOK_keep e2 (f_remove_off (by omega) (by omega))⟩
      unfold f_picked
      rw [show f_copy D (cl (D 8 j)) 61 8 = D 8 from f_copy_off (by omega) (by omega)]
      exact fq
    · exact ⟨e1, e2⟩
  exact (hi_arrive (CR_n h) hT.1 hT.2 hc).trans (hi_taken hc)
theorem St_up {kd w on : Int32} (h : CR n B D D) (hw : k = xc1 (upXo n kd w) ∧ (upXo n kd w = none → D1 = up2 (upF D n (cl kd) (cl w) on) 9 0 (hasI (D 4 (cl kd)) (cl w))) ∧ (¬ upXo n kd w = none → D1 = D)) (hm : mQ D1 (mC_up n kd w) (mR_up D1 (cl kd) (cl w)) (m_up D1 (cl kd) (cl w) on) r u) : SC n B u k r :=
  st_gen h (fun _ q => q) rfl xc1_s hw (fun h0 c hc => by
    obtain ⟨a1, a2⟩ := xs_none h0
    obtain ⟨j, hj, rfl⟩ := rg_nat (B := 3) (by decide) a1
    have a3 : rgX w (hmI n (nI j)) = none := a2
    rw [cl_nI (by omega)]
    refine hi_up (CR_n h) hc hj (fun e => ?_) (fun e => ?_)
    · subst e
      exact rg_lt (B := 3) (by decide) a3
    · subst e
      exact rg_lt (B := 2) (by decide) a3) (fun _ c hc => lo_mup hc) fl_mup (fun q => A_up q kd w on) hm
theorem St_ro {Xo : Option String} {xc : Option String → Int32} {R R' C : Int32} (h : CR n B D D) (x0 : xc none = 0) (x1 : ∀ E, xc (some E) ≠ 0) (hw : k = xc Xo ∧ (Xo = none → D1 = up2 D 9 0 R) ∧ (¬ Xo = none → D1 = D)) (hA : CR n B D D1 → xc Xo = C ∧ (Xo = none → R = R')) (hm : mQ D1 C R' (up2 D1 600 0 0) r u) : SC n B u k r :=
  st_gen (fD := D) h (fun _ q => q) x0 x1 hw (fun _ c _ => rfl) (fun _ c hc => lo_up hc (by decide)) fl_0 (fun q => ⟨(hA q).1, fun e => ⟨(hA q).2 e, CR_flag q⟩⟩) hm
end ST
