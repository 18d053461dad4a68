set_option maxHeartbeats 4000000 in
set_option maxRecDepth 100000 in
theorem c_sendVotes (l : Launch) (G : GT) (hG : GOK G) (d : DD) (t s b v : Int32) (hN : NetOK d) : Met l y_PC_sendVotes (.code y_PC_sendVotes b_PC_sendVotes 7 none :: WS) { frames := 3, cells := 0, slots := 0, locals := 82 } (cPre G [.ref (gad G (0)), .int (t), .int (s), .int (b), .int (v)] d) (cQv G (fun u9 => u9 = lpSV d t s b v (gn G))) 0 0 (gAb G) := by
  refine c_start (own := R_PC) (by decide +kernel) rfl (Nat.le_of_ble_eq_true rfl) ?_
  intro p e zs zm below meth zc ls C hW hl
  obtain ⟨hx, hb, hr, hml, hown, hts, hlk, hE, hbs⟩ := C
  have hK := hE.1
  have hn3 := hG.1
  have hl : lv_has ls 7 [(0, .ref (gad G (0))), (1, .int (t)), (2, .int (s)), (3, .int (b)), (4, .int (v))] := hl
  refine lv_iconst (v := 0) hx hb d_PC_sendVotes_0 (by decide) ?_
  refine lv_istore (lv' := [(5, .int (0)), (0, .ref (gad G (0))), (1, .int (t)), (2, .int (s)), (3, .int (b)), (4, .int (v))]) hx hb d_PC_sendVotes_1 hl (by decide) rfl (fun ls hl => ?_)
  have L_3 : ∀ (N a : Nat), a ≤ gn G → gn G + 1 ≤ a + N → ∀ (H : Heap) (locs : List Loc) (ls : Array Slot), WD G zs.heap (lpSV d t s b v a) H locs → lv_has ls 7 [(5, .int (nI a)), (0, .ref (gad G (0))), (1, .int (t)), (2, .int (s)), (3, .int (b)), (4, .int (v))] → (NetOK (lpSV d t s b v a)) → W p l e { frames := 3, cells := 0, slots := 0, locals := 82 } zs zm [.ref (gad G (0)), .int (t), .int (s), .int (b), .int (v)].toArray below meth zc H locs 0 0 (MQ below (cQv G (fun u9 => u9 = lpSV d t s b v (gn G))) [.ref (gad G (0)), .int (t), .int (s), .int (b), .int (v)].toArray zs 0 0 (gAb G)) (F0 zm 3 ls []) := by
    intro N
    induction N with
    | zero => intro a h1 h2; exact absurd h2 (by omega)
    | succ N ih_a =>
      intro a hi_a hN_a H locs ls hW hl hM_a
      refine lv_iload hx hb d_PC_sendVotes_3 (lv_at hl 0 rfl) ?_
      refine lv_aload_n hx hb d_PC_sendVotes_5 rfl (lv_at hl 1 rfl) ?_
      refine e_get (v := .ref (gad G (2))) hx hb hts hown hK hW (F_PC G hG) i_PC rfl 1 (by decide) (hts _ kw_196) (fun _ h => h) rfl d_PC_sendVotes_6 ?_
      refine e_lenQ hx hb hK hW (F_Accs G hG) d_PC_sendVotes_9 ?_
      refine lv_icmp_ge (tgt := 65) hx hb d_PC_sendVotes_10 (by decide) (fun c_1 => ?_) (fun c_1 => ?_)
      · skip
        have e_a : gn G = a := (lp_out rfl (by omega) hi_a c_1).symm
        subst e_a
        exact e_vret hx hb hr hlk hW (by exact rfl) (Nat.zero_le _) (Nat.zero_le _) d_PC_sendVotes_65
      · skip
        have lt_a : a < gn G := lp_in rfl (by omega) hi_a c_1
        refine lv_aload_n hx hb d_PC_sendVotes_13 rfl (lv_at hl 1 rfl) ?_
        refine e_get (v := .ref (gad G (5))) hx hb hts hown hK hW (F_PC G hG) i_PC rfl 5 (by decide) (hts _ kw_210) (fun _ h => h) rfl d_PC_sendVotes_14 ?_
        refine lv_iconst (v := 3) hx hb d_PC_sendVotes_17 (by decide) ?_
        refine lv_iload_n hx hb d_PC_sendVotes_18 rfl (lv_at hl 2 rfl) ?_
        refine e_cr (e_runV hx hb hml hown hts hE hbs hW (F_Net G hG) rfl (c_Net_compose l G hG (lpSV d t s b v a) (3) (t)) kw_213 kw_214 kw_215 kw_212 kw_211 rfl rfl hd_Net_compose ⟨Nat.le_of_ble_eq_true rfl, Nat.le_of_ble_eq_true rfl⟩ (As := [.int (3), .int (t)]) (rest := []) rfl hl.1 rfl (Nat.le_of_ble_eq_true rfl) d_PC_sendVotes_19 ⟨Nat.le_of_ble_eq_true rfl, Nat.le_of_ble_eq_true rfl⟩) hW (fun cn d' H locs hp hW => ?_)
        obtain ⟨hp1, hp2⟩ := hp
        have hp1 := hp1.symm; subst hp1
        have hp2 := hp2.symm; subst hp2
        refine lv_astore (lv' := [(6, .ref (gad G (60 + 420))), (5, .int (nI a)), (0, .ref (gad G (0))), (1, .int (t)), (2, .int (s)), (3, .int (b)), (4, .int (v))]) hx hb d_PC_sendVotes_22 hl (by decide) rfl (fun ls hl => ?_)
        refine lv_aload hx hb d_PC_sendVotes_24 (lv_at hl 0 rfl) ?_
        refine lv_iload_n hx hb d_PC_sendVotes_26 rfl (lv_at hl 4 rfl) ?_
        refine e_putN hx hb hts hown hK hW (F_Msg (i0 := 60) G hG (by decide)) i_Msg t_Msg t_Msg_ok n_Msg rfl 2 (by decide) (nf_2 hE) (fun _ h => h) rfl (by decide +kernel) (fun _ => rfl) (fun _ => rfl) d_PC_sendVotes_27 (fun H locs hW => ?_)
        refine lv_aload hx hb d_PC_sendVotes_30 (lv_at hl 0 rfl) ?_
        refine lv_iload hx hb d_PC_sendVotes_32 (lv_at hl 1 rfl) ?_
        refine e_putN hx hb hts hown hK hW (F_Msg (i0 := 60) G hG (by decide)) i_Msg t_Msg t_Msg_ok n_Msg rfl 3 (by decide) (nf_3 hE) (fun _ h => h) rfl (by decide +kernel) (fun _ => rfl) (fun _ => rfl) d_PC_sendVotes_34 (fun H locs hW => ?_)
        refine lv_aload hx hb d_PC_sendVotes_37 (lv_at hl 0 rfl) ?_
        refine lv_iload_n hx hb d_PC_sendVotes_39 rfl (lv_at hl 5 rfl) ?_
        refine e_putN hx hb hts hown hK hW (F_Msg (i0 := 60) G hG (by decide)) i_Msg t_Msg t_Msg_ok n_Msg rfl 5 (by decide) (nf_5 hE) (fun _ h => h) rfl (by decide +kernel) (fun _ => rfl) (fun _ => rfl) d_PC_sendVotes_40 (fun H locs hW => ?_)
        refine lv_aload hx hb d_PC_sendVotes_43 (lv_at hl 0 rfl) ?_
        refine lv_iload hx hb d_PC_sendVotes_45 (lv_at hl 6 rfl) ?_
        refine e_putN hx hb hts hown hK hW (F_Msg (i0 := 60) G hG (by decide)) i_Msg t_Msg t_Msg_ok n_Msg rfl 6 (by decide) (nf_6 hE) (fun _ h => h) rfl (by decide +kernel) (fun _ => rfl) (fun _ => rfl) d_PC_sendVotes_47 (fun H locs hW => ?_)
        refine lv_aload_n hx hb d_PC_sendVotes_50 rfl (lv_at hl 2 rfl) ?_
        refine e_get (v := .ref (gad G (5))) hx hb hts hown hK hW (F_PC G hG) i_PC rfl 5 (by decide) (hts _ kw_210) (fun _ h => h) rfl d_PC_sendVotes_51 ?_
        refine lv_aload hx hb d_PC_sendVotes_54 (lv_at hl 0 rfl) ?_
        refine e_cv (e_runV hx hb hml hown hts hE hbs hW (F_Net G hG) rfl (c_Net_send l G hG (up2 (up2 (up2 (up2 (f_clear (lpSV d t s b v a) 60 (3) (t)) (60 + 420) (2) (s)) (60 + 420) (3) (nI a)) (60 + 420) (5) (b)) (60 + 420) (6) (v)) (NetOK_keep (NetOK_keep hM_a (f_clear_off (by omega) (by omega)) (f_clear_off (by omega) (by omega))) ((up2_off (by omega)).trans ((up2_off (by omega)).trans ((up2_off (by omega)).trans (up2_off (by omega))))) ((up2_off (by omega)).trans ((up2_off (by omega)).trans ((up2_off (by omega)).trans (up2_off (by omega))))))) kw_217 kw_218 kw_219 kw_212 kw_216 rfl rfl hd_Net_send ⟨Nat.le_of_ble_eq_true rfl, Nat.le_of_ble_eq_true rfl⟩ (As := [.ref (gad G (60 + 420))]) (rest := []) rfl hl.1 rfl (Nat.le_of_ble_eq_true rfl) d_PC_sendVotes_56 ⟨Nat.le_of_ble_eq_true rfl, Nat.le_of_ble_eq_true rfl⟩) hW (fun d' H locs hp hW => ?_)
        have hp := hp.symm; subst hp
        refine lv_iinc (v := nI (a + 1)) (lv' := [(5, .int (nI (a + 1))), (6, .ref (gad G (60 + 420))), (0, .ref (gad G (0))), (1, .int (t)), (2, .int (s)), (3, .int (b)), (4, .int (v))]) hx hb d_PC_sendVotes_59 hl (k := 1) rfl (nI_1 (a)) (by decide) rfl (fun ls hl => ?_)
        refine lv_goto (tgt := 3) hx hb d_PC_sendVotes_62 (by decide) ?_
        exact ih_a (a + 1) (by omega) (by omega) _ _ _ (by rw [show lpSV d t s b v (a + 1) = (f_send (up2 (up2 (up2 (up2 (f_clear (lpSV d t s b v a) 60 (3) (t)) (60 + 420) (2) (s)) (60 + 420) (3) (nI a)) (60 + 420) (5) (b)) (60 + 420) (6) (v))) from rfl]; exact hW) (lv_sub hl [0, 2, 3, 4, 5, 6] rfl) (by rw [show lpSV d t s b v (a + 1) = (f_send (up2 (up2 (up2 (up2 (f_clear (lpSV d t s b v a) 60 (3) (t)) (60 + 420) (2) (s)) (60 + 420) (3) (nI a)) (60 + 420) (5) (b)) (60 + 420) (6) (v))) from rfl]; exact (show NetOK (f_send (up2 (up2 (up2 (up2 (f_clear (lpSV d t s b v a) 60 (3) (t)) (60 + 420) (2) (s)) (60 + 420) (3) (nI a)) (60 + 420) (5) (b)) (60 + 420) (6) (v))) from (NetOK_send (NetOK_keep (NetOK_keep hM_a (f_clear_off (by omega) (by omega)) (f_clear_off (by omega) (by omega))) ((up2_off (by omega)).trans ((up2_off (by omega)).trans ((up2_off (by omega)).trans (up2_off (by omega))))) ((up2_off (by omega)).trans ((up2_off (by omega)).trans ((up2_off (by omega)).trans (up2_off (by omega)))))))))
  exact L_3 (gn G + 1) 0 (by omega) (by omega) _ _ _ hW (lv_sub hl [0, 1, 2, 3, 4, 5] rfl) (show NetOK d from hN)
