set_option maxHeartbeats 4000000 in
set_option maxRecDepth 100000 in
theorem c_sendTold (l : Launch) (G : GT) (hG : GOK G) (d : DD) (ld t s a b v : Int32) (hN : NetOK d) (f1 : d 481 1 = t) (f2 : d 481 2 = s) (f3 : d 481 3 = a) (f5 : d 481 5 = b) (f6 : d 481 6 = v) : Met l y_PC_sendTold (.code y_PC_sendTold b_PC_sendTold 4 none :: WS) { frames := 3, cells := 0, slots := 0, locals := 82 } (cPre G [.ref (gad G (0)), .ref (gad G (61 + 420)), .int (ld)] d) (cQv G (fun u9 => u9 = f_toldV d t s a ld b v)) 0 0 (gAb G) := by
  refine c_start (own := R_PC) (by decide +kernel) rfl (Nat.le_of_ble_eq_true rfl) ?_
  intro p e zs zm below meth zc ls C hW hl
  obtain ⟨hx, hb, hr, hml, hown, hts, hlk, hE, hbs⟩ := C
  have hK := hE.1
  have hn3 := hG.1
  have hl : lv_has ls 4 [(0, .ref (gad G (0))), (1, .ref (gad G (61 + 420))), (2, .int (ld))] := hl
  refine lv_aload_n hx hb d_PC_sendTold_0 rfl (lv_at hl 0 rfl) ?_
  refine e_get (v := .ref (gad G (5))) hx hb hts hown hK hW (F_PC G hG) i_PC rfl 5 (by decide) (hts _ kw_210) (fun _ h => h) rfl d_PC_sendTold_1 ?_
  refine lv_iconst (v := 4) hx hb d_PC_sendTold_4 (by decide) ?_
  refine lv_aload_n hx hb d_PC_sendTold_5 rfl (lv_at hl 1 rfl) ?_
  refine e_getN (v := .int (d (61 + 420) (1))) hx hb hts hown hK hW (F_Msg (i0 := 61) G hG (by decide)) i_Msg rfl 1 (by decide) (nf_1 hE) (fun _ h => h) rfl d_PC_sendTold_6 ?_
  refine e_top (v := t) (f1) ?_
  refine e_cr (e_runV hx hb hml hown hts hE hbs hW (F_Net G hG) rfl (c_Net_compose l G hG d (4) (t)) kw_213 kw_214 kw_215 kw_212 kw_211 rfl rfl hd_Net_compose ⟨Nat.le_of_ble_eq_true rfl, Nat.le_of_ble_eq_true rfl⟩ (As := [.int (4), .int (t)]) (rest := []) rfl hl.1 rfl (Nat.le_of_ble_eq_true rfl) d_PC_sendTold_9 ⟨Nat.le_of_ble_eq_true rfl, Nat.le_of_ble_eq_true rfl⟩) hW (fun cn d' H locs hp hW => ?_)
  obtain ⟨hp1, hp2⟩ := hp
  have hp1 := hp1.symm; subst hp1
  have hp2 := hp2.symm; subst hp2
  refine lv_astore_n (lv' := [(3, .ref (gad G (60 + 420))), (0, .ref (gad G (0))), (1, .ref (gad G (61 + 420))), (2, .int (ld))]) hx hb d_PC_sendTold_12 rfl hl (by decide) rfl (fun ls hl => ?_)
  refine lv_aload_n hx hb d_PC_sendTold_13 rfl (lv_at hl 0 rfl) ?_
  refine lv_aload_n hx hb d_PC_sendTold_14 rfl (lv_at hl 2 rfl) ?_
  refine e_getN (v := .int ((f_clear d 60 (4) (t)) (61 + 420) (2))) hx hb hts hown hK hW (F_Msg (i0 := 61) G hG (by decide)) i_Msg rfl 2 (by decide) (nf_2 hE) (fun _ h => h) rfl d_PC_sendTold_15 ?_
  refine e_top (v := s) (((congrFun (f_clear_off (by omega) (by omega)) _).trans (f2))) ?_
  refine e_putN hx hb hts hown hK hW (F_Msg (i0 := 60) G hG (by decide)) i_Msg t_Msg t_Msg_ok n_Msg rfl 2 (by decide) (nf_2 hE) (fun _ h => h) rfl (by decide +kernel) (fun _ => rfl) (fun _ => rfl) d_PC_sendTold_18 (fun H locs hW => ?_)
  refine lv_aload_n hx hb d_PC_sendTold_21 rfl (lv_at hl 0 rfl) ?_
  refine lv_aload_n hx hb d_PC_sendTold_22 rfl (lv_at hl 2 rfl) ?_
  refine e_getN (v := .int ((up2 (f_clear d 60 (4) (t)) (60 + 420) (2) (s)) (61 + 420) (3))) hx hb hts hown hK hW (F_Msg (i0 := 61) G hG (by decide)) i_Msg rfl 3 (by decide) (nf_3 hE) (fun _ h => h) rfl d_PC_sendTold_23 ?_
  refine e_top (v := a) ((up2_nc (by omega)).trans (((congrFun (f_clear_off (by omega) (by omega)) _).trans (f3)))) ?_
  refine e_putN hx hb hts hown hK hW (F_Msg (i0 := 60) G hG (by decide)) i_Msg t_Msg t_Msg_ok n_Msg rfl 3 (by decide) (nf_3 hE) (fun _ h => h) rfl (by decide +kernel) (fun _ => rfl) (fun _ => rfl) d_PC_sendTold_26 (fun H locs hW => ?_)
  refine lv_aload_n hx hb d_PC_sendTold_29 rfl (lv_at hl 0 rfl) ?_
  refine lv_iload_n hx hb d_PC_sendTold_30 rfl (lv_at hl 3 rfl) ?_
  refine e_putN hx hb hts hown hK hW (F_Msg (i0 := 60) G hG (by decide)) i_Msg t_Msg t_Msg_ok n_Msg rfl 4 (by decide) (nf_4 hE) (fun _ h => h) rfl (by decide +kernel) (fun _ => rfl) (fun _ => rfl) d_PC_sendTold_31 (fun H locs hW => ?_)
  refine lv_aload_n hx hb d_PC_sendTold_34 rfl (lv_at hl 0 rfl) ?_
  refine lv_aload_n hx hb d_PC_sendTold_35 rfl (lv_at hl 2 rfl) ?_
  refine e_getN (v := .int ((up2 (up2 (up2 (f_clear d 60 (4) (t)) (60 + 420) (2) (s)) (60 + 420) (3) (a)) (60 + 420) (4) (ld)) (61 + 420) (5))) hx hb hts hown hK hW (F_Msg (i0 := 61) G hG (by decide)) i_Msg rfl 5 (by decide) (nf_5 hE) (fun _ h => h) rfl d_PC_sendTold_36 ?_
  refine e_top (v := b) ((up2_nc (by omega)).trans ((up2_nc (by omega)).trans ((up2_nc (by omega)).trans (((congrFun (f_clear_off (by omega) (by omega)) _).trans (f5)))))) ?_
  refine e_putN hx hb hts hown hK hW (F_Msg (i0 := 60) G hG (by decide)) i_Msg t_Msg t_Msg_ok n_Msg rfl 5 (by decide) (nf_5 hE) (fun _ h => h) rfl (by decide +kernel) (fun _ => rfl) (fun _ => rfl) d_PC_sendTold_39 (fun H locs hW => ?_)
  refine lv_aload_n hx hb d_PC_sendTold_42 rfl (lv_at hl 0 rfl) ?_
  refine lv_aload_n hx hb d_PC_sendTold_43 rfl (lv_at hl 2 rfl) ?_
  refine e_getN (v := .int ((up2 (up2 (up2 (up2 (f_clear d 60 (4) (t)) (60 + 420) (2) (s)) (60 + 420) (3) (a)) (60 + 420) (4) (ld)) (60 + 420) (5) (b)) (61 + 420) (6))) hx hb hts hown hK hW (F_Msg (i0 := 61) G hG (by decide)) i_Msg rfl 6 (by decide) (nf_6 hE) (fun _ h => h) rfl d_PC_sendTold_44 ?_
  refine e_top (v := v) ((up2_nc (by omega)).trans ((up2_nc (by omega)).trans ((up2_nc (by omega)).trans ((up2_nc (by omega)).trans (((congrFun (f_clear_off (by omega) (by omega)) _).trans (f6))))))) ?_
  refine e_putN hx hb hts hown hK hW (F_Msg (i0 := 60) G hG (by decide)) i_Msg t_Msg t_Msg_ok n_Msg rfl 6 (by decide) (nf_6 hE) (fun _ h => h) rfl (by decide +kernel) (fun _ => rfl) (fun _ => rfl) d_PC_sendTold_47 (fun H locs hW => ?_)
  refine lv_aload_n hx hb d_PC_sendTold_50 rfl (lv_at hl 1 rfl) ?_
  refine e_get (v := .ref (gad G (5))) hx hb hts hown hK hW (F_PC G hG) i_PC rfl 5 (by decide) (hts _ kw_210) (fun _ h => h) rfl d_PC_sendTold_51 ?_
  refine lv_aload_n hx hb d_PC_sendTold_54 rfl (lv_at hl 0 rfl) ?_
  refine e_cv (e_runV hx hb hml hown hts hE hbs hW (F_Net G hG) rfl (c_Net_send l G hG (up2 (up2 (up2 (up2 (up2 (f_clear d 60 (4) (t)) (60 + 420) (2) (s)) (60 + 420) (3) (a)) (60 + 420) (4) (ld)) (60 + 420) (5) (b)) (60 + 420) (6) (v)) (NetOK_keep (NetOK_keep hN (f_clear_off (by omega) (by omega)) (f_clear_off (by omega) (by omega))) ((up2_off (by omega)).trans ((up2_off (by omega)).trans ((up2_off (by omega)).trans ((up2_off (by omega)).trans (up2_off (by omega)))))) ((up2_off (by omega)).trans ((up2_off (by omega)).trans ((up2_off (by omega)).trans ((up2_off (by omega)).trans (up2_off (by omega)))))))) kw_217 kw_218 kw_219 kw_212 kw_216 rfl rfl hd_Net_send ⟨Nat.le_of_ble_eq_true rfl, Nat.le_of_ble_eq_true rfl⟩ (As := [.ref (gad G (60 + 420))]) (rest := []) rfl hl.1 rfl (Nat.le_of_ble_eq_true rfl) d_PC_sendTold_55 ⟨Nat.le_of_ble_eq_true rfl, Nat.le_of_ble_eq_true rfl⟩) hW (fun d' H locs hp hW => ?_)
  have hp := hp.symm; subst hp
  exact e_vret hx hb hr hlk hW (by exact rfl) (Nat.zero_le _) (Nat.zero_le _) d_PC_sendTold_58
