set_option maxHeartbeats 4000000 in
set_option maxRecDepth 100000 in
theorem c_sendAsks (l : Launch) (G : GT) (hG : GOK G) (d : DD) (t b : Int32) (hN : NetOK d) : Met l y_PC_sendAsks (.code y_PC_sendAsks b_PC_sendAsks 5 none :: WS) { frames := 3, cells := 0, slots := 0, locals := 82 } (cPre G [.ref (gad G (0)), .int (t), .int (b)] d) (cQv G (fun u9 => u9 = lpSA d t b (gn G))) 0 0 (gAb G) := by
  refine c_start (own := R_PC) (by decide +kernel) rfl (Nat.le_of_ble_eq_true rfl) ?_
  intro p e zs zm below meth zc ls C hW hl
  obtain ⟨hx, hb, hr, hml, hown, hts, hlk, hE, hbs⟩ := C
  have hK := hE.1
  have hn3 := hG.1
  have hl : lv_has ls 5 [(0, .ref (gad G (0))), (1, .int (t)), (2, .int (b))] := hl
  refine lv_iconst (v := 0) hx hb d_PC_sendAsks_0 (by decide) ?_
  refine lv_istore_n (lv' := [(3, .int (0)), (0, .ref (gad G (0))), (1, .int (t)), (2, .int (b))]) hx hb d_PC_sendAsks_1 rfl hl (by decide) rfl (fun ls hl => ?_)
  have L_2 : ∀ (N a : Nat), a ≤ gn G → gn G + 1 ≤ a + N → ∀ (H : Heap) (locs : List Loc) (ls : Array Slot), WD G zs.heap (lpSA d t b a) H locs → lv_has ls 5 [(3, .int (nI a)), (0, .ref (gad G (0))), (1, .int (t)), (2, .int (b))] → (NetOK (lpSA d t b a)) → W p l e { frames := 3, cells := 0, slots := 0, locals := 82 } zs zm [.ref (gad G (0)), .int (t), .int (b)].toArray below meth zc H locs 0 0 (MQ below (cQv G (fun u9 => u9 = lpSA d t b (gn G))) [.ref (gad G (0)), .int (t), .int (b)].toArray zs 0 0 (gAb G)) (F0 zm 2 ls []) := by
    intro N
    induction N with
    | zero => intro a h1 h2; exact absurd h2 (by omega)
    | succ N ih_a =>
      intro a hi_a hN_a H locs ls hW hl hM_a
      refine lv_iload_n hx hb d_PC_sendAsks_2 rfl (lv_at hl 0 rfl) ?_
      refine lv_aload_n hx hb d_PC_sendAsks_3 rfl (lv_at hl 1 rfl) ?_
      refine e_get (v := .ref (gad G (2))) hx hb hts hown hK hW (F_PC G hG) i_PC rfl 1 (by decide) (hts _ kw_196) (fun _ h => h) rfl d_PC_sendAsks_4 ?_
      refine e_lenQ hx hb hK hW (F_Accs G hG) d_PC_sendAsks_7 ?_
      refine lv_icmp_ge (tgt := 49) hx hb d_PC_sendAsks_8 (by decide) (fun c_1 => ?_) (fun c_1 => ?_)
      · skip
        have e_a : gn G = a := (lp_out rfl (by omega) hi_a c_1).symm
        subst e_a
        exact e_vret hx hb hr hlk hW (by exact rfl) (Nat.zero_le _) (Nat.zero_le _) d_PC_sendAsks_49
      · skip
        have lt_a : a < gn G := lp_in rfl (by omega) hi_a c_1
        refine lv_aload_n hx hb d_PC_sendAsks_11 rfl (lv_at hl 1 rfl) ?_
        refine e_get (v := .ref (gad G (5))) hx hb hts hown hK hW (F_PC G hG) i_PC rfl 5 (by decide) (hts _ kw_210) (fun _ h => h) rfl d_PC_sendAsks_12 ?_
        refine lv_iconst (v := 1) hx hb d_PC_sendAsks_15 (by decide) ?_
        refine lv_iload_n hx hb d_PC_sendAsks_16 rfl (lv_at hl 2 rfl) ?_
        refine e_cr (e_runV hx hb hml hown hts hE hbs hW (F_Net G hG) rfl (c_Net_compose l G hG (lpSA d t b a) (1) (t)) kw_213 kw_214 kw_215 kw_212 kw_211 rfl rfl hd_Net_compose ⟨Nat.le_of_ble_eq_true rfl, Nat.le_of_ble_eq_true rfl⟩ (As := [.int (1), .int (t)]) (rest := []) rfl hl.1 rfl (Nat.le_of_ble_eq_true rfl) d_PC_sendAsks_17 ⟨Nat.le_of_ble_eq_true rfl, Nat.le_of_ble_eq_true rfl⟩) hW (fun cn d' H locs hp hW => ?_)
        obtain ⟨hp1, hp2⟩ := hp
        have hp1 := hp1.symm; subst hp1
        have hp2 := hp2.symm; subst hp2
        refine lv_astore (lv' := [(4, .ref (gad G (60 + 420))), (3, .int (nI a)), (0, .ref (gad G (0))), (1, .int (t)), (2, .int (b))]) hx hb d_PC_sendAsks_20 hl (by decide) rfl (fun ls hl => ?_)
        refine lv_aload hx hb d_PC_sendAsks_22 (lv_at hl 0 rfl) ?_
        refine lv_iload_n hx hb d_PC_sendAsks_24 rfl (lv_at hl 1 rfl) ?_
        refine e_putN hx hb hts hown hK hW (F_Msg (i0 := 60) G hG (by decide)) i_Msg t_Msg t_Msg_ok n_Msg rfl 3 (by decide) (nf_3 hE) (fun _ h => h) rfl (by decide +kernel) (fun _ => rfl) (fun _ => rfl) d_PC_sendAsks_25 (fun H locs hW => ?_)
        refine lv_aload hx hb d_PC_sendAsks_28 (lv_at hl 0 rfl) ?_
        refine lv_iload_n hx hb d_PC_sendAsks_30 rfl (lv_at hl 4 rfl) ?_
        refine e_putN hx hb hts hown hK hW (F_Msg (i0 := 60) G hG (by decide)) i_Msg t_Msg t_Msg_ok n_Msg rfl 5 (by decide) (nf_5 hE) (fun _ h => h) rfl (by decide +kernel) (fun _ => rfl) (fun _ => rfl) d_PC_sendAsks_31 (fun H locs hW => ?_)
        refine lv_aload_n hx hb d_PC_sendAsks_34 rfl (lv_at hl 2 rfl) ?_
        refine e_get (v := .ref (gad G (5))) hx hb hts hown hK hW (F_PC G hG) i_PC rfl 5 (by decide) (hts _ kw_210) (fun _ h => h) rfl d_PC_sendAsks_35 ?_
        refine lv_aload hx hb d_PC_sendAsks_38 (lv_at hl 0 rfl) ?_
        refine e_cv (e_runV hx hb hml hown hts hE hbs hW (F_Net G hG) rfl (c_Net_send l G hG (up2 (up2 (f_clear (lpSA d t b a) 60 (1) (t)) (60 + 420) (3) (nI a)) (60 + 420) (5) (b)) (NetOK_keep (NetOK_keep hM_a (f_clear_off (by omega) (by omega)) (f_clear_off (by omega) (by omega))) ((up2_off (by omega)).trans (up2_off (by omega))) ((up2_off (by omega)).trans (up2_off (by omega))))) kw_217 kw_218 kw_219 kw_212 kw_216 rfl rfl hd_Net_send ⟨Nat.le_of_ble_eq_true rfl, Nat.le_of_ble_eq_true rfl⟩ (As := [.ref (gad G (60 + 420))]) (rest := []) rfl hl.1 rfl (Nat.le_of_ble_eq_true rfl) d_PC_sendAsks_40 ⟨Nat.le_of_ble_eq_true rfl, Nat.le_of_ble_eq_true rfl⟩) hW (fun d' H locs hp hW => ?_)
        have hp := hp.symm; subst hp
        refine lv_iinc (v := nI (a + 1)) (lv' := [(3, .int (nI (a + 1))), (4, .ref (gad G (60 + 420))), (0, .ref (gad G (0))), (1, .int (t)), (2, .int (b))]) hx hb d_PC_sendAsks_43 hl (k := 1) rfl (nI_1 (a)) (by decide) rfl (fun ls hl => ?_)
        refine lv_goto (tgt := 2) hx hb d_PC_sendAsks_46 (by decide) ?_
        exact ih_a (a + 1) (by omega) (by omega) _ _ _ (by rw [show lpSA d t b (a + 1) = (f_send (up2 (up2 (f_clear (lpSA d t b a) 60 (1) (t)) (60 + 420) (3) (nI a)) (60 + 420) (5) (b))) from rfl]; exact hW) (lv_sub hl [0, 2, 3, 4] rfl) (by rw [show lpSA d t b (a + 1) = (f_send (up2 (up2 (f_clear (lpSA d t b a) 60 (1) (t)) (60 + 420) (3) (nI a)) (60 + 420) (5) (b))) from rfl]; exact (show NetOK (f_send (up2 (up2 (f_clear (lpSA d t b a) 60 (1) (t)) (60 + 420) (3) (nI a)) (60 + 420) (5) (b))) from (NetOK_send (NetOK_keep (NetOK_keep hM_a (f_clear_off (by omega) (by omega)) (f_clear_off (by omega) (by omega))) ((up2_off (by omega)).trans (up2_off (by omega))) ((up2_off (by omega)).trans (up2_off (by omega)))))))
  exact L_2 (gn G + 1) 0 (by omega) (by omega) _ _ _ hW (lv_sub hl [0, 1, 2, 3] rfl) (show NetOK d from hN)
