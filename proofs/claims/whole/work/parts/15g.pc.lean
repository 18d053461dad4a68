theorem kw_226 : .methodLink R_PC 332 y_Math_floorMod ∈ WS := List.mem_filter.mpr ⟨List.mem_append_right _ (List.mem_of_getElem? (i := 542) (by decide +kernel)), by decide +kernel⟩
set_option maxHeartbeats 4000000 in
set_option maxRecDepth 100000 in
theorem c_sendReply (l : Launch) (G : GT) (hG : GOK G) (d : DD) (a t : Nat) (ha : a < gn G) (ht : t < 8) (b : Int32) (hN : NetOK d) : Met l y_PC_sendReply (.code y_PC_sendReply b_PC_sendReply 6 none :: WS) { frames := 3, cells := 0, slots := 0, locals := 82 } (cPre G [.ref (gad G (0)), .int (nI a), .int (nI t), .int (b)] d) (cQv G (fun u9 => u9 = f_reply d a t b)) 0 0 (gAb G) := by
  refine c_start (own := R_PC) (by decide +kernel) rfl (Nat.le_of_ble_eq_true rfl) ?_
  intro p e zs zm below meth zc ls C hW hl
  obtain ⟨hx, hb, hr, hml, hown, hts, hlk, hE, hbs⟩ := C
  have hK := hE.1
  have hn3 := hG.1
  have hl : lv_has ls 6 [(0, .ref (gad G (0))), (1, .int (nI a)), (2, .int (nI t)), (3, .int (b))] := hl
  refine lv_aload_n hx hb d_PC_sendReply_0 rfl (lv_at hl 0 rfl) ?_
  refine e_get (v := .ref (gad G (5))) hx hb hts hown hK hW (F_PC G hG) i_PC rfl 5 (by decide) (hts _ kw_210) (fun _ h => h) rfl d_PC_sendReply_1 ?_
  refine lv_iconst (v := 2) hx hb d_PC_sendReply_4 (by decide) ?_
  refine lv_iload_n hx hb d_PC_sendReply_5 rfl (lv_at hl 2 rfl) ?_
  refine e_cr (e_runV hx hb hml hown hts hE hbs hW (F_Net G hG) rfl (c_Net_compose l G hG d (2) (nI t)) kw_213 kw_214 kw_215 kw_212 kw_211 rfl rfl hd_Net_compose ⟨Nat.le_of_ble_eq_true rfl, Nat.le_of_ble_eq_true rfl⟩ (As := [.int (2), .int (nI t)]) (rest := []) rfl hl.1 rfl (Nat.le_of_ble_eq_true rfl) d_PC_sendReply_6 ⟨Nat.le_of_ble_eq_true rfl, Nat.le_of_ble_eq_true rfl⟩) hW (fun cn d' H locs hp hW => ?_)
  obtain ⟨hp1, hp2⟩ := hp
  have hp1 := hp1.symm; subst hp1
  have hp2 := hp2.symm; subst hp2
  refine lv_astore (lv' := [(4, .ref (gad G (60 + 420))), (0, .ref (gad G (0))), (1, .int (nI a)), (2, .int (nI t)), (3, .int (b))]) hx hb d_PC_sendReply_9 hl (by decide) rfl (fun ls hl => ?_)
  refine lv_aload hx hb d_PC_sendReply_11 (lv_at hl 0 rfl) ?_
  refine lv_iload_n hx hb d_PC_sendReply_13 rfl (lv_at hl 2 rfl) ?_
  refine e_putN hx hb hts hown hK hW (F_Msg (i0 := 60) G hG (by decide)) i_Msg t_Msg t_Msg_ok n_Msg rfl 3 (by decide) (nf_3 hE) (fun _ h => h) rfl (by decide +kernel) (fun _ => rfl) (fun _ => rfl) d_PC_sendReply_14 (fun H locs hW => ?_)
  refine lv_aload hx hb d_PC_sendReply_17 (lv_at hl 0 rfl) ?_
  refine lv_iload_n hx hb d_PC_sendReply_19 rfl (lv_at hl 4 rfl) ?_
  refine lv_iconst (v := 2) hx hb d_PC_sendReply_20 (by decide) ?_
  refine e_ci (e_runS hx hb hml hown hts hE hbs hW (c_floorMod l G hG (up2 (f_clear d 60 (2) (nI t)) (60 + 420) (3) (nI a)) (b) (2) (by decide)) kw_226 kw_180 kw_1 kw_178 rfl rfl hd_Math_floorMod ⟨Nat.le_of_ble_eq_true rfl, Nat.le_of_ble_eq_true rfl⟩ (As := [.int (b), .int (2)]) (rest := [.ref (gad G (60 + 420))]) rfl hl.1 rfl (Nat.le_of_ble_eq_true rfl) d_PC_sendReply_21 ⟨Nat.le_of_ble_eq_true rfl, Nat.le_of_ble_eq_true rfl⟩) hW (fun r d' H locs hp hW => ?_)
  obtain ⟨hp1, hp2⟩ := hp
  have hp1 := hp1.symm; subst hp1
  have hp2 := hp2.symm; subst hp2
  refine e_putN hx hb hts hown hK hW (F_Msg (i0 := 60) G hG (by decide)) i_Msg t_Msg t_Msg_ok n_Msg rfl 4 (by decide) (nf_4 hE) (fun _ h => h) rfl (by decide +kernel) (fun _ => rfl) (fun _ => rfl) d_PC_sendReply_24 (fun H locs hW => ?_)
  refine lv_aload hx hb d_PC_sendReply_27 (lv_at hl 0 rfl) ?_
  refine lv_iload_n hx hb d_PC_sendReply_29 rfl (lv_at hl 4 rfl) ?_
  refine e_putN hx hb hts hown hK hW (F_Msg (i0 := 60) G hG (by decide)) i_Msg t_Msg t_Msg_ok n_Msg rfl 5 (by decide) (nf_5 hE) (fun _ h => h) rfl (by decide +kernel) (fun _ => rfl) (fun _ => rfl) d_PC_sendReply_30 (fun H locs hW => ?_)
  refine lv_iconst (v := 0) hx hb d_PC_sendReply_33 (by decide) ?_
  refine lv_istore (lv' := [(5, .int (0)), (4, .ref (gad G (60 + 420))), (0, .ref (gad G (0))), (1, .int (nI a)), (2, .int (nI t)), (3, .int (b))]) hx hb d_PC_sendReply_34 hl (by decide) rfl (fun ls hl => ?_)
  have L_36 : ∀ (N s : Nat), s ≤ 3 → 3 + 1 ≤ s + N → ∀ (H : Heap) (locs : List Loc) (ls : Array Slot), WD G zs.heap (lpRp (f_rp0 d a t b) a t s) H locs → lv_has ls 6 [(5, .int (nI s)), (4, .ref (gad G (60 + 420))), (0, .ref (gad G (0))), (1, .int (nI a)), (2, .int (nI t)), (3, .int (b))] → (NetOK (lpRp (f_rp0 d a t b) a t s)) → W p l e { frames := 3, cells := 0, slots := 0, locals := 82 } zs zm [.ref (gad G (0)), .int (nI a), .int (nI t), .int (b)].toArray below meth zc H locs 0 0 (MQ below (cQv G (fun u9 => u9 = f_reply d a t b)) [.ref (gad G (0)), .int (nI a), .int (nI t), .int (b)].toArray zs 0 0 (gAb G)) (F0 zm 36 ls []) := by
    intro N
    induction N with
    | zero => intro s h1 h2; exact absurd h2 (by omega)
    | succ N ih_s =>
      intro s hi_s hN_s H locs ls hW hl hM_s
      refine lv_iload hx hb d_PC_sendReply_36 (lv_at hl 0 rfl) ?_
      refine lv_iconst (v := 3) hx hb d_PC_sendReply_38 (by decide) ?_
      refine lv_icmp_ge (tgt := 84) hx hb d_PC_sendReply_39 (by decide) (fun c_1 => ?_) (fun c_1 => ?_)
      · skip
        have e_s : 3 = s := (lp_out rfl (by omega) hi_s c_1).symm
        subst e_s
        refine lv_aload_n hx hb d_PC_sendReply_84 rfl (lv_at hl 2 rfl) ?_
        refine e_get (v := .ref (gad G (5))) hx hb hts hown hK hW (F_PC G hG) i_PC rfl 5 (by decide) (hts _ kw_210) (fun _ h => h) rfl d_PC_sendReply_85 ?_
        refine lv_aload hx hb d_PC_sendReply_88 (lv_at hl 1 rfl) ?_
        refine e_cv (e_runV hx hb hml hown hts hE hbs hW (F_Net G hG) rfl (c_Net_send l G hG (lpRp (f_rp0 d a t b) a t 3) hM_s) kw_217 kw_218 kw_219 kw_212 kw_216 rfl rfl hd_Net_send ⟨Nat.le_of_ble_eq_true rfl, Nat.le_of_ble_eq_true rfl⟩ (As := [.ref (gad G (60 + 420))]) (rest := []) rfl hl.1 rfl (Nat.le_of_ble_eq_true rfl) d_PC_sendReply_90 ⟨Nat.le_of_ble_eq_true rfl, Nat.le_of_ble_eq_true rfl⟩) hW (fun d' H locs hp hW => ?_)
        have hp := hp.symm; subst hp
        exact e_vret hx hb hr hlk hW (by exact rfl) (Nat.zero_le _) (Nat.zero_le _) d_PC_sendReply_93
      · skip
        have lt_s : s < 3 := lp_in rfl (by omega) hi_s c_1
        refine lv_aload_n hx hb d_PC_sendReply_42 rfl (lv_at hl 2 rfl) ?_
        refine e_get (v := .ref (gad G (6))) hx hb hts hown hK hW (F_PC G hG) i_PC rfl 6 (by decide) (hts _ kw_220) (fun _ h => h) rfl d_PC_sendReply_43 ?_
        refine lv_iload_n hx hb d_PC_sendReply_46 rfl (lv_at hl 4 rfl) ?_
        refine e_iald hx hb hK hW (F_Mem G hG) (j := t) ht (x := (lpRp (f_rp0 d a t b) a t s) (6) (t)) (rfl) rfl d_PC_sendReply_47 ?_
        refine lv_iload hx hb d_PC_sendReply_48 (lv_at hl 0 rfl) ?_
        refine e_ci (e_runS hx hb hml hown hts hE hbs hW (c_has l G hG (lpRp (f_rp0 d a t b) a t s) s ((lpRp (f_rp0 d a t b) a t s) (6) (t))) kw_221 kw_142 kw_104 kw_141 rfl rfl hd_PC_has ⟨Nat.le_of_ble_eq_true rfl, Nat.le_of_ble_eq_true rfl⟩ (As := [.int ((lpRp (f_rp0 d a t b) a t s) (6) (t)), .int (nI s)]) (rest := []) rfl hl.1 rfl (Nat.le_of_ble_eq_true rfl) d_PC_sendReply_50 ⟨Nat.le_of_ble_eq_true rfl, Nat.le_of_ble_eq_true rfl⟩) hW (fun r d' H locs hp hW => ?_)
        obtain ⟨hp1, hp2⟩ := hp
        have hp1 := hp1.symm; subst hp1
        have hp2 := hp2.symm; subst hp2
        refine lv_if_eq (tgt := 78) hx hb d_PC_sendReply_53 (by decide) (fun c_2 => ?_) (fun c_2 => ?_)
        · skip
          refine lv_iinc (v := nI (s + 1)) (lv' := [(5, .int (nI (s + 1))), (4, .ref (gad G (60 + 420))), (0, .ref (gad G (0))), (1, .int (nI a)), (2, .int (nI t)), (3, .int (b))]) hx hb d_PC_sendReply_78 hl (k := 0) rfl (nI_1 (s)) (by decide) rfl (fun ls hl => ?_)
          refine lv_goto (tgt := 36) hx hb d_PC_sendReply_81 (by decide) ?_
          exact ih_s (s + 1) (by omega) (by omega) _ _ _ (by rw [show lpRp (f_rp0 d a t b) a t (s + 1) = (lpRp (f_rp0 d a t b) a t s) from if_pos c_2]; exact hW) (lv_sub hl [0, 1, 2, 3, 4, 5] rfl) (by rw [show lpRp (f_rp0 d a t b) a t (s + 1) = (lpRp (f_rp0 d a t b) a t s) from if_pos c_2]; exact (show NetOK (lpRp (f_rp0 d a t b) a t s) from hM_s))
        · skip
          refine lv_aload hx hb d_PC_sendReply_56 (lv_at hl 1 rfl) ?_
          refine e_getN (v := .ref (gad G (60 + 490))) hx hb hts hown hK hW (F_Msg (i0 := 60) G hG (by decide)) i_Msg rfl 7 (by decide) (nf_7 hE) (fun _ h => h) rfl d_PC_sendReply_58 ?_
          refine lv_iload hx hb d_PC_sendReply_61 (lv_at hl 0 rfl) ?_
          refine lv_aload_n hx hb d_PC_sendReply_63 rfl (lv_at hl 2 rfl) ?_
          refine e_get (v := .ref (gad G (2))) hx hb hts hown hK hW (F_PC G hG) i_PC rfl 1 (by decide) (hts _ kw_196) (fun _ h => h) rfl d_PC_sendReply_64 ?_
          refine lv_iload_n hx hb d_PC_sendReply_67 rfl (lv_at hl 3 rfl) ?_
          refine e_aldq hx hb hK hW (F_Accs G hG) (j := a) ha (q := a + 100) rfl rfl d_PC_sendReply_68 ?_
          refine e_getN (v := .ref (gad G (a + 120))) hx hb hts hown hK hW (F_Acc (i0 := a) G hG ha) i_Acc rfl 1 (by decide) (nf_15 hE) (fun _ h => h) rfl d_PC_sendReply_69 ?_
          refine lv_iload_n hx hb d_PC_sendReply_72 rfl (lv_at hl 4 rfl) ?_
          refine e_aldA hx hb hK hW (F_Tak (i0 := a) G hG ha) (j := t) ht (q := 8 * a + t + 160) rfl rfl d_PC_sendReply_73 ?_
          refine lv_iload hx hb d_PC_sendReply_74 (lv_at hl 0 rfl) ?_
          refine e_iald hx hb hK hW (F_TkR (i0 := a) (i1 := t) G hG ha ht) (j := s) (by omega) (x := (lpRp (f_rp0 d a t b) a t s) (8 * a + t + 160) (s)) (rfl) rfl d_PC_sendReply_76 ?_
          refine e_iast hx hb hK hW (F_Rep (i0 := 60) G hG (by decide)) (j := s) (by omega) rfl d_PC_sendReply_77 (fun H locs hW => ?_)
          refine lv_iinc (v := nI (s + 1)) (lv' := [(5, .int (nI (s + 1))), (4, .ref (gad G (60 + 420))), (0, .ref (gad G (0))), (1, .int (nI a)), (2, .int (nI t)), (3, .int (b))]) hx hb d_PC_sendReply_78 hl (k := 0) rfl (nI_1 (s)) (by decide) rfl (fun ls hl => ?_)
          refine lv_goto (tgt := 36) hx hb d_PC_sendReply_81 (by decide) ?_
          exact ih_s (s + 1) (by omega) (by omega) _ _ _ (by rw [show lpRp (f_rp0 d a t b) a t (s + 1) = (up2 (lpRp (f_rp0 d a t b) a t s) (60 + 490) (s) ((lpRp (f_rp0 d a t b) a t s) (8 * a + t + 160) (s))) from if_neg c_2]; exact hW) (lv_sub hl [0, 1, 2, 3, 4, 5] rfl) (by rw [show lpRp (f_rp0 d a t b) a t (s + 1) = (up2 (lpRp (f_rp0 d a t b) a t s) (60 + 490) (s) ((lpRp (f_rp0 d a t b) a t s) (8 * a + t + 160) (s))) from if_neg c_2]; exact (show NetOK (up2 (lpRp (f_rp0 d a t b) a t s) (60 + 490) (s) ((lpRp (f_rp0 d a t b) a t s) (8 * a + t + 160) (s))) from (NetOK_keep hM_s (up2_off (by omega)) (up2_off (by omega)))))
  exact L_36 (3 + 1) 0 (by omega) (by omega) _ _ _ hW (lv_sub hl [0, 1, 2, 3, 4, 5] rfl) (show NetOK (up2 (up2 (up2 (f_clear d 60 (2) (nI t)) (60 + 420) (3) (nI a)) (60 + 420) (4) (fmI (b) (2))) (60 + 420) (5) (b)) from (NetOK_keep (NetOK_keep hN (f_clear_off (by omega) (by omega)) (f_clear_off (by omega) (by omega))) ((up2_off (by omega)).trans ((up2_off (by omega)).trans (up2_off (by omega)))) ((up2_off (by omega)).trans ((up2_off (by omega)).trans (up2_off (by omega))))))
