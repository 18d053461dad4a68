theorem kw_350 : .methodLink R_PC 112 y_Integer_bitCount ∈ WS := List.mem_filter.mpr ⟨List.mem_append_right _ (List.mem_of_getElem? (i := 424) (by decide +kernel)), by decide +kernel⟩
theorem kw_351 : .code y_Led_raiseBallot b_Led_raiseBallot 2 (some .int) ∈ WS := List.mem_filter.mpr ⟨List.mem_append_right _ (List.mem_of_getElem? (i := 460) (by decide +kernel)), by decide +kernel⟩
theorem kw_352 : .methodLink R_PC 134 y_Led_raiseBallot ∈ WS := List.mem_filter.mpr ⟨List.mem_append_right _ (List.mem_of_getElem? (i := 457) (by decide +kernel)), by decide +kernel⟩
theorem kw_353 : .instanceMethod y_Led_raiseBallot ∈ WS := List.mem_filter.mpr ⟨List.mem_append_right _ (List.mem_of_getElem? (i := 458) (by decide +kernel)), by decide +kernel⟩
theorem kw_354 : .selects R_Led y_Led_raiseBallot y_Led_raiseBallot ∈ WS := List.mem_filter.mpr ⟨List.mem_append_right _ (List.mem_of_getElem? (i := 459) (by decide +kernel)), by decide +kernel⟩
theorem kw_355 : .code y_PC_sendAsks b_PC_sendAsks 5 none ∈ WS := List.mem_filter.mpr ⟨List.mem_append_right _ (List.mem_of_getElem? (i := 471) (by decide +kernel)), by decide +kernel⟩
theorem kw_356 : .methodLink R_PC 137 y_PC_sendAsks ∈ WS := List.mem_filter.mpr ⟨List.mem_append_right _ (List.mem_of_getElem? (i := 468) (by decide +kernel)), by decide +kernel⟩
theorem kw_357 : .instanceMethod y_PC_sendAsks ∈ WS := List.mem_filter.mpr ⟨List.mem_append_right _ (List.mem_of_getElem? (i := 470) (by decide +kernel)), by decide +kernel⟩
theorem kw_358 : .selects R_PC y_PC_sendAsks y_PC_sendAsks ∈ WS := List.mem_filter.mpr ⟨List.mem_append_left _ (List.mem_of_getElem? (i := 6) (by decide +kernel)), by decide +kernel⟩
theorem hd_Led_raiseBallot : y_Led_raiseBallot.cls ≠ "java/lang/invoke/MethodHandle" ∧ y_Led_raiseBallot.cls ≠ "java/lang/invoke/VarHandle" ∧ (parseMethodDescriptor y_Led_raiseBallot.desc).map (fun d => d.parameters.length) = some 1 := by decide +kernel
theorem hd_PC_sendAsks : y_PC_sendAsks.cls ≠ "java/lang/invoke/MethodHandle" ∧ y_PC_sendAsks.cls ≠ "java/lang/invoke/VarHandle" ∧ (parseMethodDescriptor y_PC_sendAsks.desc).map (fun d => d.parameters.length) = some 2 := by decide +kernel
set_option maxHeartbeats 4000000 in
set_option maxRecDepth 100000 in
theorem c_request (l : Launch) (hst : l.stackTraces = false) (G : GT) (hG : GOK G) (d : DD) (x0 : Int32) (hN : NetOK d) : vx_Met l y_PC_request (.code y_PC_request b_PC_request 3 (some .int) :: WS) { frames := 7, cells := 3, slots := 18, locals := 111 } (cPre G [.ref (gad G (0)), .int (x0)] d) (cQi G (fun r9 u9 => rqX d x0 = none ∧ r9 = bcI (lpRq (up2 d 7 (cl x0) 1) (cl x0) 3 6 (cl x0)) ∧ u9 = lpRq (up2 d 7 (cl x0) 1) (cl x0) 3)) (cX G (fun E9 u9 => rqX d x0 = some E9 ∧ u9 = d)) 3 18 (gAb G) := by
  refine c_startX (own := R_PC) (by decide +kernel) rfl (Nat.le_of_ble_eq_true rfl) ?_
  intro p e zs zm below meth zc ls hno C hW hl
  obtain ⟨hx, hb, hr, hml, hown, hts, hlk, hE, hbs⟩ := C
  have hK := hE.1
  have hn3 := hG.1
  have hl : lv_has ls 3 [(0, .ref (gad G (0))), (1, .int (x0))] := hl
  refine lv_iload_n hx hb d_PC_request_0 rfl (lv_at hl 1 rfl) ?_
  refine lv_bipush (v := 8) hx hb d_PC_request_1 (by decide) ?_
  refine e_xv (e_xrunS hx hb hml hown hts hE hbs hW (c_checkRange l hst G hG d (x0) (8)) kw_324 kw_325 kw_104 kw_323 rfl rfl hd_PC_checkRange ⟨Nat.le_of_ble_eq_true rfl, Nat.le_of_ble_eq_true rfl⟩ (As := [.int (x0), .int (8)]) (rest := []) rfl hl.1 rfl (Nat.le_of_ble_eq_true rfl) d_PC_request_3 ⟨Nat.le_of_ble_eq_true rfl, Nat.le_of_ble_eq_true rfl⟩) hW (fun E9 ce q9 d' H locs hp hW g1 g2 g3 => ?_) (fun d' H locs hp hW => ?_)
  · obtain ⟨hp1, hp2⟩ := hp
    have hp2 := hp2.symm; subst hp2
    exact e_xout hno hlk hW g1 g2 g3 ⟨by unfold rqX; rw [hp1] <;> rfl, by exact rfl⟩ (Nat.le_of_ble_eq_true rfl) (Nat.le_of_ble_eq_true rfl)
  obtain ⟨h_1, hp2⟩ := hp
  have hp2 := hp2.symm; subst hp2
  obtain ⟨t, ht, et⟩ := rg_nat (B := 8) (by omega) h_1
  subst et
  refine lv_aload_n hx hb d_PC_request_6 rfl (lv_at hl 0 rfl) ?_
  refine lv_iload_n hx hb d_PC_request_7 rfl (lv_at hl 1 rfl) ?_
  refine e_xv (e_xrunV hx hb hml hown hts hE hbs hW (F_PC G hG) rfl (c_checkBegun l hst G hG d (nI t)) kw_327 kw_328 kw_329 kw_104 kw_326 rfl rfl hd_PC_checkBegun ⟨Nat.le_of_ble_eq_true rfl, Nat.le_of_ble_eq_true rfl⟩ (As := [.int (nI t)]) (rest := []) rfl hl.1 rfl (Nat.le_of_ble_eq_true rfl) d_PC_request_8 ⟨Nat.le_of_ble_eq_true rfl, Nat.le_of_ble_eq_true rfl⟩) hW (fun E9 ce q9 d' H locs hp hW g1 g2 g3 => ?_) (fun d' H locs hp hW => ?_)
  · obtain ⟨hp1, hp2⟩ := hp
    have hp2 := hp2.symm; subst hp2
    exact e_xout hno hlk hW g1 g2 g3 ⟨by unfold rqX; (try simp only [cl_nI (show t < 2147483648 by omega)]); rw [h_1, hp1] <;> rfl, by exact rfl⟩ (Nat.le_of_ble_eq_true rfl) (Nat.le_of_ble_eq_true rfl)
  obtain ⟨h_2, hp2⟩ := hp
  have hp2 := hp2.symm; subst hp2
  refine lv_aload_n hx hb d_PC_request_11 rfl (lv_at hl 0 rfl) ?_
  refine e_get (v := .ref (gad G (6))) hx hb hts hown hK hW (F_PC G hG) i_PC rfl 6 (by decide) (hts _ kw_220) (fun _ h => h) rfl d_PC_request_12 ?_
  refine lv_iload_n hx hb d_PC_request_15 rfl (lv_at hl 1 rfl) ?_
  refine e_iald hx hb hK hW (F_Mem G hG) (j := t) ht (x := d (6) (t)) (rfl) rfl d_PC_request_16 ?_
  refine lv_if_ne (tgt := 30) hx hb d_PC_request_17 (by decide) (fun c_3 => ?_) (fun c_3 => ?_)
  · skip
    refine lv_aload_n hx hb d_PC_request_30 rfl (lv_at hl 0 rfl) ?_
    refine e_get (v := .ref (gad G (7))) hx hb hts hown hK hW (F_PC G hG) i_PC rfl 7 (by decide) (hts _ kw_338) (fun _ h => h) rfl d_PC_request_31 ?_
    refine lv_iload_n hx hb d_PC_request_34 rfl (lv_at hl 1 rfl) ?_
    refine e_zald hx hb hK hW (F_Clo G hG) (j := t) ht (x := d (7) (t)) (rfl) rfl d_PC_request_35 ?_
    refine lv_if_eq (tgt := 49) hx hb d_PC_request_36 (by decide) (fun c_4 => ?_) (fun c_4 => ?_)
    · skip
      refine lv_aload_n hx hb d_PC_request_49 rfl (lv_at hl 0 rfl) ?_
      refine e_get (v := .ref (gad G (7))) hx hb hts hown hK hW (F_PC G hG) i_PC rfl 7 (by decide) (hts _ kw_338) (fun _ h => h) rfl d_PC_request_50 ?_
      refine lv_iload_n hx hb d_PC_request_53 rfl (lv_at hl 1 rfl) ?_
      refine lv_iconst (v := 1) hx hb d_PC_request_54 (by decide) ?_
      refine e_zast hx hb hK hW (F_Clo G hG) (j := t) ht rfl (by decide) d_PC_request_55 (fun H locs hW => ?_)
      refine lv_iconst (v := 0) hx hb d_PC_request_56 (by decide) ?_
      refine lv_istore_n (lv' := [(2, .int (0)), (0, .ref (gad G (0))), (1, .int (nI t))]) hx hb d_PC_request_57 rfl hl (by decide) rfl (fun ls hl => ?_)
      have L_58 : ∀ (N s : Nat), s ≤ 3 → 3 + 1 ≤ s + N → ∀ (H : Heap) (locs : List Loc) (ls : Array Slot), WD G zs.heap (lpRq (up2 d 7 t 1) t s) H locs → lv_has ls 3 [(2, .int (nI s)), (0, .ref (gad G (0))), (1, .int (nI t))] → (NetOK (lpRq (up2 d 7 t 1) t s)) → W p l e { frames := 7, cells := 3, slots := 18, locals := 111 } zs zm [.ref (gad G (0)), .int ((nI t))].toArray below meth zc H locs 2 12 (vx_MQ below (cQi G (fun r9 u9 => rqX d (nI t) = none ∧ r9 = bcI (lpRq (up2 d 7 (cl (nI t)) 1) (cl (nI t)) 3 6 (cl (nI t))) ∧ u9 = lpRq (up2 d 7 (cl (nI t)) 1) (cl (nI t)) 3)) (cX G (fun E9 u9 => rqX d (nI t) = some E9 ∧ u9 = d)) [.ref (gad G (0)), .int ((nI t))].toArray zs 3 18 (gAb G)) (F0 zm 58 ls []) := by
        intro N
        induction N with
        | zero => intro s h1 h2; exact absurd h2 (by omega)
        | succ N ih_s =>
          intro s hi_s hN_s H locs ls hW hl hM_s
          refine lv_iload_n hx hb d_PC_request_58 rfl (lv_at hl 0 rfl) ?_
          refine lv_iconst (v := 3) hx hb d_PC_request_59 (by decide) ?_
          refine lv_icmp_ge (tgt := 90) hx hb d_PC_request_60 (by decide) (fun c_5 => ?_) (fun c_5 => ?_)
          · skip
            have e_s : 3 = s := (lp_out rfl (by omega) hi_s c_5).symm
            subst e_s
            refine lv_aload_n hx hb d_PC_request_90 rfl (lv_at hl 1 rfl) ?_
            refine e_get (v := .ref (gad G (6))) hx hb hts hown hK hW (F_PC G hG) i_PC rfl 6 (by decide) (hts _ kw_220) (fun _ h => h) rfl d_PC_request_91 ?_
            refine lv_iload_n hx hb d_PC_request_94 rfl (lv_at hl 2 rfl) ?_
            refine e_iald hx hb hK hW (F_Mem G hG) (j := t) ht (x := (lpRq (up2 d 7 t 1) t 3) (6) (t)) (rfl) rfl d_PC_request_95 ?_
            refine e_ci (e_runS hx hb hml hown hts hE hbs hW (c_bitCount l G hG (lpRq (up2 d 7 t 1) t 3) ((lpRq (up2 d 7 t 1) t 3) (6) (t))) kw_350 kw_190 kw_49 kw_188 rfl rfl hd_Integer_bitCount ⟨Nat.le_of_ble_eq_true rfl, Nat.le_of_ble_eq_true rfl⟩ (As := [.int ((lpRq (up2 d 7 t 1) t 3) (6) (t))]) (rest := []) rfl hl.1 rfl (Nat.le_of_ble_eq_true rfl) d_PC_request_96 ⟨Nat.le_of_ble_eq_true rfl, Nat.le_of_ble_eq_true rfl⟩) hW (fun r d' H locs hp hW => ?_)
            obtain ⟨hp1, hp2⟩ := hp
            have hp1 := hp1.symm; subst hp1
            have hp2 := hp2.symm; subst hp2
            exact e_xiret hx hb hr hlk hW ⟨by unfold rqX; (try simp only [cl_nI (show t < 2147483648 by omega)]); rw [h_1, h_2, if_neg c_3, if_pos c_4] <;> rfl, by first | (simp only [cl_nI (show t < 2147483648 by omega)]; done) | (simp only [cl_nI (show t < 2147483648 by omega)]; rfl) | (exact rfl), by first | (simp only [cl_nI (show t < 2147483648 by omega)]; done) | (simp only [cl_nI (show t < 2147483648 by omega)]; rfl) | (exact rfl)⟩ (Nat.le_of_ble_eq_true rfl) (Nat.le_of_ble_eq_true rfl) d_PC_request_99
          · skip
            have lt_s : s < 3 := lp_in rfl (by omega) hi_s c_5
            refine lv_aload_n hx hb d_PC_request_63 rfl (lv_at hl 1 rfl) ?_
            refine e_get (v := .ref (gad G (6))) hx hb hts hown hK hW (F_PC G hG) i_PC rfl 6 (by decide) (hts _ kw_220) (fun _ h => h) rfl d_PC_request_64 ?_
            refine lv_iload_n hx hb d_PC_request_67 rfl (lv_at hl 2 rfl) ?_
            refine e_iald hx hb hK hW (F_Mem G hG) (j := t) ht (x := (lpRq (up2 d 7 t 1) t s) (6) (t)) (rfl) rfl d_PC_request_68 ?_
            refine lv_iload_n hx hb d_PC_request_69 rfl (lv_at hl 0 rfl) ?_
            refine e_ci (e_runS hx hb hml hown hts hE hbs hW (c_has l G hG (lpRq (up2 d 7 t 1) t s) s ((lpRq (up2 d 7 t 1) t s) (6) (t))) kw_221 kw_142 kw_104 kw_141 rfl rfl hd_PC_has ⟨Nat.le_of_ble_eq_true rfl, Nat.le_of_ble_eq_true rfl⟩ (As := [.int ((lpRq (up2 d 7 t 1) t s) (6) (t)), .int (nI s)]) (rest := []) rfl hl.1 rfl (Nat.le_of_ble_eq_true rfl) d_PC_request_70 ⟨Nat.le_of_ble_eq_true rfl, Nat.le_of_ble_eq_true rfl⟩) hW (fun r d' H locs hp hW => ?_)
            obtain ⟨hp1, hp2⟩ := hp
            have hp1 := hp1.symm; subst hp1
            have hp2 := hp2.symm; subst hp2
            refine lv_if_eq (tgt := 84) hx hb d_PC_request_73 (by decide) (fun c_6 => ?_) (fun c_6 => ?_)
            · skip
              refine lv_iinc (v := nI (s + 1)) (lv' := [(2, .int (nI (s + 1))), (0, .ref (gad G (0))), (1, .int (nI t))]) hx hb d_PC_request_84 hl (k := 0) rfl (nI_1 (s)) (by decide) rfl (fun ls hl => ?_)
              refine lv_goto (tgt := 58) hx hb d_PC_request_87 (by decide) ?_
              exact ih_s (s + 1) (by omega) (by omega) _ _ _ (by rw [show lpRq (up2 d 7 t 1) t (s + 1) = (lpRq (up2 d 7 t 1) t s) from if_pos c_6]; exact hW) (lv_sub hl [0, 1, 2] rfl) (by rw [show lpRq (up2 d 7 t 1) t (s + 1) = (lpRq (up2 d 7 t 1) t s) from if_pos c_6]; exact (show NetOK (lpRq (up2 d 7 t 1) t s) from hM_s))
            · skip
              refine lv_aload_n hx hb d_PC_request_76 rfl (lv_at hl 1 rfl) ?_
              refine lv_iconst (v := 0) hx hb d_PC_request_77 (by decide) ?_
              refine lv_iload_n hx hb d_PC_request_78 rfl (lv_at hl 2 rfl) ?_
              refine lv_iload_n hx hb d_PC_request_79 rfl (lv_at hl 0 rfl) ?_
              refine lv_iconst (v := -1) hx hb d_PC_request_80 (by decide) ?_
              refine e_cv (e_runV hx hb hml hown hts hE hbs hW (F_PC G hG) rfl (c_sendToStore l G hG (lpRq (up2 d 7 t 1) t s) (0) (nI t) (nI s) (-1) hM_s) kw_223 kw_224 kw_225 kw_104 kw_222 rfl rfl hd_PC_sendToStore ⟨Nat.le_of_ble_eq_true rfl, Nat.le_of_ble_eq_true rfl⟩ (As := [.int (0), .int (nI t), .int (nI s), .int (-1)]) (rest := []) rfl hl.1 rfl (Nat.le_of_ble_eq_true rfl) d_PC_request_81 ⟨Nat.le_of_ble_eq_true rfl, Nat.le_of_ble_eq_true rfl⟩) hW (fun d' H locs hp hW => ?_)
              have hp := hp.symm; subst hp
              refine lv_iinc (v := nI (s + 1)) (lv' := [(2, .int (nI (s + 1))), (0, .ref (gad G (0))), (1, .int (nI t))]) hx hb d_PC_request_84 hl (k := 0) rfl (nI_1 (s)) (by decide) rfl (fun ls hl => ?_)
              refine lv_goto (tgt := 58) hx hb d_PC_request_87 (by decide) ?_
              exact ih_s (s + 1) (by omega) (by omega) _ _ _ (by rw [show lpRq (up2 d 7 t 1) t (s + 1) = (f_sts (lpRq (up2 d 7 t 1) t s) (0) (nI t) (nI s) (-1)) from if_neg c_6]; exact hW) (lv_sub hl [0, 1, 2] rfl) (by rw [show lpRq (up2 d 7 t 1) t (s + 1) = (f_sts (lpRq (up2 d 7 t 1) t s) (0) (nI t) (nI s) (-1)) from if_neg c_6]; exact (show NetOK (f_sts (lpRq (up2 d 7 t 1) t s) (0) (nI t) (nI s) (-1)) from ((f_sts_ok hM_s).1)))
      exact L_58 (3 + 1) 0 (by omega) (by omega) _ _ _ hW (lv_sub hl [0, 1, 2] rfl) (show NetOK (up2 d (7) (t) (1)) from (NetOK_keep hN (up2_off (by omega)) (up2_off (by omega))))
    · skip
      exact e_thr hst hx hb hown hts hE hW hml hl.1 hno hlk xt_PC_UnsupportedOperationException ks_103 d_PC_request_39 d_PC_request_42 d_PC_request_43 d_PC_request_45 d_PC_request_48 (Nat.le_of_ble_eq_true rfl) (Nat.le_of_ble_eq_true rfl) (Nat.le_of_ble_eq_true rfl) (Nat.le_of_ble_eq_true rfl) (Nat.le_of_ble_eq_true rfl) (Nat.le_of_ble_eq_true rfl) ⟨by unfold rqX; (try simp only [cl_nI (show t < 2147483648 by omega)]); rw [h_1, h_2, if_neg c_3, if_neg c_4] <;> rfl, by exact rfl⟩
  · skip
    exact e_thr hst hx hb hown hts hE hW hml hl.1 hno hlk xt_PC_IllegalStateException ks_101 d_PC_request_20 d_PC_request_23 d_PC_request_24 d_PC_request_26 d_PC_request_29 (Nat.le_of_ble_eq_true rfl) (Nat.le_of_ble_eq_true rfl) (Nat.le_of_ble_eq_true rfl) (Nat.le_of_ble_eq_true rfl) (Nat.le_of_ble_eq_true rfl) (Nat.le_of_ble_eq_true rfl) ⟨by unfold rqX; (try simp only [cl_nI (show t < 2147483648 by omega)]); rw [h_1, h_2, if_pos c_3] <;> rfl, by exact rfl⟩
set_option maxHeartbeats 4000000 in
set_option maxRecDepth 100000 in
theorem c_refuse (l : Launch) (hst : l.stackTraces = false) (G : GT) (hG : GOK G) (d : DD) (x0 x1 : Int32) (hN : NetOK d) : vx_Met l y_PC_refuse (.code y_PC_refuse b_PC_refuse 4 (some .int) :: WS) { frames := 7, cells := 5, slots := 30, locals := 112 } (cPre G [.ref (gad G (0)), .int (x0), .int (x1)] d) (cQi G (fun r9 u9 => rfX d x0 x1 = none ∧ r9 = bcI (f_refuse d (gn G) (cl x0) (cl x1) (cl x1 + 50) (cl x0)) ∧ u9 = f_refuse d (gn G) (cl x0) (cl x1))) (cX G (fun E9 u9 => rfX d x0 x1 = some E9 ∧ u9 = d)) 5 30 (gAb G) := by
  refine c_startX (own := R_PC) (by decide +kernel) rfl (Nat.le_of_ble_eq_true rfl) ?_
  intro p e zs zm below meth zc ls hno C hW hl
  obtain ⟨hx, hb, hr, hml, hown, hts, hlk, hE, hbs⟩ := C
  have hK := hE.1
  have hn3 := hG.1
  have hl : lv_has ls 4 [(0, .ref (gad G (0))), (1, .int (x0)), (2, .int (x1))] := hl
  refine lv_iload_n hx hb d_PC_refuse_0 rfl (lv_at hl 1 rfl) ?_
  refine lv_bipush (v := 8) hx hb d_PC_refuse_1 (by decide) ?_
  refine e_xv (e_xrunS hx hb hml hown hts hE hbs hW (c_checkRange l hst G hG d (x0) (8)) kw_324 kw_325 kw_104 kw_323 rfl rfl hd_PC_checkRange ⟨Nat.le_of_ble_eq_true rfl, Nat.le_of_ble_eq_true rfl⟩ (As := [.int (x0), .int (8)]) (rest := []) rfl hl.1 rfl (Nat.le_of_ble_eq_true rfl) d_PC_refuse_3 ⟨Nat.le_of_ble_eq_true rfl, Nat.le_of_ble_eq_true rfl⟩) hW (fun E9 ce q9 d' H locs hp hW g1 g2 g3 => ?_) (fun d' H locs hp hW => ?_)
  · obtain ⟨hp1, hp2⟩ := hp
    have hp2 := hp2.symm; subst hp2
    exact e_xout hno hlk hW g1 g2 g3 ⟨by unfold rfX; rw [hp1] <;> rfl, by exact rfl⟩ (Nat.le_of_ble_eq_true rfl) (Nat.le_of_ble_eq_true rfl)
  obtain ⟨h_1, hp2⟩ := hp
  have hp2 := hp2.symm; subst hp2
  obtain ⟨t, ht, et⟩ := rg_nat (B := 8) (by omega) h_1
  subst et
  refine lv_iload_n hx hb d_PC_refuse_6 rfl (lv_at hl 2 rfl) ?_
  refine lv_iconst (v := 3) hx hb d_PC_refuse_7 (by decide) ?_
  refine e_xv (e_xrunS hx hb hml hown hts hE hbs hW (c_checkRange l hst G hG d (x1) (3)) kw_324 kw_325 kw_104 kw_323 rfl rfl hd_PC_checkRange ⟨Nat.le_of_ble_eq_true rfl, Nat.le_of_ble_eq_true rfl⟩ (As := [.int (x1), .int (3)]) (rest := []) rfl hl.1 rfl (Nat.le_of_ble_eq_true rfl) d_PC_refuse_8 ⟨Nat.le_of_ble_eq_true rfl, Nat.le_of_ble_eq_true rfl⟩) hW (fun E9 ce q9 d' H locs hp hW g1 g2 g3 => ?_) (fun d' H locs hp hW => ?_)
  · obtain ⟨hp1, hp2⟩ := hp
    have hp2 := hp2.symm; subst hp2
    exact e_xout hno hlk hW g1 g2 g3 ⟨by unfold rfX; (try simp only [cl_nI (show t < 2147483648 by omega)]); rw [h_1, hp1] <;> rfl, by exact rfl⟩ (Nat.le_of_ble_eq_true rfl) (Nat.le_of_ble_eq_true rfl)
  obtain ⟨h_2, hp2⟩ := hp
  have hp2 := hp2.symm; subst hp2
  obtain ⟨s, hs, et⟩ := rg_nat (B := 3) (by omega) h_2
  subst et
  refine lv_aload_n hx hb d_PC_refuse_11 rfl (lv_at hl 0 rfl) ?_
  refine lv_iload_n hx hb d_PC_refuse_12 rfl (lv_at hl 1 rfl) ?_
  refine e_xv (e_xrunV hx hb hml hown hts hE hbs hW (F_PC G hG) rfl (c_checkBegun l hst G hG d (nI t)) kw_327 kw_328 kw_329 kw_104 kw_326 rfl rfl hd_PC_checkBegun ⟨Nat.le_of_ble_eq_true rfl, Nat.le_of_ble_eq_true rfl⟩ (As := [.int (nI t)]) (rest := []) rfl hl.1 rfl (Nat.le_of_ble_eq_true rfl) d_PC_refuse_13 ⟨Nat.le_of_ble_eq_true rfl, Nat.le_of_ble_eq_true rfl⟩) hW (fun E9 ce q9 d' H locs hp hW g1 g2 g3 => ?_) (fun d' H locs hp hW => ?_)
  · obtain ⟨hp1, hp2⟩ := hp
    have hp2 := hp2.symm; subst hp2
    exact e_xout hno hlk hW g1 g2 g3 ⟨by unfold rfX; (try simp only [cl_nI (show t < 2147483648 by omega), cl_nI (show s < 2147483648 by omega)]); rw [h_1, h_2, hp1] <;> rfl, by exact rfl⟩ (Nat.le_of_ble_eq_true rfl) (Nat.le_of_ble_eq_true rfl)
  obtain ⟨h_3, hp2⟩ := hp
  have hp2 := hp2.symm; subst hp2
  refine lv_aload_n hx hb d_PC_refuse_16 rfl (lv_at hl 0 rfl) ?_
  refine lv_iconst (v := 0) hx hb d_PC_refuse_17 (by decide) ?_
  refine lv_iload_n hx hb d_PC_refuse_18 rfl (lv_at hl 2 rfl) ?_
  refine e_xv (e_xrunV hx hb hml hown hts hE hbs hW (F_PC G hG) rfl (c_checkUp l hst G hG d 0 s (by decide)) kw_331 kw_332 kw_333 kw_104 kw_330 rfl rfl hd_PC_checkUp ⟨Nat.le_of_ble_eq_true rfl, Nat.le_of_ble_eq_true rfl⟩ (As := [.int (0), .int (nI s)]) (rest := []) rfl hl.1 rfl (Nat.le_of_ble_eq_true rfl) d_PC_refuse_19 ⟨Nat.le_of_ble_eq_true rfl, Nat.le_of_ble_eq_true rfl⟩) hW (fun E9 ce q9 d' H locs hp hW g1 g2 g3 => ?_) (fun d' H locs hp hW => ?_)
  · obtain ⟨hp1, hp2⟩ := hp
    have hp2 := hp2.symm; subst hp2
    exact e_xout hno hlk hW g1 g2 g3 ⟨by unfold rfX; (try simp only [cl_nI (show t < 2147483648 by omega), cl_nI (show s < 2147483648 by omega)]); rw [h_1, h_2, h_3, hp1] <;> rfl, by exact rfl⟩ (Nat.le_of_ble_eq_true rfl) (Nat.le_of_ble_eq_true rfl)
  obtain ⟨h_4, hp2⟩ := hp
  have hp2 := hp2.symm; subst hp2
  refine lv_aload_n hx hb d_PC_refuse_22 rfl (lv_at hl 0 rfl) ?_
  refine e_get (v := .ref (gad G (1))) hx hb hts hown hK hW (F_PC G hG) i_PC rfl 0 (by decide) (hts _ kw_197) (fun _ h => h) rfl d_PC_refuse_23 ?_
  refine lv_iload_n hx hb d_PC_refuse_26 rfl (lv_at hl 2 rfl) ?_
  refine e_aldq hx hb hK hW (F_Stores G hG) (j := s) hs (q := s + 10) rfl rfl d_PC_refuse_27 ?_
  refine lv_astore_n (lv' := [(3, .ref (gad G (s + 10))), (0, .ref (gad G (0))), (1, .int (nI t)), (2, .int (nI s))]) hx hb d_PC_refuse_28 rfl hl (by decide) rfl (fun ls hl => ?_)
  refine lv_aload_n hx hb d_PC_refuse_29 rfl (lv_at hl 0 rfl) ?_
  refine e_getN (v := .ref (gad G (s + 40))) hx hb hts hown hK hW (F_Store (i0 := s) G hG hs) i_Store rfl 2 (by decide) (nf_13 hE) (fun _ h => h) rfl d_PC_refuse_30 ?_
  refine lv_iload_n hx hb d_PC_refuse_33 rfl (lv_at hl 2 rfl) ?_
  refine e_iald hx hb hK hW (F_Sta (i0 := s) G hG hs) (j := t) ht (x := d (s + 40) (t)) (rfl) rfl d_PC_refuse_34 ?_
  refine lv_iconst (v := 1) hx hb d_PC_refuse_35 (by decide) ?_
  refine lv_icmp_eq (tgt := 49) hx hb d_PC_refuse_36 (by decide) (fun c_5 => ?_) (fun c_5 => ?_)
  · skip
    refine lv_aload_n hx hb d_PC_refuse_49 rfl (lv_at hl 0 rfl) ?_
    refine lv_iload_n hx hb d_PC_refuse_50 rfl (lv_at hl 2 rfl) ?_
    refine e_cv (e_runV hx hb hml hown hts hE hbs hW (F_Store (i0 := s) G hG hs) rfl (c_Store_abort l G hG d s t hs ht) kw_227 kw_146 kw_147 kw_137 kw_144 rfl rfl hd_Store_abort ⟨Nat.le_of_ble_eq_true rfl, Nat.le_of_ble_eq_true rfl⟩ (As := [.int (nI t)]) (rest := []) rfl hl.1 rfl (Nat.le_of_ble_eq_true rfl) d_PC_refuse_51 ⟨Nat.le_of_ble_eq_true rfl, Nat.le_of_ble_eq_true rfl⟩) hW (fun d' H locs hp hW => ?_)
    have hp := hp.symm; subst hp
    refine lv_aload_n hx hb d_PC_refuse_54 rfl (lv_at hl 1 rfl) ?_
    refine lv_iload_n hx hb d_PC_refuse_55 rfl (lv_at hl 2 rfl) ?_
    refine lv_iload_n hx hb d_PC_refuse_56 rfl (lv_at hl 3 rfl) ?_
    refine lv_iconst (v := 0) hx hb d_PC_refuse_57 (by decide) ?_
    refine lv_iconst (v := 0) hx hb d_PC_refuse_58 (by decide) ?_
    refine e_cv (e_runV hx hb hml hown hts hE hbs hW (F_PC G hG) rfl (c_sendVotes l G hG (f_abort d s t) (nI t) (nI s) (0) (0) (NetOK_keep hN (f_abort_off (by omega) (by omega)) (f_abort_off (by omega) (by omega)))) kw_229 kw_230 kw_231 kw_104 kw_228 rfl rfl hd_PC_sendVotes ⟨Nat.le_of_ble_eq_true rfl, Nat.le_of_ble_eq_true rfl⟩ (As := [.int (nI t), .int (nI s), .int (0), .int (0)]) (rest := []) rfl hl.1 rfl (Nat.le_of_ble_eq_true rfl) d_PC_refuse_59 ⟨Nat.le_of_ble_eq_true rfl, Nat.le_of_ble_eq_true rfl⟩) hW (fun d' H locs hp hW => ?_)
    have hp := hp.symm; subst hp
    refine lv_aload_n hx hb d_PC_refuse_62 rfl (lv_at hl 0 rfl) ?_
    refine lv_iload_n hx hb d_PC_refuse_63 rfl (lv_at hl 2 rfl) ?_
    refine e_ci (e_runV hx hb hml hown hts hE hbs hW (F_Store (i0 := s) G hG hs) rfl (c_Store_keys l G hG (lpSV (f_abort d s t) (nI t) (nI s) (0) (0) (gn G)) s t hs ht) kw_347 kw_348 kw_349 kw_137 kw_346 rfl rfl hd_Store_keysWritten ⟨Nat.le_of_ble_eq_true rfl, Nat.le_of_ble_eq_true rfl⟩ (As := [.int (nI t)]) (rest := []) rfl hl.1 rfl (Nat.le_of_ble_eq_true rfl) d_PC_refuse_64 ⟨Nat.le_of_ble_eq_true rfl, Nat.le_of_ble_eq_true rfl⟩) hW (fun r d' H locs hp hW => ?_)
    obtain ⟨hp1, hp2⟩ := hp
    have hp1 := hp1.symm; subst hp1
    have hp2 := hp2.symm; subst hp2
    exact e_xiret hx hb hr hlk hW ⟨by unfold rfX; (try simp only [cl_nI (show t < 2147483648 by omega), cl_nI (show s < 2147483648 by omega)]); rw [h_1, h_2, h_3, h_4, if_pos c_5] <;> rfl, by first | (simp only [cl_nI (show t < 2147483648 by omega), cl_nI (show s < 2147483648 by omega)]; done) | (simp only [cl_nI (show t < 2147483648 by omega), cl_nI (show s < 2147483648 by omega)]; rfl) | (exact rfl), by first | (simp only [cl_nI (show t < 2147483648 by omega), cl_nI (show s < 2147483648 by omega)]; done) | (simp only [cl_nI (show t < 2147483648 by omega), cl_nI (show s < 2147483648 by omega)]; rfl) | (exact rfl)⟩ (Nat.le_of_ble_eq_true rfl) (Nat.le_of_ble_eq_true rfl) d_PC_refuse_67
  · skip
    exact e_thr hst hx hb hown hts hE hW hml hl.1 hno hlk xt_PC_UnsupportedOperationException ks_120 d_PC_refuse_39 d_PC_refuse_42 d_PC_refuse_43 d_PC_refuse_45 d_PC_refuse_48 (Nat.le_of_ble_eq_true rfl) (Nat.le_of_ble_eq_true rfl) (Nat.le_of_ble_eq_true rfl) (Nat.le_of_ble_eq_true rfl) (Nat.le_of_ble_eq_true rfl) (Nat.le_of_ble_eq_true rfl) ⟨by unfold rfX; (try simp only [cl_nI (show t < 2147483648 by omega), cl_nI (show s < 2147483648 by omega)]); rw [h_1, h_2, h_3, h_4, if_neg c_5] <;> rfl, by exact rfl⟩
set_option maxHeartbeats 4000000 in
set_option maxRecDepth 100000 in
theorem c_take (l : Launch) (hst : l.stackTraces = false) (G : GT) (hG : GOK G) (d : DD) (x0 x1 : Int32) (hN : NetOK d) : vx_Met l y_PC_take (.code y_PC_take b_PC_take 4 (some .int) :: WS) { frames := 7, cells := 5, slots := 30, locals := 112 } (cPre G [.ref (gad G (0)), .int (x0), .int (x1)] d) (cQi G (fun r9 u9 => tkX d x0 x1 = none ∧ r9 = rsI (d (cl x0 * 8 + cl x1 + 200) 0) x0 ∧ u9 = f_take d (gn G) (cl x0) (cl x1))) (cX G (fun E9 u9 => tkX d x0 x1 = some E9 ∧ u9 = d)) 5 30 (gAb G) := by
  refine c_startX (own := R_PC) (by decide +kernel) rfl (Nat.le_of_ble_eq_true rfl) ?_
  intro p e zs zm below meth zc ls hno C hW hl
  obtain ⟨hx, hb, hr, hml, hown, hts, hlk, hE, hbs⟩ := C
  have hK := hE.1
  have hn3 := hG.1
  have hl : lv_has ls 4 [(0, .ref (gad G (0))), (1, .int (x0)), (2, .int (x1))] := hl
  refine lv_iload_n hx hb d_PC_take_0 rfl (lv_at hl 1 rfl) ?_
  refine lv_iconst (v := 2) hx hb d_PC_take_1 (by decide) ?_
  refine e_xv (e_xrunS hx hb hml hown hts hE hbs hW (c_checkRange l hst G hG d (x0) (2)) kw_324 kw_325 kw_104 kw_323 rfl rfl hd_PC_checkRange ⟨Nat.le_of_ble_eq_true rfl, Nat.le_of_ble_eq_true rfl⟩ (As := [.int (x0), .int (2)]) (rest := []) rfl hl.1 rfl (Nat.le_of_ble_eq_true rfl) d_PC_take_2 ⟨Nat.le_of_ble_eq_true rfl, Nat.le_of_ble_eq_true rfl⟩) hW (fun E9 ce q9 d' H locs hp hW g1 g2 g3 => ?_) (fun d' H locs hp hW => ?_)
  · obtain ⟨hp1, hp2⟩ := hp
    have hp2 := hp2.symm; subst hp2
    exact e_xout hno hlk hW g1 g2 g3 ⟨by unfold tkX; rw [hp1] <;> rfl, by exact rfl⟩ (Nat.le_of_ble_eq_true rfl) (Nat.le_of_ble_eq_true rfl)
  obtain ⟨h_1, hp2⟩ := hp
  have hp2 := hp2.symm; subst hp2
  obtain ⟨ld, hld, et⟩ := rg_nat (B := 2) (by omega) h_1
  subst et
  refine lv_iload_n hx hb d_PC_take_5 rfl (lv_at hl 2 rfl) ?_
  refine lv_bipush (v := 8) hx hb d_PC_take_6 (by decide) ?_
  refine e_xv (e_xrunS hx hb hml hown hts hE hbs hW (c_checkRange l hst G hG d (x1) (8)) kw_324 kw_325 kw_104 kw_323 rfl rfl hd_PC_checkRange ⟨Nat.le_of_ble_eq_true rfl, Nat.le_of_ble_eq_true rfl⟩ (As := [.int (x1), .int (8)]) (rest := []) rfl hl.1 rfl (Nat.le_of_ble_eq_true rfl) d_PC_take_8 ⟨Nat.le_of_ble_eq_true rfl, Nat.le_of_ble_eq_true rfl⟩) hW (fun E9 ce q9 d' H locs hp hW g1 g2 g3 => ?_) (fun d' H locs hp hW => ?_)
  · obtain ⟨hp1, hp2⟩ := hp
    have hp2 := hp2.symm; subst hp2
    exact e_xout hno hlk hW g1 g2 g3 ⟨by unfold tkX; (try simp only [cl_nI (show ld < 2147483648 by omega)]); rw [h_1, hp1] <;> rfl, by exact rfl⟩ (Nat.le_of_ble_eq_true rfl) (Nat.le_of_ble_eq_true rfl)
  obtain ⟨h_2, hp2⟩ := hp
  have hp2 := hp2.symm; subst hp2
  obtain ⟨t, ht, et⟩ := rg_nat (B := 8) (by omega) h_2
  subst et
  refine lv_aload_n hx hb d_PC_take_11 rfl (lv_at hl 0 rfl) ?_
  refine lv_iload_n hx hb d_PC_take_12 rfl (lv_at hl 2 rfl) ?_
  refine e_xv (e_xrunV hx hb hml hown hts hE hbs hW (F_PC G hG) rfl (c_checkBegun l hst G hG d (nI t)) kw_327 kw_328 kw_329 kw_104 kw_326 rfl rfl hd_PC_checkBegun ⟨Nat.le_of_ble_eq_true rfl, Nat.le_of_ble_eq_true rfl⟩ (As := [.int (nI t)]) (rest := []) rfl hl.1 rfl (Nat.le_of_ble_eq_true rfl) d_PC_take_13 ⟨Nat.le_of_ble_eq_true rfl, Nat.le_of_ble_eq_true rfl⟩) hW (fun E9 ce q9 d' H locs hp hW g1 g2 g3 => ?_) (fun d' H locs hp hW => ?_)
  · obtain ⟨hp1, hp2⟩ := hp
    have hp2 := hp2.symm; subst hp2
    exact e_xout hno hlk hW g1 g2 g3 ⟨by unfold tkX; (try simp only [cl_nI (show ld < 2147483648 by omega), cl_nI (show t < 2147483648 by omega)]); rw [h_1, h_2, hp1] <;> rfl, by exact rfl⟩ (Nat.le_of_ble_eq_true rfl) (Nat.le_of_ble_eq_true rfl)
  obtain ⟨h_3, hp2⟩ := hp
  have hp2 := hp2.symm; subst hp2
  refine lv_aload_n hx hb d_PC_take_16 rfl (lv_at hl 0 rfl) ?_
  refine lv_iconst (v := 2) hx hb d_PC_take_17 (by decide) ?_
  refine lv_iload_n hx hb d_PC_take_18 rfl (lv_at hl 1 rfl) ?_
  refine e_xv (e_xrunV hx hb hml hown hts hE hbs hW (F_PC G hG) rfl (c_checkUp l hst G hG d 2 ld (by decide)) kw_331 kw_332 kw_333 kw_104 kw_330 rfl rfl hd_PC_checkUp ⟨Nat.le_of_ble_eq_true rfl, Nat.le_of_ble_eq_true rfl⟩ (As := [.int (2), .int (nI ld)]) (rest := []) rfl hl.1 rfl (Nat.le_of_ble_eq_true rfl) d_PC_take_19 ⟨Nat.le_of_ble_eq_true rfl, Nat.le_of_ble_eq_true rfl⟩) hW (fun E9 ce q9 d' H locs hp hW g1 g2 g3 => ?_) (fun d' H locs hp hW => ?_)
  · obtain ⟨hp1, hp2⟩ := hp
    have hp2 := hp2.symm; subst hp2
    exact e_xout hno hlk hW g1 g2 g3 ⟨by unfold tkX; (try simp only [cl_nI (show ld < 2147483648 by omega), cl_nI (show t < 2147483648 by omega)]); rw [h_1, h_2, h_3, hp1] <;> rfl, by exact rfl⟩ (Nat.le_of_ble_eq_true rfl) (Nat.le_of_ble_eq_true rfl)
  obtain ⟨h_4, hp2⟩ := hp
  have hp2 := hp2.symm; subst hp2
  refine lv_aload_n hx hb d_PC_take_22 rfl (lv_at hl 0 rfl) ?_
  refine e_get (v := .ref (gad G (7))) hx hb hts hown hK hW (F_PC G hG) i_PC rfl 7 (by decide) (hts _ kw_338) (fun _ h => h) rfl d_PC_take_23 ?_
  refine lv_iload_n hx hb d_PC_take_26 rfl (lv_at hl 2 rfl) ?_
  refine e_zald hx hb hK hW (F_Clo G hG) (j := t) ht (x := d (7) (t)) (rfl) rfl d_PC_take_27 ?_
  refine lv_if_ne (tgt := 41) hx hb d_PC_take_28 (by decide) (fun c_5 => ?_) (fun c_5 => ?_)
  · skip
    refine lv_aload_n hx hb d_PC_take_41 rfl (lv_at hl 0 rfl) ?_
    refine lv_iload_n hx hb d_PC_take_42 rfl (lv_at hl 1 rfl) ?_
    refine lv_iload_n hx hb d_PC_take_43 rfl (lv_at hl 2 rfl) ?_
    refine e_cr (e_runV hx hb hml hown hts hE hbs hW (F_PC G hG) rfl (c_ledger l G hG d ld t hld ht) kw_203 kw_204 kw_205 kw_104 kw_202 rfl rfl hd_PC_ledger ⟨Nat.le_of_ble_eq_true rfl, Nat.le_of_ble_eq_true rfl⟩ (As := [.int (nI ld), .int (nI t)]) (rest := []) rfl hl.1 rfl (Nat.le_of_ble_eq_true rfl) d_PC_take_44 ⟨Nat.le_of_ble_eq_true rfl, Nat.le_of_ble_eq_true rfl⟩) hW (fun cn d' H locs hp hW => ?_)
    obtain ⟨hp1, hp2⟩ := hp
    have hp1 := hp1.symm; subst hp1
    have hp2 := hp2.symm; subst hp2
    refine lv_iload_n hx hb d_PC_take_47 rfl (lv_at hl 1 rfl) ?_
    refine e_ci (e_runV hx hb hml hown hts hE hbs hW (F_Led (i0 := ld * 8 + t) G hG (by omega)) rfl (c_Led_raise l G hG d (ld * 8 + t) (by omega) (nI ld)) kw_352 kw_353 kw_354 kw_156 kw_351 rfl rfl hd_Led_raiseBallot ⟨Nat.le_of_ble_eq_true rfl, Nat.le_of_ble_eq_true rfl⟩ (As := [.int (nI ld)]) (rest := []) rfl hl.1 rfl (Nat.le_of_ble_eq_true rfl) d_PC_take_48 ⟨Nat.le_of_ble_eq_true rfl, Nat.le_of_ble_eq_true rfl⟩) hW (fun r d' H locs hp hW => ?_)
    obtain ⟨hp1, hp2⟩ := hp
    have hp1 := hp1.symm; subst hp1
    have hp2 := hp2.symm; subst hp2
    refine lv_istore_n (lv' := [(3, .int (rsI (d ((ld * 8 + t) + 200) 0) (nI ld))), (0, .ref (gad G (0))), (1, .int (nI ld)), (2, .int (nI t))]) hx hb d_PC_take_51 rfl hl (by decide) rfl (fun ls hl => ?_)
    refine lv_aload_n hx hb d_PC_take_52 rfl (lv_at hl 1 rfl) ?_
    refine lv_iload_n hx hb d_PC_take_53 rfl (lv_at hl 3 rfl) ?_
    refine lv_iload_n hx hb d_PC_take_54 rfl (lv_at hl 0 rfl) ?_
    refine e_cv (e_runV hx hb hml hown hts hE hbs hW (F_PC G hG) rfl (c_sendAsks l G hG (f_raise d (gn G) (ld * 8 + t) (nI ld)) (nI t) (rsI (d ((ld * 8 + t) + 200) 0) (nI ld)) (NetOK_keep hN (f_raise_off (by omega) (by omega)) (f_raise_off (by omega) (by omega)))) kw_356 kw_357 kw_358 kw_104 kw_355 rfl rfl hd_PC_sendAsks ⟨Nat.le_of_ble_eq_true rfl, Nat.le_of_ble_eq_true rfl⟩ (As := [.int (nI t), .int (rsI (d ((ld * 8 + t) + 200) 0) (nI ld))]) (rest := []) rfl hl.1 rfl (Nat.le_of_ble_eq_true rfl) d_PC_take_55 ⟨Nat.le_of_ble_eq_true rfl, Nat.le_of_ble_eq_true rfl⟩) hW (fun d' H locs hp hW => ?_)
    have hp := hp.symm; subst hp
    refine lv_iload_n hx hb d_PC_take_58 rfl (lv_at hl 0 rfl) ?_
    exact e_xiret hx hb hr hlk hW ⟨by unfold tkX; (try simp only [cl_nI (show ld < 2147483648 by omega), cl_nI (show t < 2147483648 by omega)]); rw [h_1, h_2, h_3, h_4, if_neg c_5] <;> rfl, by first | (simp only [cl_nI (show ld < 2147483648 by omega), cl_nI (show t < 2147483648 by omega)]; done) | (simp only [cl_nI (show ld < 2147483648 by omega), cl_nI (show t < 2147483648 by omega)]; rfl) | (exact rfl), by first | (simp only [cl_nI (show ld < 2147483648 by omega), cl_nI (show t < 2147483648 by omega)]; done) | (simp only [cl_nI (show ld < 2147483648 by omega), cl_nI (show t < 2147483648 by omega)]; rfl) | (exact rfl)⟩ (Nat.le_of_ble_eq_true rfl) (Nat.le_of_ble_eq_true rfl) d_PC_take_59
  · skip
    exact e_thr hst hx hb hown hts hE hW hml hl.1 hno hlk xt_PC_UnsupportedOperationException ks_128 d_PC_take_31 d_PC_take_34 d_PC_take_35 d_PC_take_37 d_PC_take_40 (Nat.le_of_ble_eq_true rfl) (Nat.le_of_ble_eq_true rfl) (Nat.le_of_ble_eq_true rfl) (Nat.le_of_ble_eq_true rfl) (Nat.le_of_ble_eq_true rfl) (Nat.le_of_ble_eq_true rfl) ⟨by unfold tkX; (try simp only [cl_nI (show ld < 2147483648 by omega), cl_nI (show t < 2147483648 by omega)]); rw [h_1, h_2, h_3, h_4, if_pos c_5] <;> rfl, by exact rfl⟩
