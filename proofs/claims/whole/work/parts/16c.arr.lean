theorem kw_274 : .code y_Led_hear b_Led_hear 5 none ∈ WS := List.mem_filter.mpr ⟨List.mem_append_right _ (List.mem_of_getElem? (i := 587) (by decide +kernel)), by decide +kernel⟩
theorem kw_275 : .methodLink R_PC 313 y_Led_hear ∈ WS := List.mem_filter.mpr ⟨List.mem_append_right _ (List.mem_of_getElem? (i := 584) (by decide +kernel)), by decide +kernel⟩
theorem kw_276 : .instanceMethod y_Led_hear ∈ WS := List.mem_filter.mpr ⟨List.mem_append_right _ (List.mem_of_getElem? (i := 585) (by decide +kernel)), by decide +kernel⟩
theorem kw_277 : .selects R_Led y_Led_hear y_Led_hear ∈ WS := List.mem_filter.mpr ⟨List.mem_append_right _ (List.mem_of_getElem? (i := 586) (by decide +kernel)), by decide +kernel⟩
theorem kw_278 : .code y_Led_judge b_Led_judge 6 (some .int) ∈ WS := List.mem_filter.mpr ⟨List.mem_append_right _ (List.mem_of_getElem? (i := 592) (by decide +kernel)), by decide +kernel⟩
theorem kw_279 : .methodLink R_PC 316 y_Led_judge ∈ WS := List.mem_filter.mpr ⟨List.mem_append_right _ (List.mem_of_getElem? (i := 589) (by decide +kernel)), by decide +kernel⟩
theorem kw_280 : .instanceMethod y_Led_judge ∈ WS := List.mem_filter.mpr ⟨List.mem_append_right _ (List.mem_of_getElem? (i := 590) (by decide +kernel)), by decide +kernel⟩
theorem kw_281 : .selects R_Led y_Led_judge y_Led_judge ∈ WS := List.mem_filter.mpr ⟨List.mem_append_right _ (List.mem_of_getElem? (i := 591) (by decide +kernel)), by decide +kernel⟩
theorem kw_282 : .code y_PC_sendOutcomes b_PC_sendOutcomes 4 none ∈ WS := List.mem_filter.mpr ⟨List.mem_append_right _ (List.mem_of_getElem? (i := 601) (by decide +kernel)), by decide +kernel⟩
theorem kw_283 : .methodLink R_PC 319 y_PC_sendOutcomes ∈ WS := List.mem_filter.mpr ⟨List.mem_append_right _ (List.mem_of_getElem? (i := 598) (by decide +kernel)), by decide +kernel⟩
theorem kw_284 : .instanceMethod y_PC_sendOutcomes ∈ WS := List.mem_filter.mpr ⟨List.mem_append_right _ (List.mem_of_getElem? (i := 600) (by decide +kernel)), by decide +kernel⟩
theorem kw_285 : .selects R_PC y_PC_sendOutcomes y_PC_sendOutcomes ∈ WS := List.mem_filter.mpr ⟨List.mem_append_left _ (List.mem_of_getElem? (i := 16) (by decide +kernel)), by decide +kernel⟩
theorem hd_Led_hear : y_Led_hear.cls ≠ "java/lang/invoke/MethodHandle" ∧ y_Led_hear.cls ≠ "java/lang/invoke/VarHandle" ∧ (parseMethodDescriptor y_Led_hear.desc).map (fun d => d.parameters.length) = some 4 := by decide +kernel
theorem hd_Led_judge : y_Led_judge.cls ≠ "java/lang/invoke/MethodHandle" ∧ y_Led_judge.cls ≠ "java/lang/invoke/VarHandle" ∧ (parseMethodDescriptor y_Led_judge.desc).map (fun d => d.parameters.length) = some 2 := by decide +kernel
theorem hd_PC_sendOutcomes : y_PC_sendOutcomes.cls ≠ "java/lang/invoke/MethodHandle" ∧ y_PC_sendOutcomes.cls ≠ "java/lang/invoke/VarHandle" ∧ (parseMethodDescriptor y_PC_sendOutcomes.desc).map (fun d => d.parameters.length) = some 2 := by decide +kernel
set_option maxHeartbeats 4000000 in
set_option maxRecDepth 100000 in
theorem c_arriveTold (l : Launch) (G : GT) (hG : GOK G) (d : DD) (ld t a s : Nat) (hld : ld < 2) (ht : t < 8) (ha : a < gn G) (hs : s < 3) (b v mj : Int32) (hN : NetOK d) (f1 : d 481 1 = nI t) (f2 : d 481 2 = nI s) (f3 : d 481 3 = nI a) (f4 : d 481 4 = nI ld) (f5 : d 481 5 = b) (f6 : d 481 6 = v) (fm : d 0 3 = mj) : Met l y_PC_arriveTold (.code y_PC_arriveTold b_PC_arriveTold 3 none :: WS) { frames := 5, cells := 0, slots := 0, locals := 130 } (cPre G [.ref (gad G (0)), .ref (gad G (61 + 420))] d) (cQv G (fun u9 => u9 = f_arrT d (gn G) (ld * 8 + t) a s t b v mj)) 0 0 (gAb G) := by
  refine c_start (own := R_PC) (by decide +kernel) rfl (Nat.le_of_ble_eq_true rfl) ?_
  intro p e zs zm below meth zc ls C hW hl
  obtain ⟨hx, hb, hr, hml, hown, hts, hlk, hE, hbs⟩ := C
  have hK := hE.1
  have hn3 := hG.1
  have hl : lv_has ls 3 [(0, .ref (gad G (0))), (1, .ref (gad G (61 + 420)))] := hl
  refine lv_aload_n hx hb d_PC_arriveTold_0 rfl (lv_at hl 0 rfl) ?_
  refine lv_aload_n hx hb d_PC_arriveTold_1 rfl (lv_at hl 1 rfl) ?_
  refine e_getN (v := .int (d (61 + 420) (4))) hx hb hts hown hK hW (F_Msg (i0 := 61) G hG (by decide)) i_Msg rfl 4 (by decide) (nf_4 hE) (fun _ h => h) rfl d_PC_arriveTold_2 ?_
  refine e_top (v := nI ld) (f4) ?_
  refine lv_aload_n hx hb d_PC_arriveTold_5 rfl (lv_at hl 1 rfl) ?_
  refine e_getN (v := .int (d (61 + 420) (1))) hx hb hts hown hK hW (F_Msg (i0 := 61) G hG (by decide)) i_Msg rfl 1 (by decide) (nf_1 hE) (fun _ h => h) rfl d_PC_arriveTold_6 ?_
  refine e_top (v := nI t) (f1) ?_
  refine e_cr (e_runV hx hb hml hown hts hE hbs hW (F_PC G hG) rfl (c_ledger l G hG d ld t hld ht) kw_203 kw_204 kw_205 kw_104 kw_202 rfl rfl hd_PC_ledger ⟨Nat.le_of_ble_eq_true rfl, Nat.le_of_ble_eq_true rfl⟩ (As := [.int (nI ld), .int (nI t)]) (rest := []) rfl hl.1 rfl (Nat.le_of_ble_eq_true rfl) d_PC_arriveTold_9 ⟨Nat.le_of_ble_eq_true rfl, Nat.le_of_ble_eq_true rfl⟩) hW (fun cn d' H locs hp hW => ?_)
  obtain ⟨hp1, hp2⟩ := hp
  have hp1 := hp1.symm; subst hp1
  have hp2 := hp2.symm; subst hp2
  refine lv_astore_n (lv' := [(2, .ref (gad G (ld * 8 + t + 200))), (0, .ref (gad G (0))), (1, .ref (gad G (61 + 420)))]) hx hb d_PC_arriveTold_12 rfl hl (by decide) rfl (fun ls hl => ?_)
  refine lv_aload_n hx hb d_PC_arriveTold_13 rfl (lv_at hl 0 rfl) ?_
  refine lv_aload_n hx hb d_PC_arriveTold_14 rfl (lv_at hl 2 rfl) ?_
  refine e_getN (v := .int (d (61 + 420) (3))) hx hb hts hown hK hW (F_Msg (i0 := 61) G hG (by decide)) i_Msg rfl 3 (by decide) (nf_3 hE) (fun _ h => h) rfl d_PC_arriveTold_15 ?_
  refine e_top (v := nI a) (f3) ?_
  refine lv_aload_n hx hb d_PC_arriveTold_18 rfl (lv_at hl 2 rfl) ?_
  refine e_getN (v := .int (d (61 + 420) (2))) hx hb hts hown hK hW (F_Msg (i0 := 61) G hG (by decide)) i_Msg rfl 2 (by decide) (nf_2 hE) (fun _ h => h) rfl d_PC_arriveTold_19 ?_
  refine e_top (v := nI s) (f2) ?_
  refine lv_aload_n hx hb d_PC_arriveTold_22 rfl (lv_at hl 2 rfl) ?_
  refine e_getN (v := .int (d (61 + 420) (5))) hx hb hts hown hK hW (F_Msg (i0 := 61) G hG (by decide)) i_Msg rfl 5 (by decide) (nf_5 hE) (fun _ h => h) rfl d_PC_arriveTold_23 ?_
  refine e_top (v := b) (f5) ?_
  refine lv_aload_n hx hb d_PC_arriveTold_26 rfl (lv_at hl 2 rfl) ?_
  refine e_getN (v := .int (d (61 + 420) (6))) hx hb hts hown hK hW (F_Msg (i0 := 61) G hG (by decide)) i_Msg rfl 6 (by decide) (nf_6 hE) (fun _ h => h) rfl d_PC_arriveTold_27 ?_
  refine e_top (v := v) (f6) ?_
  refine e_cv (e_runV hx hb hml hown hts hE hbs hW (F_Led (i0 := ld * 8 + t) G hG (by omega)) rfl (c_Led_hear l G hG d (ld * 8 + t) a s (by omega) ha hs (b) (v)) kw_275 kw_276 kw_277 kw_156 kw_274 rfl rfl hd_Led_hear ⟨Nat.le_of_ble_eq_true rfl, Nat.le_of_ble_eq_true rfl⟩ (As := [.int (nI a), .int (nI s), .int (b), .int (v)]) (rest := []) rfl hl.1 rfl (Nat.le_of_ble_eq_true rfl) d_PC_arriveTold_30 ⟨Nat.le_of_ble_eq_true rfl, Nat.le_of_ble_eq_true rfl⟩) hW (fun d' H locs hp hW => ?_)
  have hp := hp.symm; subst hp
  refine lv_aload_n hx hb d_PC_arriveTold_33 rfl (lv_at hl 0 rfl) ?_
  refine e_getN (v := .int ((f_hear d (ld * 8 + t) a s (b) (v)) (ld * 8 + t + 200) (2))) hx hb hts hown hK hW (F_Led (i0 := ld * 8 + t) G hG (by omega)) i_Led rfl 2 (by decide) (nf_18 hE) (fun _ h => h) rfl d_PC_arriveTold_34 ?_
  refine lv_iconst (v := -1) hx hb d_PC_arriveTold_37 (by decide) ?_
  refine lv_icmp_eq (tgt := 42) hx hb d_PC_arriveTold_38 (by decide) (fun c_1 => ?_) (fun c_1 => ?_)
  · skip
    refine lv_aload_n hx hb d_PC_arriveTold_42 rfl (lv_at hl 0 rfl) ?_
    refine lv_aload_n hx hb d_PC_arriveTold_43 rfl (lv_at hl 0 rfl) ?_
    refine lv_aload_n hx hb d_PC_arriveTold_44 rfl (lv_at hl 1 rfl) ?_
    refine e_get (v := .ref (gad G (6))) hx hb hts hown hK hW (F_PC G hG) i_PC rfl 6 (by decide) (hts _ kw_220) (fun _ h => h) rfl d_PC_arriveTold_45 ?_
    refine lv_aload_n hx hb d_PC_arriveTold_48 rfl (lv_at hl 2 rfl) ?_
    refine e_getN (v := .int ((f_hear d (ld * 8 + t) a s (b) (v)) (61 + 420) (1))) hx hb hts hown hK hW (F_Msg (i0 := 61) G hG (by decide)) i_Msg rfl 1 (by decide) (nf_1 hE) (fun _ h => h) rfl d_PC_arriveTold_49 ?_
    refine e_top (v := nI t) (((congrFun (f_hear_off (by omega)) _).trans (f1))) ?_
    refine e_iald hx hb hK hW (F_Mem G hG) (j := t) ht (x := (f_hear d (ld * 8 + t) a s (b) (v)) (6) (t)) (rfl) rfl d_PC_arriveTold_52 ?_
    refine lv_aload_n hx hb d_PC_arriveTold_53 rfl (lv_at hl 1 rfl) ?_
    refine e_get (v := .int ((f_hear d (ld * 8 + t) a s (b) (v)) (0) (3))) hx hb hts hown hK hW (F_PC G hG) i_PC rfl 3 (by decide) (hts _ kw_269) (fun _ h => h) rfl d_PC_arriveTold_54 ?_
    refine e_top (v := mj) (((congrFun (f_hear_off (by omega)) _).trans (fm))) ?_
    refine e_ci (e_runV hx hb hml hown hts hE hbs hW (F_Led (i0 := ld * 8 + t) G hG (by omega)) rfl (c_Led_judge l G hG (f_hear d (ld * 8 + t) a s (b) (v)) (ld * 8 + t) (by omega) ((f_hear d (ld * 8 + t) a s (b) (v)) (6) (t)) (mj)) kw_279 kw_280 kw_281 kw_156 kw_278 rfl rfl hd_Led_judge ⟨Nat.le_of_ble_eq_true rfl, Nat.le_of_ble_eq_true rfl⟩ (As := [.int ((f_hear d (ld * 8 + t) a s (b) (v)) (6) (t)), .int (mj)]) (rest := [.ref (gad G (ld * 8 + t + 200))]) rfl hl.1 rfl (Nat.le_of_ble_eq_true rfl) d_PC_arriveTold_57 ⟨Nat.le_of_ble_eq_true rfl, Nat.le_of_ble_eq_true rfl⟩) hW (fun r d' H locs hp hW => ?_)
    obtain ⟨hp1, hp2⟩ := hp
    have hp1 := hp1.symm; subst hp1
    have hp2 := hp2.symm; subst hp2
    refine e_putN hx hb hts hown hK hW (F_Led (i0 := ld * 8 + t) G hG (by omega)) i_Led t_Led t_Led_ok n_Led rfl 2 (by decide) (nf_18 hE) (fun _ h => h) rfl (by decide +kernel) (fun _ => rfl) (fun _ => rfl) d_PC_arriveTold_60 (fun H locs hW => ?_)
    refine lv_aload_n hx hb d_PC_arriveTold_63 rfl (lv_at hl 0 rfl) ?_
    refine e_getN (v := .int ((up2 (f_hear d (ld * 8 + t) a s (b) (v)) (ld * 8 + t + 200) (2) (jgF (f_hear d (ld * 8 + t) a s (b) (v)) (gn G) (ld * 8 + t) ((f_hear d (ld * 8 + t) a s (b) (v)) (6) (t)) (mj) 3)) (ld * 8 + t + 200) (2))) hx hb hts hown hK hW (F_Led (i0 := ld * 8 + t) G hG (by omega)) i_Led rfl 2 (by decide) (nf_18 hE) (fun _ h => h) rfl d_PC_arriveTold_64 ?_
    refine e_top (v := jgF (f_hear d (ld * 8 + t) a s (b) (v)) (gn G) (ld * 8 + t) ((f_hear d (ld * 8 + t) a s (b) (v)) (6) (t)) (mj) 3) (up2_self) ?_
    refine lv_iconst (v := -1) hx hb d_PC_arriveTold_67 (by decide) ?_
    refine lv_icmp_eq (tgt := 83) hx hb d_PC_arriveTold_68 (by decide) (fun c_2 => ?_) (fun c_2 => ?_)
    · skip
      exact e_vret hx hb hr hlk hW (by unfold f_arrT f_jdg; rw [if_pos c_1, if_pos c_2]) (Nat.zero_le _) (Nat.zero_le _) d_PC_arriveTold_83
    · skip
      refine lv_aload_n hx hb d_PC_arriveTold_71 rfl (lv_at hl 1 rfl) ?_
      refine lv_aload_n hx hb d_PC_arriveTold_72 rfl (lv_at hl 2 rfl) ?_
      refine e_getN (v := .int ((up2 (f_hear d (ld * 8 + t) a s (b) (v)) (ld * 8 + t + 200) (2) (jgF (f_hear d (ld * 8 + t) a s (b) (v)) (gn G) (ld * 8 + t) ((f_hear d (ld * 8 + t) a s (b) (v)) (6) (t)) (mj) 3)) (61 + 420) (1))) hx hb hts hown hK hW (F_Msg (i0 := 61) G hG (by decide)) i_Msg rfl 1 (by decide) (nf_1 hE) (fun _ h => h) rfl d_PC_arriveTold_73 ?_
      refine e_top (v := nI t) ((up2_nc (by omega)).trans (((congrFun (f_hear_off (by omega)) _).trans (f1)))) ?_
      refine lv_aload_n hx hb d_PC_arriveTold_76 rfl (lv_at hl 0 rfl) ?_
      refine e_getN (v := .int ((up2 (f_hear d (ld * 8 + t) a s (b) (v)) (ld * 8 + t + 200) (2) (jgF (f_hear d (ld * 8 + t) a s (b) (v)) (gn G) (ld * 8 + t) ((f_hear d (ld * 8 + t) a s (b) (v)) (6) (t)) (mj) 3)) (ld * 8 + t + 200) (2))) hx hb hts hown hK hW (F_Led (i0 := ld * 8 + t) G hG (by omega)) i_Led rfl 2 (by decide) (nf_18 hE) (fun _ h => h) rfl d_PC_arriveTold_77 ?_
      refine e_top (v := jgF (f_hear d (ld * 8 + t) a s (b) (v)) (gn G) (ld * 8 + t) ((f_hear d (ld * 8 + t) a s (b) (v)) (6) (t)) (mj) 3) (up2_self) ?_
      refine e_cv (e_runV hx hb hml hown hts hE hbs hW (F_PC G hG) rfl (c_sendOutcomes l G hG (up2 (f_hear d (ld * 8 + t) a s (b) (v)) (ld * 8 + t + 200) (2) (jgF (f_hear d (ld * 8 + t) a s (b) (v)) (gn G) (ld * 8 + t) ((f_hear d (ld * 8 + t) a s (b) (v)) (6) (t)) (mj) 3)) t ht (jgF (f_hear d (ld * 8 + t) a s (b) (v)) (gn G) (ld * 8 + t) ((f_hear d (ld * 8 + t) a s (b) (v)) (6) (t)) (mj) 3) (NetOK_keep (NetOK_keep hN (f_hear_off (by omega)) (f_hear_off (by omega))) (up2_off (by omega)) (up2_off (by omega)))) kw_283 kw_284 kw_285 kw_104 kw_282 rfl rfl hd_PC_sendOutcomes ⟨Nat.le_of_ble_eq_true rfl, Nat.le_of_ble_eq_true rfl⟩ (As := [.int (nI t), .int (jgF (f_hear d (ld * 8 + t) a s (b) (v)) (gn G) (ld * 8 + t) ((f_hear d (ld * 8 + t) a s (b) (v)) (6) (t)) (mj) 3)]) (rest := []) rfl hl.1 rfl (Nat.le_of_ble_eq_true rfl) d_PC_arriveTold_80 ⟨Nat.le_of_ble_eq_true rfl, Nat.le_of_ble_eq_true rfl⟩) hW (fun d' H locs hp hW => ?_)
      have hp := hp.symm; subst hp
      exact e_vret hx hb hr hlk hW (by unfold f_arrT f_jdg; rw [if_pos c_1, if_neg c_2]) (Nat.zero_le _) (Nat.zero_le _) d_PC_arriveTold_83
  · skip
    exact e_vret hx hb hr hlk hW (by unfold f_arrT f_jdg; rw [if_neg c_1]) (Nat.zero_le _) (Nat.zero_le _) d_PC_arriveTold_41
