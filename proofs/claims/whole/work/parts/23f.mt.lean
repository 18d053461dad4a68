theorem kw_515 : .code y_Mo_pass b_Mo_pass 3 (some .int) ∈ WS := List.mem_filter.mpr ⟨List.mem_append_right _ (List.mem_of_getElem? (i := 1113) (by decide +kernel)), by decide +kernel⟩
theorem kw_516 : .methodLink R_Mo 165 y_Mo_pass ∈ WS := List.mem_filter.mpr ⟨List.mem_append_right _ (List.mem_of_getElem? (i := 1110) (by decide +kernel)), by decide +kernel⟩
theorem kw_517 : .instanceMethod y_Mo_pass ∈ WS := List.mem_filter.mpr ⟨List.mem_append_right _ (List.mem_of_getElem? (i := 1112) (by decide +kernel)), by decide +kernel⟩
theorem kw_518 : .selects R_Mo y_Mo_pass y_Mo_pass ∈ WS := List.mem_filter.mpr ⟨List.mem_append_left _ (List.mem_of_getElem? (i := 40) (by decide +kernel)), by decide +kernel⟩
theorem kw_519 : .code y_Mo_passNumber b_Mo_passNumber 5 (some .int) ∈ WS := List.mem_filter.mpr ⟨List.mem_append_right _ (List.mem_of_getElem? (i := 1121) (by decide +kernel)), by decide +kernel⟩
theorem kw_520 : .methodLink R_Mo 168 y_Mo_passNumber ∈ WS := List.mem_filter.mpr ⟨List.mem_append_right _ (List.mem_of_getElem? (i := 1118) (by decide +kernel)), by decide +kernel⟩
theorem kw_521 : .instanceMethod y_Mo_passNumber ∈ WS := List.mem_filter.mpr ⟨List.mem_append_right _ (List.mem_of_getElem? (i := 1120) (by decide +kernel)), by decide +kernel⟩
theorem kw_522 : .selects R_Mo y_Mo_passNumber y_Mo_passNumber ∈ WS := List.mem_filter.mpr ⟨List.mem_append_left _ (List.mem_of_getElem? (i := 42) (by decide +kernel)), by decide +kernel⟩
theorem kw_523 : .code y_Mo_passPart b_Mo_passPart 4 (some .int) ∈ WS := List.mem_filter.mpr ⟨List.mem_append_right _ (List.mem_of_getElem? (i := 1117) (by decide +kernel)), by decide +kernel⟩
theorem kw_524 : .methodLink R_Mo 171 y_Mo_passPart ∈ WS := List.mem_filter.mpr ⟨List.mem_append_right _ (List.mem_of_getElem? (i := 1114) (by decide +kernel)), by decide +kernel⟩
theorem kw_525 : .instanceMethod y_Mo_passPart ∈ WS := List.mem_filter.mpr ⟨List.mem_append_right _ (List.mem_of_getElem? (i := 1116) (by decide +kernel)), by decide +kernel⟩
theorem kw_526 : .selects R_Mo y_Mo_passPart y_Mo_passPart ∈ WS := List.mem_filter.mpr ⟨List.mem_append_left _ (List.mem_of_getElem? (i := 41) (by decide +kernel)), by decide +kernel⟩
theorem kw_527 : .code y_Mo_passVote b_Mo_passVote 3 (some .int) ∈ WS := List.mem_filter.mpr ⟨List.mem_append_right _ (List.mem_of_getElem? (i := 1125) (by decide +kernel)), by decide +kernel⟩
theorem kw_528 : .methodLink R_Mo 175 y_Mo_passVote ∈ WS := List.mem_filter.mpr ⟨List.mem_append_right _ (List.mem_of_getElem? (i := 1122) (by decide +kernel)), by decide +kernel⟩
theorem kw_529 : .instanceMethod y_Mo_passVote ∈ WS := List.mem_filter.mpr ⟨List.mem_append_right _ (List.mem_of_getElem? (i := 1124) (by decide +kernel)), by decide +kernel⟩
theorem kw_530 : .selects R_Mo y_Mo_passVote y_Mo_passVote ∈ WS := List.mem_filter.mpr ⟨List.mem_append_left _ (List.mem_of_getElem? (i := 43) (by decide +kernel)), by decide +kernel⟩
theorem hd_Mo_pass : y_Mo_pass.cls ≠ "java/lang/invoke/MethodHandle" ∧ y_Mo_pass.cls ≠ "java/lang/invoke/VarHandle" ∧ (parseMethodDescriptor y_Mo_pass.desc).map (fun d => d.parameters.length) = some 2 := by decide +kernel
theorem hd_Mo_passNumber : y_Mo_passNumber.cls ≠ "java/lang/invoke/MethodHandle" ∧ y_Mo_passNumber.cls ≠ "java/lang/invoke/VarHandle" ∧ (parseMethodDescriptor y_Mo_passNumber.desc).map (fun d => d.parameters.length) = some 2 := by decide +kernel
theorem hd_Mo_passPart : y_Mo_passPart.cls ≠ "java/lang/invoke/MethodHandle" ∧ y_Mo_passPart.cls ≠ "java/lang/invoke/VarHandle" ∧ (parseMethodDescriptor y_Mo_passPart.desc).map (fun d => d.parameters.length) = some 3 := by decide +kernel
theorem hd_Mo_passVote : y_Mo_passVote.cls ≠ "java/lang/invoke/MethodHandle" ∧ y_Mo_passVote.cls ≠ "java/lang/invoke/VarHandle" ∧ (parseMethodDescriptor y_Mo_passVote.desc).map (fun d => d.parameters.length) = some 2 := by decide +kernel
set_option maxHeartbeats 4000000 in
set_option maxRecDepth 100000 in
theorem c_M_pass (l : Launch) (G : GT) (hG : GOK G) (d : DD) (l9 c9 : Int32) : Met l y_Mo_pass (.code y_Mo_pass b_Mo_pass 3 (some .int) :: WS) { frames := 0, cells := 0, slots := 0, locals := 0 } (cPre G [.ref (gad G (600)), .int (l9), .int (c9)] d) (cQi G (fun r9 u9 => r9 = psI l9 c9 ∧ u9 = d)) 0 0 (gAb G) := by
  refine c_start (own := R_Mo) (by decide +kernel) rfl (Nat.le_of_ble_eq_true rfl) ?_
  intro p e zs zm below meth zc ls C hW hl
  obtain ⟨hx, hb, hr, hml, hown, hts, hlk, hE, hbs⟩ := C
  have hK := hE.1
  have hn3 := hG.1
  have hl : lv_has ls 3 [(0, .ref (gad G (600))), (1, .int (l9)), (2, .int (c9))] := hl
  refine lv_iload_n hx hb d_Mo_pass_0 rfl (lv_at hl 1 rfl) ?_
  refine lv_if_ge (tgt := 8) hx hb d_Mo_pass_1 (by decide) (fun c_1 => ?_) (fun c_1 => ?_)
  · skip
    refine lv_iload_n hx hb d_Mo_pass_8 rfl (lv_at hl 1 rfl) ?_
    refine lv_if_ne (tgt := 19) hx hb d_Mo_pass_9 (by decide) (fun c_2 => ?_) (fun c_2 => ?_)
    · skip
      refine lv_iload_n hx hb d_Mo_pass_19 rfl (lv_at hl 1 rfl) ?_
      refine lv_iconst (v := 1) hx hb d_Mo_pass_20 (by decide) ?_
      refine lv_isub hx hb d_Mo_pass_21 ?_
      exact e_iret hx hb hr hlk hW ⟨by unfold psI; rw [if_pos c_1, if_neg c_2], by exact rfl⟩ (Nat.zero_le _) (Nat.zero_le _) d_Mo_pass_22
    · skip
      refine lv_iload_n hx hb d_Mo_pass_12 rfl (lv_at hl 2 rfl) ?_
      refine lv_ineg hx hb d_Mo_pass_13 ?_
      refine lv_iconst (v := 1) hx hb d_Mo_pass_14 (by decide) ?_
      refine lv_isub hx hb d_Mo_pass_15 ?_
      refine lv_goto (tgt := 22) hx hb d_Mo_pass_16 (by decide) ?_
      exact e_iret hx hb hr hlk hW ⟨by unfold psI; rw [if_pos c_1, if_pos c_2], by exact rfl⟩ (Nat.zero_le _) (Nat.zero_le _) d_Mo_pass_22
  · skip
    refine lv_iload_n hx hb d_Mo_pass_4 rfl (lv_at hl 1 rfl) ?_
    refine lv_goto (tgt := 22) hx hb d_Mo_pass_5 (by decide) ?_
    exact e_iret hx hb hr hlk hW ⟨by unfold psI; rw [if_neg c_1], by exact rfl⟩ (Nat.zero_le _) (Nat.zero_le _) d_Mo_pass_22
set_option maxHeartbeats 4000000 in
set_option maxRecDepth 100000 in
theorem c_M_passNumber (l : Launch) (G : GT) (hG : GOK G) (d : DD) (l9 x9 : Int32) (hx9 : ∃ v : Nat, v < 10000 ∧ x9 = nI v) : Met l y_Mo_passNumber (.code y_Mo_passNumber b_Mo_passNumber 5 (some .int) :: WS) { frames := 1, cells := 0, slots := 0, locals := 22 } (cPre G [.ref (gad G (600)), .int (l9), .int (x9)] d) (cQi G (fun r9 u9 => r9 = psL l9 (dgl (x9).toNatClampNeg) ∧ u9 = d)) 0 0 (gAb G) := by
  refine c_start (own := R_Mo) (by decide +kernel) rfl (Nat.le_of_ble_eq_true rfl) ?_
  intro p e zs zm below meth zc ls C hW hl
  obtain ⟨hx, hb, hr, hml, hown, hts, hlk, hE, hbs⟩ := C
  have hK := hE.1
  have hn3 := hG.1
  have hl : lv_has ls 5 [(0, .ref (gad G (600))), (1, .int (l9)), (2, .int (x9))] := hl
  obtain ⟨v, hv, et⟩ := hx9
  subst et
  refine lv_iconst (v := 1) hx hb d_Mo_passNumber_0 (by decide) ?_
  refine lv_istore_n (lv' := [(3, .int (1)), (0, .ref (gad G (600))), (1, .int (l9)), (2, .int (nI v))]) hx hb d_Mo_passNumber_1 rfl hl (by decide) rfl (fun ls hl => ?_)
  refine lv_iload_n hx hb d_Mo_passNumber_2 rfl (lv_at hl 3 rfl) ?_
  refine lv_iload_n hx hb d_Mo_passNumber_3 rfl (lv_at hl 0 rfl) ?_
  refine lv_idiv hx hb d_Mo_passNumber_4 (by decide) ?_
  refine e_top (v := nI (v / 1)) (pk_div (d := 1) (by omega) (by decide) (by decide)) ?_
  refine lv_bipush (v := 10) hx hb d_Mo_passNumber_5 (by decide) ?_
  refine lv_icmp_lt (tgt := 18) hx hb d_Mo_passNumber_7 (by decide) (fun c_1 => ?_) (fun c_1 => ?_)
  · skip
    have y_c_1 : v / 1 < 10 := (nI_ltI (b := 10) (by omega) (by decide)).mp c_1
    refine lv_iload_n hx hb d_Mo_passNumber_18 rfl (lv_at hl 2 rfl) ?_
    refine lv_istore (lv' := [(4, .int (l9)), (3, .int (1)), (0, .ref (gad G (600))), (1, .int (l9)), (2, .int (nI v))]) hx hb d_Mo_passNumber_19 hl (by decide) rfl (fun ls hl => ?_)
    refine lv_iload_n hx hb d_Mo_passNumber_21 rfl (lv_at hl 1 rfl) ?_
    refine lv_if_le (tgt := 50) hx hb d_Mo_passNumber_22 (by decide) (fun c_2 => ?_) (fun c_2 => ?_)
    · exact absurd c_2 (by decide)
    · skip
      refine lv_aload_n hx hb d_Mo_passNumber_25 rfl (lv_at hl 2 rfl) ?_
      refine lv_iload hx hb d_Mo_passNumber_26 (lv_at hl 0 rfl) ?_
      refine lv_bipush (v := 48) hx hb d_Mo_passNumber_28 (by decide) ?_
      refine lv_iload_n hx hb d_Mo_passNumber_30 rfl (lv_at hl 4 rfl) ?_
      refine lv_iload_n hx hb d_Mo_passNumber_31 rfl (lv_at hl 1 rfl) ?_
      refine lv_idiv hx hb d_Mo_passNumber_32 (by decide) ?_
      refine e_top (v := nI (v / 1)) (pk_div (d := 1) (by omega) (by decide) (by decide)) ?_
      refine lv_bipush (v := 10) hx hb d_Mo_passNumber_33 (by decide) ?_
      refine lv_irem hx hb d_Mo_passNumber_35 (by decide) ?_
      refine e_top (v := nI ((v / 1) % 10)) (pk_rem (d := 10) (by omega) (by decide) (by decide)) ?_
      refine lv_iadd hx hb d_Mo_passNumber_36 ?_
      refine e_top (v := nI (48 + (v / 1) % 10)) (nI_add (48) ((v / 1) % 10)) ?_
      refine e_ci (e_runV hx hb hml hown hts hE hbs hW (F_Mo G hG) rfl (c_M_pass l G hG d (l9) (nI (48 + (v / 1) % 10))) kw_516 kw_517 kw_518 kw_412 kw_515 rfl rfl hd_Mo_pass ⟨Nat.le_of_ble_eq_true rfl, Nat.le_of_ble_eq_true rfl⟩ (As := [.int (l9), .int (nI (48 + (v / 1) % 10))]) (rest := []) rfl hl.1 rfl (Nat.le_of_ble_eq_true rfl) d_Mo_passNumber_37 ⟨Nat.le_of_ble_eq_true rfl, Nat.le_of_ble_eq_true rfl⟩) hW (fun r d' H locs hp hW => ?_)
      obtain ⟨hp1, hp2⟩ := hp
      have hp1 := hp1.symm; subst hp1
      have hp2 := hp2.symm; subst hp2
      refine lv_istore (lv' := [(4, .int (psI (l9) (nI (48 + (v / 1) % 10)))), (3, .int (1)), (0, .ref (gad G (600))), (1, .int (l9)), (2, .int (nI v))]) hx hb d_Mo_passNumber_40 hl (by decide) rfl (fun ls hl => ?_)
      refine lv_iload_n hx hb d_Mo_passNumber_42 rfl (lv_at hl 1 rfl) ?_
      refine lv_bipush (v := 10) hx hb d_Mo_passNumber_43 (by decide) ?_
      refine lv_idiv hx hb d_Mo_passNumber_45 (by decide) ?_
      refine e_top (v := 0) (by decide) ?_
      refine lv_istore_n (lv' := [(3, .int (0)), (4, .int (psI (l9) (nI (48 + (v / 1) % 10)))), (0, .ref (gad G (600))), (1, .int (l9)), (2, .int (nI v))]) hx hb d_Mo_passNumber_46 rfl hl (by decide) rfl (fun ls hl => ?_)
      refine lv_goto (tgt := 21) hx hb d_Mo_passNumber_47 (by decide) ?_
      refine lv_iload_n hx hb d_Mo_passNumber_21 rfl (lv_at hl 0 rfl) ?_
      refine lv_if_le (tgt := 50) hx hb d_Mo_passNumber_22 (by decide) (fun c_3 => ?_) (fun c_3 => ?_)
      · skip
        refine lv_iload hx hb d_Mo_passNumber_50 (lv_at hl 1 rfl) ?_
        have e9 : psL l9 (dgl v) = psI (l9) (nI (48 + (v / 1) % 10)) := by
          rw [dgl1 (by omega), show v / 1 % 10 = v by omega]; rfl
        exact e_iret hx hb hr hlk hW ⟨by rw [nI_clamp (by omega)]; exact e9.symm, by exact rfl⟩ (Nat.zero_le _) (Nat.zero_le _) d_Mo_passNumber_52
      · exact absurd c_3 (by decide)
  · skip
    have y_c_1 : ¬ v / 1 < 10 := fun h => c_1 (nI_lt (b := 10) h (by decide))
    refine lv_iload_n hx hb d_Mo_passNumber_10 rfl (lv_at hl 0 rfl) ?_
    refine lv_bipush (v := 10) hx hb d_Mo_passNumber_11 (by decide) ?_
    refine lv_imul hx hb d_Mo_passNumber_13 ?_
    refine e_top (v := 10) (by decide) ?_
    refine lv_istore_n (lv' := [(3, .int (10)), (0, .ref (gad G (600))), (1, .int (l9)), (2, .int (nI v))]) hx hb d_Mo_passNumber_14 rfl hl (by decide) rfl (fun ls hl => ?_)
    refine lv_goto (tgt := 2) hx hb d_Mo_passNumber_15 (by decide) ?_
    refine lv_iload_n hx hb d_Mo_passNumber_2 rfl (lv_at hl 3 rfl) ?_
    refine lv_iload_n hx hb d_Mo_passNumber_3 rfl (lv_at hl 0 rfl) ?_
    refine lv_idiv hx hb d_Mo_passNumber_4 (by decide) ?_
    refine e_top (v := nI (v / 10)) (pk_div (d := 10) (by omega) (by decide) (by decide)) ?_
    refine lv_bipush (v := 10) hx hb d_Mo_passNumber_5 (by decide) ?_
    refine lv_icmp_lt (tgt := 18) hx hb d_Mo_passNumber_7 (by decide) (fun c_4 => ?_) (fun c_4 => ?_)
    · skip
      have y_c_4 : v / 10 < 10 := (nI_ltI (b := 10) (by omega) (by decide)).mp c_4
      refine lv_iload_n hx hb d_Mo_passNumber_18 rfl (lv_at hl 2 rfl) ?_
      refine lv_istore (lv' := [(4, .int (l9)), (3, .int (10)), (0, .ref (gad G (600))), (1, .int (l9)), (2, .int (nI v))]) hx hb d_Mo_passNumber_19 hl (by decide) rfl (fun ls hl => ?_)
      refine lv_iload_n hx hb d_Mo_passNumber_21 rfl (lv_at hl 1 rfl) ?_
      refine lv_if_le (tgt := 50) hx hb d_Mo_passNumber_22 (by decide) (fun c_5 => ?_) (fun c_5 => ?_)
      · exact absurd c_5 (by decide)
      · skip
        refine lv_aload_n hx hb d_Mo_passNumber_25 rfl (lv_at hl 2 rfl) ?_
        refine lv_iload hx hb d_Mo_passNumber_26 (lv_at hl 0 rfl) ?_
        refine lv_bipush (v := 48) hx hb d_Mo_passNumber_28 (by decide) ?_
        refine lv_iload_n hx hb d_Mo_passNumber_30 rfl (lv_at hl 4 rfl) ?_
        refine lv_iload_n hx hb d_Mo_passNumber_31 rfl (lv_at hl 1 rfl) ?_
        refine lv_idiv hx hb d_Mo_passNumber_32 (by decide) ?_
        refine e_top (v := nI (v / 10)) (pk_div (d := 10) (by omega) (by decide) (by decide)) ?_
        refine lv_bipush (v := 10) hx hb d_Mo_passNumber_33 (by decide) ?_
        refine lv_irem hx hb d_Mo_passNumber_35 (by decide) ?_
        refine e_top (v := nI ((v / 10) % 10)) (pk_rem (d := 10) (by omega) (by decide) (by decide)) ?_
        refine lv_iadd hx hb d_Mo_passNumber_36 ?_
        refine e_top (v := nI (48 + (v / 10) % 10)) (nI_add (48) ((v / 10) % 10)) ?_
        refine e_ci (e_runV hx hb hml hown hts hE hbs hW (F_Mo G hG) rfl (c_M_pass l G hG d (l9) (nI (48 + (v / 10) % 10))) kw_516 kw_517 kw_518 kw_412 kw_515 rfl rfl hd_Mo_pass ⟨Nat.le_of_ble_eq_true rfl, Nat.le_of_ble_eq_true rfl⟩ (As := [.int (l9), .int (nI (48 + (v / 10) % 10))]) (rest := []) rfl hl.1 rfl (Nat.le_of_ble_eq_true rfl) d_Mo_passNumber_37 ⟨Nat.le_of_ble_eq_true rfl, Nat.le_of_ble_eq_true rfl⟩) hW (fun r d' H locs hp hW => ?_)
        obtain ⟨hp1, hp2⟩ := hp
        have hp1 := hp1.symm; subst hp1
        have hp2 := hp2.symm; subst hp2
        refine lv_istore (lv' := [(4, .int (psI (l9) (nI (48 + (v / 10) % 10)))), (3, .int (10)), (0, .ref (gad G (600))), (1, .int (l9)), (2, .int (nI v))]) hx hb d_Mo_passNumber_40 hl (by decide) rfl (fun ls hl => ?_)
        refine lv_iload_n hx hb d_Mo_passNumber_42 rfl (lv_at hl 1 rfl) ?_
        refine lv_bipush (v := 10) hx hb d_Mo_passNumber_43 (by decide) ?_
        refine lv_idiv hx hb d_Mo_passNumber_45 (by decide) ?_
        refine e_top (v := 1) (by decide) ?_
        refine lv_istore_n (lv' := [(3, .int (1)), (4, .int (psI (l9) (nI (48 + (v / 10) % 10)))), (0, .ref (gad G (600))), (1, .int (l9)), (2, .int (nI v))]) hx hb d_Mo_passNumber_46 rfl hl (by decide) rfl (fun ls hl => ?_)
        refine lv_goto (tgt := 21) hx hb d_Mo_passNumber_47 (by decide) ?_
        refine lv_iload_n hx hb d_Mo_passNumber_21 rfl (lv_at hl 0 rfl) ?_
        refine lv_if_le (tgt := 50) hx hb d_Mo_passNumber_22 (by decide) (fun c_6 => ?_) (fun c_6 => ?_)
        · exact absurd c_6 (by decide)
        · skip
          refine lv_aload_n hx hb d_Mo_passNumber_25 rfl (lv_at hl 2 rfl) ?_
          refine lv_iload hx hb d_Mo_passNumber_26 (lv_at hl 1 rfl) ?_
          refine lv_bipush (v := 48) hx hb d_Mo_passNumber_28 (by decide) ?_
          refine lv_iload_n hx hb d_Mo_passNumber_30 rfl (lv_at hl 4 rfl) ?_
          refine lv_iload_n hx hb d_Mo_passNumber_31 rfl (lv_at hl 0 rfl) ?_
          refine lv_idiv hx hb d_Mo_passNumber_32 (by decide) ?_
          refine e_top (v := nI (v / 1)) (pk_div (d := 1) (by omega) (by decide) (by decide)) ?_
          refine lv_bipush (v := 10) hx hb d_Mo_passNumber_33 (by decide) ?_
          refine lv_irem hx hb d_Mo_passNumber_35 (by decide) ?_
          refine e_top (v := nI ((v / 1) % 10)) (pk_rem (d := 10) (by omega) (by decide) (by decide)) ?_
          refine lv_iadd hx hb d_Mo_passNumber_36 ?_
          refine e_top (v := nI (48 + (v / 1) % 10)) (nI_add (48) ((v / 1) % 10)) ?_
          refine e_ci (e_runV hx hb hml hown hts hE hbs hW (F_Mo G hG) rfl (c_M_pass l G hG d (psI (l9) (nI (48 + (v / 10) % 10))) (nI (48 + (v / 1) % 10))) kw_516 kw_517 kw_518 kw_412 kw_515 rfl rfl hd_Mo_pass ⟨Nat.le_of_ble_eq_true rfl, Nat.le_of_ble_eq_true rfl⟩ (As := [.int (psI (l9) (nI (48 + (v / 10) % 10))), .int (nI (48 + (v / 1) % 10))]) (rest := []) rfl hl.1 rfl (Nat.le_of_ble_eq_true rfl) d_Mo_passNumber_37 ⟨Nat.le_of_ble_eq_true rfl, Nat.le_of_ble_eq_true rfl⟩) hW (fun r d' H locs hp hW => ?_)
          obtain ⟨hp1, hp2⟩ := hp
          have hp1 := hp1.symm; subst hp1
          have hp2 := hp2.symm; subst hp2
          refine lv_istore (lv' := [(4, .int (psI (psI (l9) (nI (48 + (v / 10) % 10))) (nI (48 + (v / 1) % 10)))), (3, .int (1)), (0, .ref (gad G (600))), (1, .int (l9)), (2, .int (nI v))]) hx hb d_Mo_passNumber_40 hl (by decide) rfl (fun ls hl => ?_)
          refine lv_iload_n hx hb d_Mo_passNumber_42 rfl (lv_at hl 1 rfl) ?_
          refine lv_bipush (v := 10) hx hb d_Mo_passNumber_43 (by decide) ?_
          refine lv_idiv hx hb d_Mo_passNumber_45 (by decide) ?_
          refine e_top (v := 0) (by decide) ?_
          refine lv_istore_n (lv' := [(3, .int (0)), (4, .int (psI (psI (l9) (nI (48 + (v / 10) % 10))) (nI (48 + (v / 1) % 10)))), (0, .ref (gad G (600))), (1, .int (l9)), (2, .int (nI v))]) hx hb d_Mo_passNumber_46 rfl hl (by decide) rfl (fun ls hl => ?_)
          refine lv_goto (tgt := 21) hx hb d_Mo_passNumber_47 (by decide) ?_
          refine lv_iload_n hx hb d_Mo_passNumber_21 rfl (lv_at hl 0 rfl) ?_
          refine lv_if_le (tgt := 50) hx hb d_Mo_passNumber_22 (by decide) (fun c_7 => ?_) (fun c_7 => ?_)
          · skip
            refine lv_iload hx hb d_Mo_passNumber_50 (lv_at hl 1 rfl) ?_
            have e9 : psL l9 (dgl v) = psI (psI (l9) (nI (48 + (v / 10) % 10))) (nI (48 + (v / 1) % 10)) := by
              rw [dgl2 (by omega) (by omega), show v / 1 % 10 = v % 10 by omega, show v / 10 % 10 = v / 10 by omega]; rfl
            exact e_iret hx hb hr hlk hW ⟨by rw [nI_clamp (by omega)]; exact e9.symm, by exact rfl⟩ (Nat.zero_le _) (Nat.zero_le _) d_Mo_passNumber_52
          · exact absurd c_7 (by decide)
    · skip
      have y_c_4 : ¬ v / 10 < 10 := fun h => c_4 (nI_lt (b := 10) h (by decide))
      refine lv_iload_n hx hb d_Mo_passNumber_10 rfl (lv_at hl 0 rfl) ?_
      refine lv_bipush (v := 10) hx hb d_Mo_passNumber_11 (by decide) ?_
      refine lv_imul hx hb d_Mo_passNumber_13 ?_
      refine e_top (v := 100) (by decide) ?_
      refine lv_istore_n (lv' := [(3, .int (100)), (0, .ref (gad G (600))), (1, .int (l9)), (2, .int (nI v))]) hx hb d_Mo_passNumber_14 rfl hl (by decide) rfl (fun ls hl => ?_)
      refine lv_goto (tgt := 2) hx hb d_Mo_passNumber_15 (by decide) ?_
      refine lv_iload_n hx hb d_Mo_passNumber_2 rfl (lv_at hl 3 rfl) ?_
      refine lv_iload_n hx hb d_Mo_passNumber_3 rfl (lv_at hl 0 rfl) ?_
      refine lv_idiv hx hb d_Mo_passNumber_4 (by decide) ?_
      refine e_top (v := nI (v / 100)) (pk_div (d := 100) (by omega) (by decide) (by decide)) ?_
      refine lv_bipush (v := 10) hx hb d_Mo_passNumber_5 (by decide) ?_
      refine lv_icmp_lt (tgt := 18) hx hb d_Mo_passNumber_7 (by decide) (fun c_8 => ?_) (fun c_8 => ?_)
      · skip
        have y_c_8 : v / 100 < 10 := (nI_ltI (b := 10) (by omega) (by decide)).mp c_8
        refine lv_iload_n hx hb d_Mo_passNumber_18 rfl (lv_at hl 2 rfl) ?_
        refine lv_istore (lv' := [(4, .int (l9)), (3, .int (100)), (0, .ref (gad G (600))), (1, .int (l9)), (2, .int (nI v))]) hx hb d_Mo_passNumber_19 hl (by decide) rfl (fun ls hl => ?_)
        refine lv_iload_n hx hb d_Mo_passNumber_21 rfl (lv_at hl 1 rfl) ?_
        refine lv_if_le (tgt := 50) hx hb d_Mo_passNumber_22 (by decide) (fun c_9 => ?_) (fun c_9 => ?_)
        · exact absurd c_9 (by decide)
        · skip
          refine lv_aload_n hx hb d_Mo_passNumber_25 rfl (lv_at hl 2 rfl) ?_
          refine lv_iload hx hb d_Mo_passNumber_26 (lv_at hl 0 rfl) ?_
          refine lv_bipush (v := 48) hx hb d_Mo_passNumber_28 (by decide) ?_
          refine lv_iload_n hx hb d_Mo_passNumber_30 rfl (lv_at hl 4 rfl) ?_
          refine lv_iload_n hx hb d_Mo_passNumber_31 rfl (lv_at hl 1 rfl) ?_
          refine lv_idiv hx hb d_Mo_passNumber_32 (by decide) ?_
          refine e_top (v := nI (v / 100)) (pk_div (d := 100) (by omega) (by decide) (by decide)) ?_
          refine lv_bipush (v := 10) hx hb d_Mo_passNumber_33 (by decide) ?_
          refine lv_irem hx hb d_Mo_passNumber_35 (by decide) ?_
          refine e_top (v := nI ((v / 100) % 10)) (pk_rem (d := 10) (by omega) (by decide) (by decide)) ?_
          refine lv_iadd hx hb d_Mo_passNumber_36 ?_
          refine e_top (v := nI (48 + (v / 100) % 10)) (nI_add (48) ((v / 100) % 10)) ?_
          refine e_ci (e_runV hx hb hml hown hts hE hbs hW (F_Mo G hG) rfl (c_M_pass l G hG d (l9) (nI (48 + (v / 100) % 10))) kw_516 kw_517 kw_518 kw_412 kw_515 rfl rfl hd_Mo_pass ⟨Nat.le_of_ble_eq_true rfl, Nat.le_of_ble_eq_true rfl⟩ (As := [.int (l9), .int (nI (48 + (v / 100) % 10))]) (rest := []) rfl hl.1 rfl (Nat.le_of_ble_eq_true rfl) d_Mo_passNumber_37 ⟨Nat.le_of_ble_eq_true rfl, Nat.le_of_ble_eq_true rfl⟩) hW (fun r d' H locs hp hW => ?_)
          obtain ⟨hp1, hp2⟩ := hp
          have hp1 := hp1.symm; subst hp1
          have hp2 := hp2.symm; subst hp2
          refine lv_istore (lv' := [(4, .int (psI (l9) (nI (48 + (v / 100) % 10)))), (3, .int (100)), (0, .ref (gad G (600))), (1, .int (l9)), (2, .int (nI v))]) hx hb d_Mo_passNumber_40 hl (by decide) rfl (fun ls hl => ?_)
          refine lv_iload_n hx hb d_Mo_passNumber_42 rfl (lv_at hl 1 rfl) ?_
          refine lv_bipush (v := 10) hx hb d_Mo_passNumber_43 (by decide) ?_
          refine lv_idiv hx hb d_Mo_passNumber_45 (by decide) ?_
          refine e_top (v := 10) (by decide) ?_
          refine lv_istore_n (lv' := [(3, .int (10)), (4, .int (psI (l9) (nI (48 + (v / 100) % 10)))), (0, .ref (gad G (600))), (1, .int (l9)), (2, .int (nI v))]) hx hb d_Mo_passNumber_46 rfl hl (by decide) rfl (fun ls hl => ?_)
          refine lv_goto (tgt := 21) hx hb d_Mo_passNumber_47 (by decide) ?_
          refine lv_iload_n hx hb d_Mo_passNumber_21 rfl (lv_at hl 0 rfl) ?_
          refine lv_if_le (tgt := 50) hx hb d_Mo_passNumber_22 (by decide) (fun c_10 => ?_) (fun c_10 => ?_)
          · exact absurd c_10 (by decide)
          · skip
            refine lv_aload_n hx hb d_Mo_passNumber_25 rfl (lv_at hl 2 rfl) ?_
            refine lv_iload hx hb d_Mo_passNumber_26 (lv_at hl 1 rfl) ?_
            refine lv_bipush (v := 48) hx hb d_Mo_passNumber_28 (by decide) ?_
            refine lv_iload_n hx hb d_Mo_passNumber_30 rfl (lv_at hl 4 rfl) ?_
            refine lv_iload_n hx hb d_Mo_passNumber_31 rfl (lv_at hl 0 rfl) ?_
            refine lv_idiv hx hb d_Mo_passNumber_32 (by decide) ?_
            refine e_top (v := nI (v / 10)) (pk_div (d := 10) (by omega) (by decide) (by decide)) ?_
            refine lv_bipush (v := 10) hx hb d_Mo_passNumber_33 (by decide) ?_
            refine lv_irem hx hb d_Mo_passNumber_35 (by decide) ?_
            refine e_top (v := nI ((v / 10) % 10)) (pk_rem (d := 10) (by omega) (by decide) (by decide)) ?_
            refine lv_iadd hx hb d_Mo_passNumber_36 ?_
            refine e_top (v := nI (48 + (v / 10) % 10)) (nI_add (48) ((v / 10) % 10)) ?_
            refine e_ci (e_runV hx hb hml hown hts hE hbs hW (F_Mo G hG) rfl (c_M_pass l G hG d (psI (l9) (nI (48 + (v / 100) % 10))) (nI (48 + (v / 10) % 10))) kw_516 kw_517 kw_518 kw_412 kw_515 rfl rfl hd_Mo_pass ⟨Nat.le_of_ble_eq_true rfl, Nat.le_of_ble_eq_true rfl⟩ (As := [.int (psI (l9) (nI (48 + (v / 100) % 10))), .int (nI (48 + (v / 10) % 10))]) (rest := []) rfl hl.1 rfl (Nat.le_of_ble_eq_true rfl) d_Mo_passNumber_37 ⟨Nat.le_of_ble_eq_true rfl, Nat.le_of_ble_eq_true rfl⟩) hW (fun r d' H locs hp hW => ?_)
            obtain ⟨hp1, hp2⟩ := hp
            have hp1 := hp1.symm; subst hp1
            have hp2 := hp2.symm; subst hp2
            refine lv_istore (lv' := [(4, .int (psI (psI (l9) (nI (48 + (v / 100) % 10))) (nI (48 + (v / 10) % 10)))), (3, .int (10)), (0, .ref (gad G (600))), (1, .int (l9)), (2, .int (nI v))]) hx hb d_Mo_passNumber_40 hl (by decide) rfl (fun ls hl => ?_)
            refine lv_iload_n hx hb d_Mo_passNumber_42 rfl (lv_at hl 1 rfl) ?_
            refine lv_bipush (v := 10) hx hb d_Mo_passNumber_43 (by decide) ?_
            refine lv_idiv hx hb d_Mo_passNumber_45 (by decide) ?_
            refine e_top (v := 1) (by decide) ?_
            refine lv_istore_n (lv' := [(3, .int (1)), (4, .int (psI (psI (l9) (nI (48 + (v / 100) % 10))) (nI (48 + (v / 10) % 10)))), (0, .ref (gad G (600))), (1, .int (l9)), (2, .int (nI v))]) hx hb d_Mo_passNumber_46 rfl hl (by decide) rfl (fun ls hl => ?_)
            refine lv_goto (tgt := 21) hx hb d_Mo_passNumber_47 (by decide) ?_
            refine lv_iload_n hx hb d_Mo_passNumber_21 rfl (lv_at hl 0 rfl) ?_
            refine lv_if_le (tgt := 50) hx hb d_Mo_passNumber_22 (by decide) (fun c_11 => ?_) (fun c_11 => ?_)
            · exact absurd c_11 (by decide)
            · skip
              refine lv_aload_n hx hb d_Mo_passNumber_25 rfl (lv_at hl 2 rfl) ?_
              refine lv_iload hx hb d_Mo_passNumber_26 (lv_at hl 1 rfl) ?_
              refine lv_bipush (v := 48) hx hb d_Mo_passNumber_28 (by decide) ?_
              refine lv_iload_n hx hb d_Mo_passNumber_30 rfl (lv_at hl 4 rfl) ?_
              refine lv_iload_n hx hb d_Mo_passNumber_31 rfl (lv_at hl 0 rfl) ?_
              refine lv_idiv hx hb d_Mo_passNumber_32 (by decide) ?_
              refine e_top (v := nI (v / 1)) (pk_div (d := 1) (by omega) (by decide) (by decide)) ?_
              refine lv_bipush (v := 10) hx hb d_Mo_passNumber_33 (by decide) ?_
              refine lv_irem hx hb d_Mo_passNumber_35 (by decide) ?_
              refine e_top (v := nI ((v / 1) % 10)) (pk_rem (d := 10) (by omega) (by decide) (by decide)) ?_
              refine lv_iadd hx hb d_Mo_passNumber_36 ?_
              refine e_top (v := nI (48 + (v / 1) % 10)) (nI_add (48) ((v / 1) % 10)) ?_
              refine e_ci (e_runV hx hb hml hown hts hE hbs hW (F_Mo G hG) rfl (c_M_pass l G hG d (psI (psI (l9) (nI (48 + (v / 100) % 10))) (nI (48 + (v / 10) % 10))) (nI (48 + (v / 1) % 10))) kw_516 kw_517 kw_518 kw_412 kw_515 rfl rfl hd_Mo_pass ⟨Nat.le_of_ble_eq_true rfl, Nat.le_of_ble_eq_true rfl⟩ (As := [.int (psI (psI (l9) (nI (48 + (v / 100) % 10))) (nI (48 + (v / 10) % 10))), .int (nI (48 + (v / 1) % 10))]) (rest := []) rfl hl.1 rfl (Nat.le_of_ble_eq_true rfl) d_Mo_passNumber_37 ⟨Nat.le_of_ble_eq_true rfl, Nat.le_of_ble_eq_true rfl⟩) hW (fun r d' H locs hp hW => ?_)
              obtain ⟨hp1, hp2⟩ := hp
              have hp1 := hp1.symm; subst hp1
              have hp2 := hp2.symm; subst hp2
              refine lv_istore (lv' := [(4, .int (psI (psI (psI (l9) (nI (48 + (v / 100) % 10))) (nI (48 + (v / 10) % 10))) (nI (48 + (v / 1) % 10)))), (3, .int (1)), (0, .ref (gad G (600))), (1, .int (l9)), (2, .int (nI v))]) hx hb d_Mo_passNumber_40 hl (by decide) rfl (fun ls hl => ?_)
              refine lv_iload_n hx hb d_Mo_passNumber_42 rfl (lv_at hl 1 rfl) ?_
              refine lv_bipush (v := 10) hx hb d_Mo_passNumber_43 (by decide) ?_
              refine lv_idiv hx hb d_Mo_passNumber_45 (by decide) ?_
              refine e_top (v := 0) (by decide) ?_
              refine lv_istore_n (lv' := [(3, .int (0)), (4, .int (psI (psI (psI (l9) (nI (48 + (v / 100) % 10))) (nI (48 + (v / 10) % 10))) (nI (48 + (v / 1) % 10)))), (0, .ref (gad G (600))), (1, .int (l9)), (2, .int (nI v))]) hx hb d_Mo_passNumber_46 rfl hl (by decide) rfl (fun ls hl => ?_)
              refine lv_goto (tgt := 21) hx hb d_Mo_passNumber_47 (by decide) ?_
              refine lv_iload_n hx hb d_Mo_passNumber_21 rfl (lv_at hl 0 rfl) ?_
              refine lv_if_le (tgt := 50) hx hb d_Mo_passNumber_22 (by decide) (fun c_12 => ?_) (fun c_12 => ?_)
              · skip
                refine lv_iload hx hb d_Mo_passNumber_50 (lv_at hl 1 rfl) ?_
                have e9 : psL l9 (dgl v) = psI (psI (psI (l9) (nI (48 + (v / 100) % 10))) (nI (48 + (v / 10) % 10))) (nI (48 + (v / 1) % 10)) := by
                  rw [dgl3 (by omega) (by omega), show v / 1 % 10 = v % 10 by omega, show v / 100 % 10 = v / 100 by omega]; rfl
                exact e_iret hx hb hr hlk hW ⟨by rw [nI_clamp (by omega)]; exact e9.symm, by exact rfl⟩ (Nat.zero_le _) (Nat.zero_le _) d_Mo_passNumber_52
              · exact absurd c_12 (by decide)
      · skip
        have y_c_8 : ¬ v / 100 < 10 := fun h => c_8 (nI_lt (b := 10) h (by decide))
        refine lv_iload_n hx hb d_Mo_passNumber_10 rfl (lv_at hl 0 rfl) ?_
        refine lv_bipush (v := 10) hx hb d_Mo_passNumber_11 (by decide) ?_
        refine lv_imul hx hb d_Mo_passNumber_13 ?_
        refine e_top (v := 1000) (by decide) ?_
        refine lv_istore_n (lv' := [(3, .int (1000)), (0, .ref (gad G (600))), (1, .int (l9)), (2, .int (nI v))]) hx hb d_Mo_passNumber_14 rfl hl (by decide) rfl (fun ls hl => ?_)
        refine lv_goto (tgt := 2) hx hb d_Mo_passNumber_15 (by decide) ?_
        refine lv_iload_n hx hb d_Mo_passNumber_2 rfl (lv_at hl 3 rfl) ?_
        refine lv_iload_n hx hb d_Mo_passNumber_3 rfl (lv_at hl 0 rfl) ?_
        refine lv_idiv hx hb d_Mo_passNumber_4 (by decide) ?_
        refine e_top (v := nI (v / 1000)) (pk_div (d := 1000) (by omega) (by decide) (by decide)) ?_
        refine lv_bipush (v := 10) hx hb d_Mo_passNumber_5 (by decide) ?_
        refine lv_icmp_lt (tgt := 18) hx hb d_Mo_passNumber_7 (by decide) (fun c_13 => ?_) (fun c_13 => ?_)
        · skip
          have y_c_13 : v / 1000 < 10 := (nI_ltI (b := 10) (by omega) (by decide)).mp c_13
          refine lv_iload_n hx hb d_Mo_passNumber_18 rfl (lv_at hl 2 rfl) ?_
          refine lv_istore (lv' := [(4, .int (l9)), (3, .int (1000)), (0, .ref (gad G (600))), (1, .int (l9)), (2, .int (nI v))]) hx hb d_Mo_passNumber_19 hl (by decide) rfl (fun ls hl => ?_)
          refine lv_iload_n hx hb d_Mo_passNumber_21 rfl (lv_at hl 1 rfl) ?_
          refine lv_if_le (tgt := 50) hx hb d_Mo_passNumber_22 (by decide) (fun c_14 => ?_) (fun c_14 => ?_)
          · exact absurd c_14 (by decide)
          · skip
            refine lv_aload_n hx hb d_Mo_passNumber_25 rfl (lv_at hl 2 rfl) ?_
            refine lv_iload hx hb d_Mo_passNumber_26 (lv_at hl 0 rfl) ?_
            refine lv_bipush (v := 48) hx hb d_Mo_passNumber_28 (by decide) ?_
            refine lv_iload_n hx hb d_Mo_passNumber_30 rfl (lv_at hl 4 rfl) ?_
            refine lv_iload_n hx hb d_Mo_passNumber_31 rfl (lv_at hl 1 rfl) ?_
            refine lv_idiv hx hb d_Mo_passNumber_32 (by decide) ?_
            refine e_top (v := nI (v / 1000)) (pk_div (d := 1000) (by omega) (by decide) (by decide)) ?_
            refine lv_bipush (v := 10) hx hb d_Mo_passNumber_33 (by decide) ?_
            refine lv_irem hx hb d_Mo_passNumber_35 (by decide) ?_
            refine e_top (v := nI ((v / 1000) % 10)) (pk_rem (d := 10) (by omega) (by decide) (by decide)) ?_
            refine lv_iadd hx hb d_Mo_passNumber_36 ?_
            refine e_top (v := nI (48 + (v / 1000) % 10)) (nI_add (48) ((v / 1000) % 10)) ?_
            refine e_ci (e_runV hx hb hml hown hts hE hbs hW (F_Mo G hG) rfl (c_M_pass l G hG d (l9) (nI (48 + (v / 1000) % 10))) kw_516 kw_517 kw_518 kw_412 kw_515 rfl rfl hd_Mo_pass ⟨Nat.le_of_ble_eq_true rfl, Nat.le_of_ble_eq_true rfl⟩ (As := [.int (l9), .int (nI (48 + (v / 1000) % 10))]) (rest := []) rfl hl.1 rfl (Nat.le_of_ble_eq_true rfl) d_Mo_passNumber_37 ⟨Nat.le_of_ble_eq_true rfl, Nat.le_of_ble_eq_true rfl⟩) hW (fun r d' H locs hp hW => ?_)
            obtain ⟨hp1, hp2⟩ := hp
            have hp1 := hp1.symm; subst hp1
            have hp2 := hp2.symm; subst hp2
            refine lv_istore (lv' := [(4, .int (psI (l9) (nI (48 + (v / 1000) % 10)))), (3, .int (1000)), (0, .ref (gad G (600))), (1, .int (l9)), (2, .int (nI v))]) hx hb d_Mo_passNumber_40 hl (by decide) rfl (fun ls hl => ?_)
            refine lv_iload_n hx hb d_Mo_passNumber_42 rfl (lv_at hl 1 rfl) ?_
            refine lv_bipush (v := 10) hx hb d_Mo_passNumber_43 (by decide) ?_
            refine lv_idiv hx hb d_Mo_passNumber_45 (by decide) ?_
            refine e_top (v := 100) (by decide) ?_
            refine lv_istore_n (lv' := [(3, .int (100)), (4, .int (psI (l9) (nI (48 + (v / 1000) % 10)))), (0, .ref (gad G (600))), (1, .int (l9)), (2, .int (nI v))]) hx hb d_Mo_passNumber_46 rfl hl (by decide) rfl (fun ls hl => ?_)
            refine lv_goto (tgt := 21) hx hb d_Mo_passNumber_47 (by decide) ?_
            refine lv_iload_n hx hb d_Mo_passNumber_21 rfl (lv_at hl 0 rfl) ?_
            refine lv_if_le (tgt := 50) hx hb d_Mo_passNumber_22 (by decide) (fun c_15 => ?_) (fun c_15 => ?_)
            · exact absurd c_15 (by decide)
            · skip
              refine lv_aload_n hx hb d_Mo_passNumber_25 rfl (lv_at hl 2 rfl) ?_
              refine lv_iload hx hb d_Mo_passNumber_26 (lv_at hl 1 rfl) ?_
              refine lv_bipush (v := 48) hx hb d_Mo_passNumber_28 (by decide) ?_
              refine lv_iload_n hx hb d_Mo_passNumber_30 rfl (lv_at hl 4 rfl) ?_
              refine lv_iload_n hx hb d_Mo_passNumber_31 rfl (lv_at hl 0 rfl) ?_
              refine lv_idiv hx hb d_Mo_passNumber_32 (by decide) ?_
              refine e_top (v := nI (v / 100)) (pk_div (d := 100) (by omega) (by decide) (by decide)) ?_
              refine lv_bipush (v := 10) hx hb d_Mo_passNumber_33 (by decide) ?_
              refine lv_irem hx hb d_Mo_passNumber_35 (by decide) ?_
              refine e_top (v := nI ((v / 100) % 10)) (pk_rem (d := 10) (by omega) (by decide) (by decide)) ?_
              refine lv_iadd hx hb d_Mo_passNumber_36 ?_
              refine e_top (v := nI (48 + (v / 100) % 10)) (nI_add (48) ((v / 100) % 10)) ?_
              refine e_ci (e_runV hx hb hml hown hts hE hbs hW (F_Mo G hG) rfl (c_M_pass l G hG d (psI (l9) (nI (48 + (v / 1000) % 10))) (nI (48 + (v / 100) % 10))) kw_516 kw_517 kw_518 kw_412 kw_515 rfl rfl hd_Mo_pass ⟨Nat.le_of_ble_eq_true rfl, Nat.le_of_ble_eq_true rfl⟩ (As := [.int (psI (l9) (nI (48 + (v / 1000) % 10))), .int (nI (48 + (v / 100) % 10))]) (rest := []) rfl hl.1 rfl (Nat.le_of_ble_eq_true rfl) d_Mo_passNumber_37 ⟨Nat.le_of_ble_eq_true rfl, Nat.le_of_ble_eq_true rfl⟩) hW (fun r d' H locs hp hW => ?_)
              obtain ⟨hp1, hp2⟩ := hp
              have hp1 := hp1.symm; subst hp1
              have hp2 := hp2.symm; subst hp2
              refine lv_istore (lv' := [(4, .int (psI (psI (l9) (nI (48 + (v / 1000) % 10))) (nI (48 + (v / 100) % 10)))), (3, .int (100)), (0, .ref (gad G (600))), (1, .int (l9)), (2, .int (nI v))]) hx hb d_Mo_passNumber_40 hl (by decide) rfl (fun ls hl => ?_)
              refine lv_iload_n hx hb d_Mo_passNumber_42 rfl (lv_at hl 1 rfl) ?_
              refine lv_bipush (v := 10) hx hb d_Mo_passNumber_43 (by decide) ?_
              refine lv_idiv hx hb d_Mo_passNumber_45 (by decide) ?_
              refine e_top (v := 10) (by decide) ?_
              refine lv_istore_n (lv' := [(3, .int (10)), (4, .int (psI (psI (l9) (nI (48 + (v / 1000) % 10))) (nI (48 + (v / 100) % 10)))), (0, .ref (gad G (600))), (1, .int (l9)), (2, .int (nI v))]) hx hb d_Mo_passNumber_46 rfl hl (by decide) rfl (fun ls hl => ?_)
              refine lv_goto (tgt := 21) hx hb d_Mo_passNumber_47 (by decide) ?_
              refine lv_iload_n hx hb d_Mo_passNumber_21 rfl (lv_at hl 0 rfl) ?_
              refine lv_if_le (tgt := 50) hx hb d_Mo_passNumber_22 (by decide) (fun c_16 => ?_) (fun c_16 => ?_)
              · exact absurd c_16 (by decide)
              · skip
                refine lv_aload_n hx hb d_Mo_passNumber_25 rfl (lv_at hl 2 rfl) ?_
                refine lv_iload hx hb d_Mo_passNumber_26 (lv_at hl 1 rfl) ?_
                refine lv_bipush (v := 48) hx hb d_Mo_passNumber_28 (by decide) ?_
                refine lv_iload_n hx hb d_Mo_passNumber_30 rfl (lv_at hl 4 rfl) ?_
                refine lv_iload_n hx hb d_Mo_passNumber_31 rfl (lv_at hl 0 rfl) ?_
                refine lv_idiv hx hb d_Mo_passNumber_32 (by decide) ?_
                refine e_top (v := nI (v / 10)) (pk_div (d := 10) (by omega) (by decide) (by decide)) ?_
                refine lv_bipush (v := 10) hx hb d_Mo_passNumber_33 (by decide) ?_
                refine lv_irem hx hb d_Mo_passNumber_35 (by decide) ?_
                refine e_top (v := nI ((v / 10) % 10)) (pk_rem (d := 10) (by omega) (by decide) (by decide)) ?_
                refine lv_iadd hx hb d_Mo_passNumber_36 ?_
                refine e_top (v := nI (48 + (v / 10) % 10)) (nI_add (48) ((v / 10) % 10)) ?_
                refine e_ci (e_runV hx hb hml hown hts hE hbs hW (F_Mo G hG) rfl (c_M_pass l G hG d (psI (psI (l9) (nI (48 + (v / 1000) % 10))) (nI (48 + (v / 100) % 10))) (nI (48 + (v / 10) % 10))) kw_516 kw_517 kw_518 kw_412 kw_515 rfl rfl hd_Mo_pass ⟨Nat.le_of_ble_eq_true rfl, Nat.le_of_ble_eq_true rfl⟩ (As := [.int (psI (psI (l9) (nI (48 + (v / 1000) % 10))) (nI (48 + (v / 100) % 10))), .int (nI (48 + (v / 10) % 10))]) (rest := []) rfl hl.1 rfl (Nat.le_of_ble_eq_true rfl) d_Mo_passNumber_37 ⟨Nat.le_of_ble_eq_true rfl, Nat.le_of_ble_eq_true rfl⟩) hW (fun r d' H locs hp hW => ?_)
                obtain ⟨hp1, hp2⟩ := hp
                have hp1 := hp1.symm; subst hp1
                have hp2 := hp2.symm; subst hp2
                refine lv_istore (lv' := [(4, .int (psI (psI (psI (l9) (nI (48 + (v / 1000) % 10))) (nI (48 + (v / 100) % 10))) (nI (48 + (v / 10) % 10)))), (3, .int (10)), (0, .ref (gad G (600))), (1, .int (l9)), (2, .int (nI v))]) hx hb d_Mo_passNumber_40 hl (by decide) rfl (fun ls hl => ?_)
                refine lv_iload_n hx hb d_Mo_passNumber_42 rfl (lv_at hl 1 rfl) ?_
                refine lv_bipush (v := 10) hx hb d_Mo_passNumber_43 (by decide) ?_
                refine lv_idiv hx hb d_Mo_passNumber_45 (by decide) ?_
                refine e_top (v := 1) (by decide) ?_
                refine lv_istore_n (lv' := [(3, .int (1)), (4, .int (psI (psI (psI (l9) (nI (48 + (v / 1000) % 10))) (nI (48 + (v / 100) % 10))) (nI (48 + (v / 10) % 10)))), (0, .ref (gad G (600))), (1, .int (l9)), (2, .int (nI v))]) hx hb d_Mo_passNumber_46 rfl hl (by decide) rfl (fun ls hl => ?_)
                refine lv_goto (tgt := 21) hx hb d_Mo_passNumber_47 (by decide) ?_
                refine lv_iload_n hx hb d_Mo_passNumber_21 rfl (lv_at hl 0 rfl) ?_
                refine lv_if_le (tgt := 50) hx hb d_Mo_passNumber_22 (by decide) (fun c_17 => ?_) (fun c_17 => ?_)
                · exact absurd c_17 (by decide)
                · skip
                  refine lv_aload_n hx hb d_Mo_passNumber_25 rfl (lv_at hl 2 rfl) ?_
                  refine lv_iload hx hb d_Mo_passNumber_26 (lv_at hl 1 rfl) ?_
                  refine lv_bipush (v := 48) hx hb d_Mo_passNumber_28 (by decide) ?_
                  refine lv_iload_n hx hb d_Mo_passNumber_30 rfl (lv_at hl 4 rfl) ?_
                  refine lv_iload_n hx hb d_Mo_passNumber_31 rfl (lv_at hl 0 rfl) ?_
                  refine lv_idiv hx hb d_Mo_passNumber_32 (by decide) ?_
                  refine e_top (v := nI (v / 1)) (pk_div (d := 1) (by omega) (by decide) (by decide)) ?_
                  refine lv_bipush (v := 10) hx hb d_Mo_passNumber_33 (by decide) ?_
                  refine lv_irem hx hb d_Mo_passNumber_35 (by decide) ?_
                  refine e_top (v := nI ((v / 1) % 10)) (pk_rem (d := 10) (by omega) (by decide) (by decide)) ?_
                  refine lv_iadd hx hb d_Mo_passNumber_36 ?_
                  refine e_top (v := nI (48 + (v / 1) % 10)) (nI_add (48) ((v / 1) % 10)) ?_
                  refine e_ci (e_runV hx hb hml hown hts hE hbs hW (F_Mo G hG) rfl (c_M_pass l G hG d (psI (psI (psI (l9) (nI (48 + (v / 1000) % 10))) (nI (48 + (v / 100) % 10))) (nI (48 + (v / 10) % 10))) (nI (48 + (v / 1) % 10))) kw_516 kw_517 kw_518 kw_412 kw_515 rfl rfl hd_Mo_pass ⟨Nat.le_of_ble_eq_true rfl, Nat.le_of_ble_eq_true rfl⟩ (As := [.int (psI (psI (psI (l9) (nI (48 + (v / 1000) % 10))) (nI (48 + (v / 100) % 10))) (nI (48 + (v / 10) % 10))), .int (nI (48 + (v / 1) % 10))]) (rest := []) rfl hl.1 rfl (Nat.le_of_ble_eq_true rfl) d_Mo_passNumber_37 ⟨Nat.le_of_ble_eq_true rfl, Nat.le_of_ble_eq_true rfl⟩) hW (fun r d' H locs hp hW => ?_)
                  obtain ⟨hp1, hp2⟩ := hp
                  have hp1 := hp1.symm; subst hp1
                  have hp2 := hp2.symm; subst hp2
                  refine lv_istore (lv' := [(4, .int (psI (psI (psI (psI (l9) (nI (48 + (v / 1000) % 10))) (nI (48 + (v / 100) % 10))) (nI (48 + (v / 10) % 10))) (nI (48 + (v / 1) % 10)))), (3, .int (1)), (0, .ref (gad G (600))), (1, .int (l9)), (2, .int (nI v))]) hx hb d_Mo_passNumber_40 hl (by decide) rfl (fun ls hl => ?_)
                  refine lv_iload_n hx hb d_Mo_passNumber_42 rfl (lv_at hl 1 rfl) ?_
                  refine lv_bipush (v := 10) hx hb d_Mo_passNumber_43 (by decide) ?_
                  refine lv_idiv hx hb d_Mo_passNumber_45 (by decide) ?_
                  refine e_top (v := 0) (by decide) ?_
                  refine lv_istore_n (lv' := [(3, .int (0)), (4, .int (psI (psI (psI (psI (l9) (nI (48 + (v / 1000) % 10))) (nI (48 + (v / 100) % 10))) (nI (48 + (v / 10) % 10))) (nI (48 + (v / 1) % 10)))), (0, .ref (gad G (600))), (1, .int (l9)), (2, .int (nI v))]) hx hb d_Mo_passNumber_46 rfl hl (by decide) rfl (fun ls hl => ?_)
                  refine lv_goto (tgt := 21) hx hb d_Mo_passNumber_47 (by decide) ?_
                  refine lv_iload_n hx hb d_Mo_passNumber_21 rfl (lv_at hl 0 rfl) ?_
                  refine lv_if_le (tgt := 50) hx hb d_Mo_passNumber_22 (by decide) (fun c_18 => ?_) (fun c_18 => ?_)
                  · skip
                    refine lv_iload hx hb d_Mo_passNumber_50 (lv_at hl 1 rfl) ?_
                    have e9 : psL l9 (dgl v) = psI (psI (psI (psI (l9) (nI (48 + (v / 1000) % 10))) (nI (48 + (v / 100) % 10))) (nI (48 + (v / 10) % 10))) (nI (48 + (v / 1) % 10)) := by
                      rw [dgl4 (by omega), show v / 1 % 10 = v % 10 by omega, show v / 1000 % 10 = v / 1000 by omega]; rfl
                    exact e_iret hx hb hr hlk hW ⟨by rw [nI_clamp (by omega)]; exact e9.symm, by exact rfl⟩ (Nat.zero_le _) (Nat.zero_le _) d_Mo_passNumber_52
                  · exact absurd c_18 (by decide)
        · skip
          exact absurd (nI_lt (a := v / 1000) (b := 10) (by omega) (by decide)) c_13
set_option maxHeartbeats 4000000 in
set_option maxRecDepth 100000 in
theorem c_M_passPart (l : Launch) (G : GT) (hG : GOK G) (d : DD) (l9 c9 x9 : Int32) (hx9 : nmB 10000 x9) : Met l y_Mo_passPart (.code y_Mo_passPart b_Mo_passPart 4 (some .int) :: WS) { frames := 2, cells := 0, slots := 0, locals := 46 } (cPre G [.ref (gad G (600)), .int (l9), .int (c9), .int (x9)] d) (cQi G (fun r9 u9 => r9 = ppI l9 c9 x9 ∧ u9 = d)) 0 0 (gAb G) := by
  refine c_start (own := R_Mo) (by decide +kernel) rfl (Nat.le_of_ble_eq_true rfl) ?_
  intro p e zs zm below meth zc ls C hW hl
  obtain ⟨hx, hb, hr, hml, hown, hts, hlk, hE, hbs⟩ := C
  have hK := hE.1
  have hn3 := hG.1
  have hl : lv_has ls 4 [(0, .ref (gad G (600))), (1, .int (l9)), (2, .int (c9)), (3, .int (x9))] := hl
  refine lv_iload_n hx hb d_Mo_passPart_0 rfl (lv_at hl 3 rfl) ?_
  refine lv_if_ge (tgt := 8) hx hb d_Mo_passPart_1 (by decide) (fun c_1 => ?_) (fun c_1 => ?_)
  · skip
    refine lv_aload_n hx hb d_Mo_passPart_8 rfl (lv_at hl 0 rfl) ?_
    refine lv_aload_n hx hb d_Mo_passPart_9 rfl (lv_at hl 0 rfl) ?_
    refine lv_iload_n hx hb d_Mo_passPart_10 rfl (lv_at hl 1 rfl) ?_
    refine lv_iload_n hx hb d_Mo_passPart_11 rfl (lv_at hl 2 rfl) ?_
    refine e_ci (e_runV hx hb hml hown hts hE hbs hW (F_Mo G hG) rfl (c_M_pass l G hG d (l9) (c9)) kw_516 kw_517 kw_518 kw_412 kw_515 rfl rfl hd_Mo_pass ⟨Nat.le_of_ble_eq_true rfl, Nat.le_of_ble_eq_true rfl⟩ (As := [.int (l9), .int (c9)]) (rest := [.ref (gad G (600))]) rfl hl.1 rfl (Nat.le_of_ble_eq_true rfl) d_Mo_passPart_12 ⟨Nat.le_of_ble_eq_true rfl, Nat.le_of_ble_eq_true rfl⟩) hW (fun r d' H locs hp hW => ?_)
    obtain ⟨hp1, hp2⟩ := hp
    have hp1 := hp1.symm; subst hp1
    have hp2 := hp2.symm; subst hp2
    refine lv_iload_n hx hb d_Mo_passPart_15 rfl (lv_at hl 3 rfl) ?_
    refine e_ci (e_runV hx hb hml hown hts hE hbs hW (F_Mo G hG) rfl (c_M_passNumber l G hG d (psI (l9) (c9)) (x9) (nmB_pos hx9 c_1)) kw_520 kw_521 kw_522 kw_412 kw_519 rfl rfl hd_Mo_passNumber ⟨Nat.le_of_ble_eq_true rfl, Nat.le_of_ble_eq_true rfl⟩ (As := [.int (psI (l9) (c9)), .int (x9)]) (rest := []) rfl hl.1 rfl (Nat.le_of_ble_eq_true rfl) d_Mo_passPart_16 ⟨Nat.le_of_ble_eq_true rfl, Nat.le_of_ble_eq_true rfl⟩) hW (fun r d' H locs hp hW => ?_)
    obtain ⟨hp1, hp2⟩ := hp
    have hp1 := hp1.symm; subst hp1
    have hp2 := hp2.symm; subst hp2
    exact e_iret hx hb hr hlk hW ⟨by unfold ppI; rw [if_pos c_1], by exact rfl⟩ (Nat.zero_le _) (Nat.zero_le _) d_Mo_passPart_19
  · skip
    refine lv_iload_n hx hb d_Mo_passPart_4 rfl (lv_at hl 1 rfl) ?_
    refine lv_goto (tgt := 19) hx hb d_Mo_passPart_5 (by decide) ?_
    exact e_iret hx hb hr hlk hW ⟨by unfold ppI; rw [if_neg c_1], by exact rfl⟩ (Nat.zero_le _) (Nat.zero_le _) d_Mo_passPart_19
set_option maxHeartbeats 4000000 in
set_option maxRecDepth 100000 in
theorem c_M_passVote (l : Launch) (G : GT) (hG : GOK G) (d : DD) (l9 x9 : Int32) : Met l y_Mo_passVote (.code y_Mo_passVote b_Mo_passVote 3 (some .int) :: WS) { frames := 1, cells := 0, slots := 0, locals := 22 } (cPre G [.ref (gad G (600)), .int (l9), .int (x9)] d) (cQi G (fun r9 u9 => r9 = pvI l9 x9 ∧ u9 = d)) 0 0 (gAb G) := by
  refine c_start (own := R_Mo) (by decide +kernel) rfl (Nat.le_of_ble_eq_true rfl) ?_
  intro p e zs zm below meth zc ls C hW hl
  obtain ⟨hx, hb, hr, hml, hown, hts, hlk, hE, hbs⟩ := C
  have hK := hE.1
  have hn3 := hG.1
  have hl : lv_has ls 3 [(0, .ref (gad G (600))), (1, .int (l9)), (2, .int (x9))] := hl
  refine lv_iload_n hx hb d_Mo_passVote_0 rfl (lv_at hl 2 rfl) ?_
  refine lv_if_ge (tgt := 8) hx hb d_Mo_passVote_1 (by decide) (fun c_1 => ?_) (fun c_1 => ?_)
  · skip
    refine lv_aload_n hx hb d_Mo_passVote_8 rfl (lv_at hl 0 rfl) ?_
    refine lv_iload_n hx hb d_Mo_passVote_9 rfl (lv_at hl 1 rfl) ?_
    refine lv_iload_n hx hb d_Mo_passVote_10 rfl (lv_at hl 2 rfl) ?_
    refine lv_iconst (v := 1) hx hb d_Mo_passVote_11 (by decide) ?_
    refine lv_icmp_ne (tgt := 20) hx hb d_Mo_passVote_12 (by decide) (fun c_2 => ?_) (fun c_2 => ?_)
    · skip
      refine lv_bipush (v := 78) hx hb d_Mo_passVote_20 (by decide) ?_
      refine e_ci (e_runV hx hb hml hown hts hE hbs hW (F_Mo G hG) rfl (c_M_pass l G hG d (l9) (78)) kw_516 kw_517 kw_518 kw_412 kw_515 rfl rfl hd_Mo_pass ⟨Nat.le_of_ble_eq_true rfl, Nat.le_of_ble_eq_true rfl⟩ (As := [.int (l9), .int (78)]) (rest := []) rfl hl.1 rfl (Nat.le_of_ble_eq_true rfl) d_Mo_passVote_22 ⟨Nat.le_of_ble_eq_true rfl, Nat.le_of_ble_eq_true rfl⟩) hW (fun r d' H locs hp hW => ?_)
      obtain ⟨hp1, hp2⟩ := hp
      have hp1 := hp1.symm; subst hp1
      have hp2 := hp2.symm; subst hp2
      exact e_iret hx hb hr hlk hW ⟨by unfold pvI; rw [if_pos c_1, if_neg c_2], by exact rfl⟩ (Nat.zero_le _) (Nat.zero_le _) d_Mo_passVote_25
    · skip
      refine lv_bipush (v := 89) hx hb d_Mo_passVote_15 (by decide) ?_
      refine lv_goto (tgt := 22) hx hb d_Mo_passVote_17 (by decide) ?_
      refine e_ci (e_runV hx hb hml hown hts hE hbs hW (F_Mo G hG) rfl (c_M_pass l G hG d (l9) (89)) kw_516 kw_517 kw_518 kw_412 kw_515 rfl rfl hd_Mo_pass ⟨Nat.le_of_ble_eq_true rfl, Nat.le_of_ble_eq_true rfl⟩ (As := [.int (l9), .int (89)]) (rest := []) rfl hl.1 rfl (Nat.le_of_ble_eq_true rfl) d_Mo_passVote_22 ⟨Nat.le_of_ble_eq_true rfl, Nat.le_of_ble_eq_true rfl⟩) hW (fun r d' H locs hp hW => ?_)
      obtain ⟨hp1, hp2⟩ := hp
      have hp1 := hp1.symm; subst hp1
      have hp2 := hp2.symm; subst hp2
      exact e_iret hx hb hr hlk hW ⟨by unfold pvI; rw [if_pos c_1, if_pos c_2], by exact rfl⟩ (Nat.zero_le _) (Nat.zero_le _) d_Mo_passVote_25
  · skip
    refine lv_iload_n hx hb d_Mo_passVote_4 rfl (lv_at hl 1 rfl) ?_
    refine lv_goto (tgt := 25) hx hb d_Mo_passVote_5 (by decide) ?_
    exact e_iret hx hb hr hlk hW ⟨by unfold pvI; rw [if_neg c_1], by exact rfl⟩ (Nat.zero_le _) (Nat.zero_le _) d_Mo_passVote_25
set_option maxHeartbeats 4000000 in
set_option maxRecDepth 100000 in
theorem c_M_text (l : Launch) (G : GT) (hG : GOK G) (d : DD) (x0 x1 : Int32) (hN : MN d) (hM : ∀ i, i < cl (d 600 25) → MmTx d i) : Met l y_Mo_text (.code y_Mo_text b_Mo_text 7 (some .int) :: WS) { frames := 3, cells := 0, slots := 0, locals := 69 } (cPre G [.ref (gad G (600)), .int (x0), .int (x1)] d) (cQi G (mQ d (mC_text d x0 x1) (mR_text d (cl x0) x1) (up2 d 600 0 0))) 0 0 (gAb G) := by
  refine c_start (own := R_Mo) (by decide +kernel) rfl (Nat.le_of_ble_eq_true rfl) ?_
  intro p e zs zm below meth zc ls C hW hl
  obtain ⟨hx, hb, hr, hml, hown, hts, hlk, hE, hbs⟩ := C
  have hK := hE.1
  have hn3 := hG.1
  have hl : lv_has ls 7 [(0, .ref (gad G (600))), (1, .int (x0)), (2, .int (x1))] := hl
  obtain ⟨z, hz, fz⟩ := id hN
  refine lv_aload_n hx hb d_Mo_text_0 rfl (lv_at hl 0 rfl) ?_
  refine lv_iconst (v := 0) hx hb d_Mo_text_1 (by decide) ?_
  refine e_put hx hb hts hown hK hW (F_Mo G hG) i_Mo t_Mo t_Mo_ok n_Mo rfl 0 (by decide) (hts _ kw_403) (fun _ h => h) rfl (by decide +kernel) (fun _ => rfl) (fun _ => rfl) d_Mo_text_2 (fun H locs hW => ?_)
  refine lv_iload_n hx hb d_Mo_text_5 rfl (lv_at hl 2 rfl) ?_
  refine lv_if_ge (tgt := 15) hx hb d_Mo_text_6 (by decide) (fun c_1 => ?_) (fun c_1 => ?_)
  · skip
    refine lv_aload_n hx hb d_Mo_text_15 rfl (lv_at hl 0 rfl) ?_
    refine lv_iload_n hx hb d_Mo_text_16 rfl (lv_at hl 1 rfl) ?_
    refine lv_aload_n hx hb d_Mo_text_17 rfl (lv_at hl 0 rfl) ?_
    refine e_get (v := .int ((up2 d (600) (0) (0)) (600) (25))) hx hb hts hown hK hW (F_Mo G hG) i_Mo rfl 25 (by decide) (hts _ kw_406) (fun _ h => h) rfl d_Mo_text_18 ?_
    refine e_top (v := nI z) ((up2_nk (by decide)).trans (fz)) ?_
    refine e_ci (e_runV hx hb hml hown hts hE hbs hW (F_Mo G hG) rfl (c_M_out l G hG (up2 d (600) (0) (0)) (x0) (nI z)) kw_491 kw_492 kw_493 kw_412 kw_490 rfl rfl hd_Mo_out ⟨Nat.le_of_ble_eq_true rfl, Nat.le_of_ble_eq_true rfl⟩ (As := [.int (x0), .int (nI z)]) (rest := []) rfl hl.1 rfl (Nat.le_of_ble_eq_true rfl) d_Mo_text_21 ⟨Nat.le_of_ble_eq_true rfl, Nat.le_of_ble_eq_true rfl⟩) hW (fun r d' H locs hp hW => ?_)
    obtain ⟨hp1, hp2⟩ := hp
    have hp1 := hp1.symm; subst hp1
    have hp2 := hp2.symm; subst hp2
    refine lv_if_eq (tgt := 33) hx hb d_Mo_text_24 (by decide) (fun c_2 => ?_) (fun c_2 => ?_)
    · skip
      obtain ⟨i, hiz, et⟩ := out_nat (B := z) (by omega) c_2
      subst et
      obtain ⟨hb1, hb2⟩ := hM i (by rw [fz, cl_nI (by omega)]; exact hiz)
      refine lv_bipush (v := 13) hx hb d_Mo_text_33 (by decide) ?_
      refine lv_iload_n hx hb d_Mo_text_35 rfl (lv_at hl 1 rfl) ?_
      refine lv_imul hx hb d_Mo_text_36 ?_
      refine e_top (v := nI (13 * i)) (pk_mul (13) (i)) ?_
      refine lv_istore_n (lv' := [(3, .int (nI (13 * i))), (0, .ref (gad G (600))), (1, .int (nI i)), (2, .int (x1))]) hx hb d_Mo_text_37 rfl hl (by decide) rfl (fun ls hl => ?_)
      refine lv_aload_n hx hb d_Mo_text_38 rfl (lv_at hl 1 rfl) ?_
      refine lv_iload_n hx hb d_Mo_text_39 rfl (lv_at hl 3 rfl) ?_
      refine lv_aload_n hx hb d_Mo_text_40 rfl (lv_at hl 1 rfl) ?_
      refine e_get (v := .ref (gad G (624))) hx hb hts hown hK hW (F_Mo G hG) i_Mo rfl 24 (by decide) (hts _ kw_407) (fun _ h => h) rfl d_Mo_text_41 ?_
      refine lv_iload_n hx hb d_Mo_text_44 rfl (lv_at hl 0 rfl) ?_
      refine e_iald hx hb hK hW (F_Mnet G hG) (j := 13 * i) (by omega) (x := d (624) (13 * i)) ((up2_nc (by omega)).trans (rfl)) rfl d_Mo_text_45 ?_
      refine e_ci (e_runV hx hb hml hown hts hE hbs hW (F_Mo G hG) rfl (c_M_pass l G hG (up2 d (600) (0) (0)) (x1) (d (624) (13 * i))) kw_516 kw_517 kw_518 kw_412 kw_515 rfl rfl hd_Mo_pass ⟨Nat.le_of_ble_eq_true rfl, Nat.le_of_ble_eq_true rfl⟩ (As := [.int (x1), .int (d (624) (13 * i))]) (rest := []) rfl hl.1 rfl (Nat.le_of_ble_eq_true rfl) d_Mo_text_46 ⟨Nat.le_of_ble_eq_true rfl, Nat.le_of_ble_eq_true rfl⟩) hW (fun r d' H locs hp hW => ?_)
      obtain ⟨hp1, hp2⟩ := hp
      have hp1 := hp1.symm; subst hp1
      have hp2 := hp2.symm; subst hp2
      refine lv_istore (lv' := [(4, .int (psI (x1) (d (624) (13 * i)))), (3, .int (nI (13 * i))), (0, .ref (gad G (600))), (1, .int (nI i)), (2, .int (x1))]) hx hb d_Mo_text_49 hl (by decide) rfl (fun ls hl => ?_)
      refine lv_aload_n hx hb d_Mo_text_51 rfl (lv_at hl 2 rfl) ?_
      refine lv_iload hx hb d_Mo_text_52 (lv_at hl 0 rfl) ?_
      refine lv_bipush (v := 116) hx hb d_Mo_text_54 (by decide) ?_
      refine lv_aload_n hx hb d_Mo_text_56 rfl (lv_at hl 2 rfl) ?_
      refine e_get (v := .ref (gad G (624))) hx hb hts hown hK hW (F_Mo G hG) i_Mo rfl 24 (by decide) (hts _ kw_407) (fun _ h => h) rfl d_Mo_text_57 ?_
      refine lv_iload_n hx hb d_Mo_text_60 rfl (lv_at hl 1 rfl) ?_
      refine lv_iconst (v := 1) hx hb d_Mo_text_61 (by decide) ?_
      refine lv_iadd hx hb d_Mo_text_62 ?_
      refine e_top (v := nI (13 * i + 1)) (nI_add (13 * i) (1)) ?_
      refine e_iald hx hb hK hW (F_Mnet G hG) (j := 13 * i + 1) (by omega) (x := d (624) (13 * i + 1)) ((up2_nc (by omega)).trans (rfl)) rfl d_Mo_text_63 ?_
      refine e_ci (e_runV hx hb hml hown hts hE hbs hW (F_Mo G hG) rfl (c_M_passPart l G hG (up2 d (600) (0) (0)) (psI (x1) (d (624) (13 * i))) (116) (d (624) (13 * i + 1)) (hb1 1 (by decide) (by decide))) kw_524 kw_525 kw_526 kw_412 kw_523 rfl rfl hd_Mo_passPart ⟨Nat.le_of_ble_eq_true rfl, Nat.le_of_ble_eq_true rfl⟩ (As := [.int (psI (x1) (d (624) (13 * i))), .int (116), .int (d (624) (13 * i + 1))]) (rest := []) rfl hl.1 rfl (Nat.le_of_ble_eq_true rfl) d_Mo_text_64 ⟨Nat.le_of_ble_eq_true rfl, Nat.le_of_ble_eq_true rfl⟩) hW (fun r d' H locs hp hW => ?_)
      obtain ⟨hp1, hp2⟩ := hp
      have hp1 := hp1.symm; subst hp1
      have hp2 := hp2.symm; subst hp2
      refine lv_istore (lv' := [(4, .int (ppI (psI (x1) (d (624) (13 * i))) (116) (d (624) (13 * i + 1)))), (3, .int (nI (13 * i))), (0, .ref (gad G (600))), (1, .int (nI i)), (2, .int (x1))]) hx hb d_Mo_text_67 hl (by decide) rfl (fun ls hl => ?_)
      refine lv_aload_n hx hb d_Mo_text_69 rfl (lv_at hl 2 rfl) ?_
      refine lv_iload hx hb d_Mo_text_70 (lv_at hl 0 rfl) ?_
      refine lv_bipush (v := 115) hx hb d_Mo_text_72 (by decide) ?_
      refine lv_aload_n hx hb d_Mo_text_74 rfl (lv_at hl 2 rfl) ?_
      refine e_get (v := .ref (gad G (624))) hx hb hts hown hK hW (F_Mo G hG) i_Mo rfl 24 (by decide) (hts _ kw_407) (fun _ h => h) rfl d_Mo_text_75 ?_
      refine lv_iload_n hx hb d_Mo_text_78 rfl (lv_at hl 1 rfl) ?_
      refine lv_iconst (v := 2) hx hb d_Mo_text_79 (by decide) ?_
      refine lv_iadd hx hb d_Mo_text_80 ?_
      refine e_top (v := nI (13 * i + 2)) (nI_add (13 * i) (2)) ?_
      refine e_iald hx hb hK hW (F_Mnet G hG) (j := 13 * i + 2) (by omega) (x := d (624) (13 * i + 2)) ((up2_nc (by omega)).trans (rfl)) rfl d_Mo_text_81 ?_
      refine e_ci (e_runV hx hb hml hown hts hE hbs hW (F_Mo G hG) rfl (c_M_passPart l G hG (up2 d (600) (0) (0)) (ppI (psI (x1) (d (624) (13 * i))) (116) (d (624) (13 * i + 1))) (115) (d (624) (13 * i + 2)) (hb1 2 (by decide) (by decide))) kw_524 kw_525 kw_526 kw_412 kw_523 rfl rfl hd_Mo_passPart ⟨Nat.le_of_ble_eq_true rfl, Nat.le_of_ble_eq_true rfl⟩ (As := [.int (ppI (psI (x1) (d (624) (13 * i))) (116) (d (624) (13 * i + 1))), .int (115), .int (d (624) (13 * i + 2))]) (rest := []) rfl hl.1 rfl (Nat.le_of_ble_eq_true rfl) d_Mo_text_82 ⟨Nat.le_of_ble_eq_true rfl, Nat.le_of_ble_eq_true rfl⟩) hW (fun r d' H locs hp hW => ?_)
      obtain ⟨hp1, hp2⟩ := hp
      have hp1 := hp1.symm; subst hp1
      have hp2 := hp2.symm; subst hp2
      refine lv_istore (lv' := [(4, .int (ppI (ppI (psI (x1) (d (624) (13 * i))) (116) (d (624) (13 * i + 1))) (115) (d (624) (13 * i + 2)))), (3, .int (nI (13 * i))), (0, .ref (gad G (600))), (1, .int (nI i)), (2, .int (x1))]) hx hb d_Mo_text_85 hl (by decide) rfl (fun ls hl => ?_)
      refine lv_aload_n hx hb d_Mo_text_87 rfl (lv_at hl 2 rfl) ?_
      refine lv_iload hx hb d_Mo_text_88 (lv_at hl 0 rfl) ?_
      refine lv_bipush (v := 97) hx hb d_Mo_text_90 (by decide) ?_
      refine lv_aload_n hx hb d_Mo_text_92 rfl (lv_at hl 2 rfl) ?_
      refine e_get (v := .ref (gad G (624))) hx hb hts hown hK hW (F_Mo G hG) i_Mo rfl 24 (by decide) (hts _ kw_407) (fun _ h => h) rfl d_Mo_text_93 ?_
      refine lv_iload_n hx hb d_Mo_text_96 rfl (lv_at hl 1 rfl) ?_
      refine lv_iconst (v := 3) hx hb d_Mo_text_97 (by decide) ?_
      refine lv_iadd hx hb d_Mo_text_98 ?_
      refine e_top (v := nI (13 * i + 3)) (nI_add (13 * i) (3)) ?_
      refine e_iald hx hb hK hW (F_Mnet G hG) (j := 13 * i + 3) (by omega) (x := d (624) (13 * i + 3)) ((up2_nc (by omega)).trans (rfl)) rfl d_Mo_text_99 ?_
      refine e_ci (e_runV hx hb hml hown hts hE hbs hW (F_Mo G hG) rfl (c_M_passPart l G hG (up2 d (600) (0) (0)) (ppI (ppI (psI (x1) (d (624) (13 * i))) (116) (d (624) (13 * i + 1))) (115) (d (624) (13 * i + 2))) (97) (d (624) (13 * i + 3)) (hb1 3 (by decide) (by decide))) kw_524 kw_525 kw_526 kw_412 kw_523 rfl rfl hd_Mo_passPart ⟨Nat.le_of_ble_eq_true rfl, Nat.le_of_ble_eq_true rfl⟩ (As := [.int (ppI (ppI (psI (x1) (d (624) (13 * i))) (116) (d (624) (13 * i + 1))) (115) (d (624) (13 * i + 2))), .int (97), .int (d (624) (13 * i + 3))]) (rest := []) rfl hl.1 rfl (Nat.le_of_ble_eq_true rfl) d_Mo_text_100 ⟨Nat.le_of_ble_eq_true rfl, Nat.le_of_ble_eq_true rfl⟩) hW (fun r d' H locs hp hW => ?_)
      obtain ⟨hp1, hp2⟩ := hp
      have hp1 := hp1.symm; subst hp1
      have hp2 := hp2.symm; subst hp2
      refine lv_istore (lv' := [(4, .int (ppI (ppI (ppI (psI (x1) (d (624) (13 * i))) (116) (d (624) (13 * i + 1))) (115) (d (624) (13 * i + 2))) (97) (d (624) (13 * i + 3)))), (3, .int (nI (13 * i))), (0, .ref (gad G (600))), (1, .int (nI i)), (2, .int (x1))]) hx hb d_Mo_text_103 hl (by decide) rfl (fun ls hl => ?_)
      refine lv_aload_n hx hb d_Mo_text_105 rfl (lv_at hl 2 rfl) ?_
      refine lv_iload hx hb d_Mo_text_106 (lv_at hl 0 rfl) ?_
      refine lv_bipush (v := 108) hx hb d_Mo_text_108 (by decide) ?_
      refine lv_aload_n hx hb d_Mo_text_110 rfl (lv_at hl 2 rfl) ?_
      refine e_get (v := .ref (gad G (624))) hx hb hts hown hK hW (F_Mo G hG) i_Mo rfl 24 (by decide) (hts _ kw_407) (fun _ h => h) rfl d_Mo_text_111 ?_
      refine lv_iload_n hx hb d_Mo_text_114 rfl (lv_at hl 1 rfl) ?_
      refine lv_iconst (v := 4) hx hb d_Mo_text_115 (by decide) ?_
      refine lv_iadd hx hb d_Mo_text_116 ?_
      refine e_top (v := nI (13 * i + 4)) (nI_add (13 * i) (4)) ?_
      refine e_iald hx hb hK hW (F_Mnet G hG) (j := 13 * i + 4) (by omega) (x := d (624) (13 * i + 4)) ((up2_nc (by omega)).trans (rfl)) rfl d_Mo_text_117 ?_
      refine e_ci (e_runV hx hb hml hown hts hE hbs hW (F_Mo G hG) rfl (c_M_passPart l G hG (up2 d (600) (0) (0)) (ppI (ppI (ppI (psI (x1) (d (624) (13 * i))) (116) (d (624) (13 * i + 1))) (115) (d (624) (13 * i + 2))) (97) (d (624) (13 * i + 3))) (108) (d (624) (13 * i + 4)) (hb1 4 (by decide) (by decide))) kw_524 kw_525 kw_526 kw_412 kw_523 rfl rfl hd_Mo_passPart ⟨Nat.le_of_ble_eq_true rfl, Nat.le_of_ble_eq_true rfl⟩ (As := [.int (ppI (ppI (ppI (psI (x1) (d (624) (13 * i))) (116) (d (624) (13 * i + 1))) (115) (d (624) (13 * i + 2))) (97) (d (624) (13 * i + 3))), .int (108), .int (d (624) (13 * i + 4))]) (rest := []) rfl hl.1 rfl (Nat.le_of_ble_eq_true rfl) d_Mo_text_118 ⟨Nat.le_of_ble_eq_true rfl, Nat.le_of_ble_eq_true rfl⟩) hW (fun r d' H locs hp hW => ?_)
      obtain ⟨hp1, hp2⟩ := hp
      have hp1 := hp1.symm; subst hp1
      have hp2 := hp2.symm; subst hp2
      refine lv_istore (lv' := [(4, .int (ppI (ppI (ppI (ppI (psI (x1) (d (624) (13 * i))) (116) (d (624) (13 * i + 1))) (115) (d (624) (13 * i + 2))) (97) (d (624) (13 * i + 3))) (108) (d (624) (13 * i + 4)))), (3, .int (nI (13 * i))), (0, .ref (gad G (600))), (1, .int (nI i)), (2, .int (x1))]) hx hb d_Mo_text_121 hl (by decide) rfl (fun ls hl => ?_)
      refine lv_aload_n hx hb d_Mo_text_123 rfl (lv_at hl 2 rfl) ?_
      refine lv_iload hx hb d_Mo_text_124 (lv_at hl 0 rfl) ?_
      refine lv_bipush (v := 98) hx hb d_Mo_text_126 (by decide) ?_
      refine lv_aload_n hx hb d_Mo_text_128 rfl (lv_at hl 2 rfl) ?_
      refine e_get (v := .ref (gad G (624))) hx hb hts hown hK hW (F_Mo G hG) i_Mo rfl 24 (by decide) (hts _ kw_407) (fun _ h => h) rfl d_Mo_text_129 ?_
      refine lv_iload_n hx hb d_Mo_text_132 rfl (lv_at hl 1 rfl) ?_
      refine lv_iconst (v := 5) hx hb d_Mo_text_133 (by decide) ?_
      refine lv_iadd hx hb d_Mo_text_134 ?_
      refine e_top (v := nI (13 * i + 5)) (nI_add (13 * i) (5)) ?_
      refine e_iald hx hb hK hW (F_Mnet G hG) (j := 13 * i + 5) (by omega) (x := d (624) (13 * i + 5)) ((up2_nc (by omega)).trans (rfl)) rfl d_Mo_text_135 ?_
      refine e_ci (e_runV hx hb hml hown hts hE hbs hW (F_Mo G hG) rfl (c_M_passPart l G hG (up2 d (600) (0) (0)) (ppI (ppI (ppI (ppI (psI (x1) (d (624) (13 * i))) (116) (d (624) (13 * i + 1))) (115) (d (624) (13 * i + 2))) (97) (d (624) (13 * i + 3))) (108) (d (624) (13 * i + 4))) (98) (d (624) (13 * i + 5)) (hb1 5 (by decide) (by decide))) kw_524 kw_525 kw_526 kw_412 kw_523 rfl rfl hd_Mo_passPart ⟨Nat.le_of_ble_eq_true rfl, Nat.le_of_ble_eq_true rfl⟩ (As := [.int (ppI (ppI (ppI (ppI (psI (x1) (d (624) (13 * i))) (116) (d (624) (13 * i + 1))) (115) (d (624) (13 * i + 2))) (97) (d (624) (13 * i + 3))) (108) (d (624) (13 * i + 4))), .int (98), .int (d (624) (13 * i + 5))]) (rest := []) rfl hl.1 rfl (Nat.le_of_ble_eq_true rfl) d_Mo_text_136 ⟨Nat.le_of_ble_eq_true rfl, Nat.le_of_ble_eq_true rfl⟩) hW (fun r d' H locs hp hW => ?_)
      obtain ⟨hp1, hp2⟩ := hp
      have hp1 := hp1.symm; subst hp1
      have hp2 := hp2.symm; subst hp2
      refine lv_istore (lv' := [(4, .int (ppI (ppI (ppI (ppI (ppI (psI (x1) (d (624) (13 * i))) (116) (d (624) (13 * i + 1))) (115) (d (624) (13 * i + 2))) (97) (d (624) (13 * i + 3))) (108) (d (624) (13 * i + 4))) (98) (d (624) (13 * i + 5)))), (3, .int (nI (13 * i))), (0, .ref (gad G (600))), (1, .int (nI i)), (2, .int (x1))]) hx hb d_Mo_text_139 hl (by decide) rfl (fun ls hl => ?_)
      refine lv_aload_n hx hb d_Mo_text_141 rfl (lv_at hl 2 rfl) ?_
      refine lv_iload hx hb d_Mo_text_142 (lv_at hl 0 rfl) ?_
      refine lv_aload_n hx hb d_Mo_text_144 rfl (lv_at hl 2 rfl) ?_
      refine e_get (v := .ref (gad G (624))) hx hb hts hown hK hW (F_Mo G hG) i_Mo rfl 24 (by decide) (hts _ kw_407) (fun _ h => h) rfl d_Mo_text_145 ?_
      refine lv_iload_n hx hb d_Mo_text_148 rfl (lv_at hl 1 rfl) ?_
      refine lv_bipush (v := 6) hx hb d_Mo_text_149 (by decide) ?_
      refine lv_iadd hx hb d_Mo_text_151 ?_
      refine e_top (v := nI (13 * i + 6)) (nI_add (13 * i) (6)) ?_
      refine e_iald hx hb hK hW (F_Mnet G hG) (j := 13 * i + 6) (by omega) (x := d (624) (13 * i + 6)) ((up2_nc (by omega)).trans (rfl)) rfl d_Mo_text_152 ?_
      refine e_ci (e_runV hx hb hml hown hts hE hbs hW (F_Mo G hG) rfl (c_M_passVote l G hG (up2 d (600) (0) (0)) (ppI (ppI (ppI (ppI (ppI (psI (x1) (d (624) (13 * i))) (116) (d (624) (13 * i + 1))) (115) (d (624) (13 * i + 2))) (97) (d (624) (13 * i + 3))) (108) (d (624) (13 * i + 4))) (98) (d (624) (13 * i + 5))) (d (624) (13 * i + 6))) kw_528 kw_529 kw_530 kw_412 kw_527 rfl rfl hd_Mo_passVote ⟨Nat.le_of_ble_eq_true rfl, Nat.le_of_ble_eq_true rfl⟩ (As := [.int (ppI (ppI (ppI (ppI (ppI (psI (x1) (d (624) (13 * i))) (116) (d (624) (13 * i + 1))) (115) (d (624) (13 * i + 2))) (97) (d (624) (13 * i + 3))) (108) (d (624) (13 * i + 4))) (98) (d (624) (13 * i + 5))), .int (d (624) (13 * i + 6))]) (rest := []) rfl hl.1 rfl (Nat.le_of_ble_eq_true rfl) d_Mo_text_153 ⟨Nat.le_of_ble_eq_true rfl, Nat.le_of_ble_eq_true rfl⟩) hW (fun r d' H locs hp hW => ?_)
      obtain ⟨hp1, hp2⟩ := hp
      have hp1 := hp1.symm; subst hp1
      have hp2 := hp2.symm; subst hp2
      refine lv_istore (lv' := [(4, .int (pvI (ppI (ppI (ppI (ppI (ppI (psI (x1) (d (624) (13 * i))) (116) (d (624) (13 * i + 1))) (115) (d (624) (13 * i + 2))) (97) (d (624) (13 * i + 3))) (108) (d (624) (13 * i + 4))) (98) (d (624) (13 * i + 5))) (d (624) (13 * i + 6)))), (3, .int (nI (13 * i))), (0, .ref (gad G (600))), (1, .int (nI i)), (2, .int (x1))]) hx hb d_Mo_text_156 hl (by decide) rfl (fun ls hl => ?_)
      refine lv_iconst (v := 0) hx hb d_Mo_text_158 (by decide) ?_
      refine lv_istore (lv' := [(5, .int (0)), (4, .int (pvI (ppI (ppI (ppI (ppI (ppI (psI (x1) (d (624) (13 * i))) (116) (d (624) (13 * i + 1))) (115) (d (624) (13 * i + 2))) (97) (d (624) (13 * i + 3))) (108) (d (624) (13 * i + 4))) (98) (d (624) (13 * i + 5))) (d (624) (13 * i + 6)))), (3, .int (nI (13 * i))), (0, .ref (gad G (600))), (1, .int (nI i)), (2, .int (x1))]) hx hb d_Mo_text_159 hl (by decide) rfl (fun ls hl => ?_)
      refine lv_iload hx hb d_Mo_text_161 (lv_at hl 0 rfl) ?_
      refine lv_iconst (v := 3) hx hb d_Mo_text_163 (by decide) ?_
      refine lv_icmp_ge (tgt := 240) hx hb d_Mo_text_164 (by decide) (fun c_3 => ?_) (fun c_3 => ?_)
      · exact absurd c_3 (by decide)
      · skip
        refine lv_aload_n hx hb d_Mo_text_167 rfl (lv_at hl 3 rfl) ?_
        refine e_get (v := .ref (gad G (624))) hx hb hts hown hK hW (F_Mo G hG) i_Mo rfl 24 (by decide) (hts _ kw_407) (fun _ h => h) rfl d_Mo_text_168 ?_
        refine lv_iload_n hx hb d_Mo_text_171 rfl (lv_at hl 2 rfl) ?_
        refine e_iald hx hb hK hW (F_Mnet G hG) (j := 13 * i) (by omega) (x := d (624) (13 * i)) ((up2_nc (by omega)).trans (rfl)) rfl d_Mo_text_172 ?_
        refine lv_bipush (v := 82) hx hb d_Mo_text_173 (by decide) ?_
        refine lv_icmp_ne (tgt := 240) hx hb d_Mo_text_175 (by decide) (fun c_4 => ?_) (fun c_4 => ?_)
        · skip
          refine lv_iload hx hb d_Mo_text_240 (lv_at hl 1 rfl) ?_
          refine lv_if_ge (tgt := 253) hx hb d_Mo_text_242 (by decide) (fun c_5 => ?_) (fun c_5 => ?_)
          · skip
            refine lv_iconst (v := -1) hx hb d_Mo_text_253 (by decide) ?_
            have e9 : mR_text d i x1 = -1 := by
              unfold mR_text peI pyI; rw [if_neg c_4]; exact if_pos c_5
            exact e_iret hx hb hr hlk hW (mq_ok (by unfold mC_text; rw [fz, if_pos c_1, if_pos c_2]) (by simp only [cl_nI (show i < 2147483648 by omega)]; exact e9.symm) (by exact rfl)) (Nat.zero_le _) (Nat.zero_le _) d_Mo_text_254
          · skip
            refine lv_iload hx hb d_Mo_text_245 (lv_at hl 1 rfl) ?_
            refine lv_ineg hx hb d_Mo_text_247 ?_
            refine lv_iconst (v := 1) hx hb d_Mo_text_248 (by decide) ?_
            refine lv_isub hx hb d_Mo_text_249 ?_
            refine lv_goto (tgt := 254) hx hb d_Mo_text_250 (by decide) ?_
            have e9 : mR_text d i x1 = (-(pvI (ppI (ppI (ppI (ppI (ppI (psI (x1) (d (624) (13 * i))) (116) (d (624) (13 * i + 1))) (115) (d (624) (13 * i + 2))) (97) (d (624) (13 * i + 3))) (108) (d (624) (13 * i + 4))) (98) (d (624) (13 * i + 5))) (d (624) (13 * i + 6)))) - (1) := by
              unfold mR_text peI pyI; rw [if_neg c_4]; exact if_neg c_5
            exact e_iret hx hb hr hlk hW (mq_ok (by unfold mC_text; rw [fz, if_pos c_1, if_pos c_2]) (by simp only [cl_nI (show i < 2147483648 by omega)]; exact e9.symm) (by exact rfl)) (Nat.zero_le _) (Nat.zero_le _) d_Mo_text_254
        · skip
          refine lv_aload_n hx hb d_Mo_text_178 rfl (lv_at hl 3 rfl) ?_
          refine e_get (v := .ref (gad G (624))) hx hb hts hown hK hW (F_Mo G hG) i_Mo rfl 24 (by decide) (hts _ kw_407) (fun _ h => h) rfl d_Mo_text_179 ?_
          refine lv_iload_n hx hb d_Mo_text_182 rfl (lv_at hl 2 rfl) ?_
          refine lv_bipush (v := 7) hx hb d_Mo_text_183 (by decide) ?_
          refine lv_iadd hx hb d_Mo_text_185 ?_
          refine e_top (v := nI (13 * i + 7)) (nI_add (13 * i) (7)) ?_
          refine lv_iload hx hb d_Mo_text_186 (lv_at hl 0 rfl) ?_
          refine lv_iadd hx hb d_Mo_text_188 ?_
          refine e_top (v := nI (13 * i + 7 + 0)) (nI_add (13 * i + 7) (0)) ?_
          refine e_iald hx hb hK hW (F_Mnet G hG) (j := 13 * i + 7 + 0) (by omega) (x := d (624) (13 * i + 7 + 0)) ((up2_nc (by omega)).trans (rfl)) rfl d_Mo_text_189 ?_
          refine lv_istore (lv' := [(6, .int (d (624) (13 * i + 7 + 0))), (5, .int (0)), (4, .int (pvI (ppI (ppI (ppI (ppI (ppI (psI (x1) (d (624) (13 * i))) (116) (d (624) (13 * i + 1))) (115) (d (624) (13 * i + 2))) (97) (d (624) (13 * i + 3))) (108) (d (624) (13 * i + 4))) (98) (d (624) (13 * i + 5))) (d (624) (13 * i + 6)))), (3, .int (nI (13 * i))), (0, .ref (gad G (600))), (1, .int (nI i)), (2, .int (x1))]) hx hb d_Mo_text_190 hl (by decide) rfl (fun ls hl => ?_)
          refine lv_iload hx hb d_Mo_text_192 (lv_at hl 0 rfl) ?_
          refine lv_if_ge (tgt := 208) hx hb d_Mo_text_194 (by decide) (fun c_6 => ?_) (fun c_6 => ?_)
          · skip
            refine lv_aload_n hx hb d_Mo_text_208 rfl (lv_at hl 4 rfl) ?_
            refine lv_aload_n hx hb d_Mo_text_209 rfl (lv_at hl 4 rfl) ?_
            refine lv_iload hx hb d_Mo_text_210 (lv_at hl 2 rfl) ?_
            refine lv_iload hx hb d_Mo_text_212 (lv_at hl 0 rfl) ?_
            refine e_ci (e_runV hx hb hml hown hts hE hbs hW (F_Mo G hG) rfl (c_M_passNumber l G hG (up2 d (600) (0) (0)) (pvI (ppI (ppI (ppI (ppI (ppI (psI (x1) (d (624) (13 * i))) (116) (d (624) (13 * i + 1))) (115) (d (624) (13 * i + 2))) (97) (d (624) (13 * i + 3))) (108) (d (624) (13 * i + 4))) (98) (d (624) (13 * i + 5))) (d (624) (13 * i + 6))) (d (624) (13 * i + 7 + 0)) (nmB_pos (hb2 c_4 0 (by decide)) c_6)) kw_520 kw_521 kw_522 kw_412 kw_519 rfl rfl hd_Mo_passNumber ⟨Nat.le_of_ble_eq_true rfl, Nat.le_of_ble_eq_true rfl⟩ (As := [.int (pvI (ppI (ppI (ppI (ppI (ppI (psI (x1) (d (624) (13 * i))) (116) (d (624) (13 * i + 1))) (115) (d (624) (13 * i + 2))) (97) (d (624) (13 * i + 3))) (108) (d (624) (13 * i + 4))) (98) (d (624) (13 * i + 5))) (d (624) (13 * i + 6))), .int (d (624) (13 * i + 7 + 0))]) (rest := [.ref (gad G (600))]) rfl hl.1 rfl (Nat.le_of_ble_eq_true rfl) d_Mo_text_214 ⟨Nat.le_of_ble_eq_true rfl, Nat.le_of_ble_eq_true rfl⟩) hW (fun r d' H locs hp hW => ?_)
            obtain ⟨hp1, hp2⟩ := hp
            have hp1 := hp1.symm; subst hp1
            have hp2 := hp2.symm; subst hp2
            refine lv_aload_n hx hb d_Mo_text_217 rfl (lv_at hl 4 rfl) ?_
            refine e_get (v := .ref (gad G (624))) hx hb hts hown hK hW (F_Mo G hG) i_Mo rfl 24 (by decide) (hts _ kw_407) (fun _ h => h) rfl d_Mo_text_218 ?_
            refine lv_iload_n hx hb d_Mo_text_221 rfl (lv_at hl 3 rfl) ?_
            refine lv_bipush (v := 10) hx hb d_Mo_text_222 (by decide) ?_
            refine lv_iadd hx hb d_Mo_text_224 ?_
            refine e_top (v := nI (13 * i + 10)) (nI_add (13 * i) (10)) ?_
            refine lv_iload hx hb d_Mo_text_225 (lv_at hl 1 rfl) ?_
            refine lv_iadd hx hb d_Mo_text_227 ?_
            refine e_top (v := nI (13 * i + 10 + 0)) (nI_add (13 * i + 10) (0)) ?_
            refine e_iald hx hb hK hW (F_Mnet G hG) (j := 13 * i + 10 + 0) (by omega) (x := d (624) (13 * i + 10 + 0)) ((up2_nc (by omega)).trans (rfl)) rfl d_Mo_text_228 ?_
            refine e_ci (e_runV hx hb hml hown hts hE hbs hW (F_Mo G hG) rfl (c_M_passVote l G hG (up2 d (600) (0) (0)) (psL (pvI (ppI (ppI (ppI (ppI (ppI (psI (x1) (d (624) (13 * i))) (116) (d (624) (13 * i + 1))) (115) (d (624) (13 * i + 2))) (97) (d (624) (13 * i + 3))) (108) (d (624) (13 * i + 4))) (98) (d (624) (13 * i + 5))) (d (624) (13 * i + 6))) (dgl ((d (624) (13 * i + 7 + 0))).toNatClampNeg)) (d (624) (13 * i + 10 + 0))) kw_528 kw_529 kw_530 kw_412 kw_527 rfl rfl hd_Mo_passVote ⟨Nat.le_of_ble_eq_true rfl, Nat.le_of_ble_eq_true rfl⟩ (As := [.int (psL (pvI (ppI (ppI (ppI (ppI (ppI (psI (x1) (d (624) (13 * i))) (116) (d (624) (13 * i + 1))) (115) (d (624) (13 * i + 2))) (97) (d (624) (13 * i + 3))) (108) (d (624) (13 * i + 4))) (98) (d (624) (13 * i + 5))) (d (624) (13 * i + 6))) (dgl ((d (624) (13 * i + 7 + 0))).toNatClampNeg)), .int (d (624) (13 * i + 10 + 0))]) (rest := []) rfl hl.1 rfl (Nat.le_of_ble_eq_true rfl) d_Mo_text_229 ⟨Nat.le_of_ble_eq_true rfl, Nat.le_of_ble_eq_true rfl⟩) hW (fun r d' H locs hp hW => ?_)
            obtain ⟨hp1, hp2⟩ := hp
            have hp1 := hp1.symm; subst hp1
            have hp2 := hp2.symm; subst hp2
            refine lv_istore (lv' := [(4, .int (pvI (psL (pvI (ppI (ppI (ppI (ppI (ppI (psI (x1) (d (624) (13 * i))) (116) (d (624) (13 * i + 1))) (115) (d (624) (13 * i + 2))) (97) (d (624) (13 * i + 3))) (108) (d (624) (13 * i + 4))) (98) (d (624) (13 * i + 5))) (d (624) (13 * i + 6))) (dgl ((d (624) (13 * i + 7 + 0))).toNatClampNeg)) (d (624) (13 * i + 10 + 0)))), (6, .int (d (624) (13 * i + 7 + 0))), (5, .int (0)), (3, .int (nI (13 * i))), (0, .ref (gad G (600))), (1, .int (nI i)), (2, .int (x1))]) hx hb d_Mo_text_232 hl (by decide) rfl (fun ls hl => ?_)
            refine lv_iinc (v := 1) (lv' := [(5, .int (1)), (4, .int (pvI (psL (pvI (ppI (ppI (ppI (ppI (ppI (psI (x1) (d (624) (13 * i))) (116) (d (624) (13 * i + 1))) (115) (d (624) (13 * i + 2))) (97) (d (624) (13 * i + 3))) (108) (d (624) (13 * i + 4))) (98) (d (624) (13 * i + 5))) (d (624) (13 * i + 6))) (dgl ((d (624) (13 * i + 7 + 0))).toNatClampNeg)) (d (624) (13 * i + 10 + 0)))), (6, .int (d (624) (13 * i + 7 + 0))), (3, .int (nI (13 * i))), (0, .ref (gad G (600))), (1, .int (nI i)), (2, .int (x1))]) hx hb d_Mo_text_234 hl (k := 2) rfl (by decide) (by decide) rfl (fun ls hl => ?_)
            refine lv_goto (tgt := 161) hx hb d_Mo_text_237 (by decide) ?_
            refine lv_iload hx hb d_Mo_text_161 (lv_at hl 0 rfl) ?_
            refine lv_iconst (v := 3) hx hb d_Mo_text_163 (by decide) ?_
            refine lv_icmp_ge (tgt := 240) hx hb d_Mo_text_164 (by decide) (fun c_7 => ?_) (fun c_7 => ?_)
            · exact absurd c_7 (by decide)
            · skip
              refine lv_aload_n hx hb d_Mo_text_167 rfl (lv_at hl 4 rfl) ?_
              refine e_get (v := .ref (gad G (624))) hx hb hts hown hK hW (F_Mo G hG) i_Mo rfl 24 (by decide) (hts _ kw_407) (fun _ h => h) rfl d_Mo_text_168 ?_
              refine lv_iload_n hx hb d_Mo_text_171 rfl (lv_at hl 3 rfl) ?_
              refine e_iald hx hb hK hW (F_Mnet G hG) (j := 13 * i) (by omega) (x := d (624) (13 * i)) ((up2_nc (by omega)).trans (rfl)) rfl d_Mo_text_172 ?_
              refine lv_bipush (v := 82) hx hb d_Mo_text_173 (by decide) ?_
              refine lv_icmp_ne (tgt := 240) hx hb d_Mo_text_175 (by decide) (fun c_8 => ?_) (fun c_8 => ?_)
              · skip
                exact absurd c_4 c_8
              · skip
                refine lv_aload_n hx hb d_Mo_text_178 rfl (lv_at hl 4 rfl) ?_
                refine e_get (v := .ref (gad G (624))) hx hb hts hown hK hW (F_Mo G hG) i_Mo rfl 24 (by decide) (hts _ kw_407) (fun _ h => h) rfl d_Mo_text_179 ?_
                refine lv_iload_n hx hb d_Mo_text_182 rfl (lv_at hl 3 rfl) ?_
                refine lv_bipush (v := 7) hx hb d_Mo_text_183 (by decide) ?_
                refine lv_iadd hx hb d_Mo_text_185 ?_
                refine e_top (v := nI (13 * i + 7)) (nI_add (13 * i) (7)) ?_
                refine lv_iload hx hb d_Mo_text_186 (lv_at hl 0 rfl) ?_
                refine lv_iadd hx hb d_Mo_text_188 ?_
                refine e_top (v := nI (13 * i + 7 + 1)) (nI_add (13 * i + 7) (1)) ?_
                refine e_iald hx hb hK hW (F_Mnet G hG) (j := 13 * i + 7 + 1) (by omega) (x := d (624) (13 * i + 7 + 1)) ((up2_nc (by omega)).trans (rfl)) rfl d_Mo_text_189 ?_
                refine lv_istore (lv' := [(6, .int (d (624) (13 * i + 7 + 1))), (5, .int (1)), (4, .int (pvI (psL (pvI (ppI (ppI (ppI (ppI (ppI (psI (x1) (d (624) (13 * i))) (116) (d (624) (13 * i + 1))) (115) (d (624) (13 * i + 2))) (97) (d (624) (13 * i + 3))) (108) (d (624) (13 * i + 4))) (98) (d (624) (13 * i + 5))) (d (624) (13 * i + 6))) (dgl ((d (624) (13 * i + 7 + 0))).toNatClampNeg)) (d (624) (13 * i + 10 + 0)))), (3, .int (nI (13 * i))), (0, .ref (gad G (600))), (1, .int (nI i)), (2, .int (x1))]) hx hb d_Mo_text_190 hl (by decide) rfl (fun ls hl => ?_)
                refine lv_iload hx hb d_Mo_text_192 (lv_at hl 0 rfl) ?_
                refine lv_if_ge (tgt := 208) hx hb d_Mo_text_194 (by decide) (fun c_9 => ?_) (fun c_9 => ?_)
                · skip
                  refine lv_aload_n hx hb d_Mo_text_208 rfl (lv_at hl 4 rfl) ?_
                  refine lv_aload_n hx hb d_Mo_text_209 rfl (lv_at hl 4 rfl) ?_
                  refine lv_iload hx hb d_Mo_text_210 (lv_at hl 2 rfl) ?_
                  refine lv_iload hx hb d_Mo_text_212 (lv_at hl 0 rfl) ?_
                  refine e_ci (e_runV hx hb hml hown hts hE hbs hW (F_Mo G hG) rfl (c_M_passNumber l G hG (up2 d (600) (0) (0)) (pvI (psL (pvI (ppI (ppI (ppI (ppI (ppI (psI (x1) (d (624) (13 * i))) (116) (d (624) (13 * i + 1))) (115) (d (624) (13 * i + 2))) (97) (d (624) (13 * i + 3))) (108) (d (624) (13 * i + 4))) (98) (d (624) (13 * i + 5))) (d (624) (13 * i + 6))) (dgl ((d (624) (13 * i + 7 + 0))).toNatClampNeg)) (d (624) (13 * i + 10 + 0))) (d (624) (13 * i + 7 + 1)) (nmB_pos (hb2 c_4 1 (by decide)) c_9)) kw_520 kw_521 kw_522 kw_412 kw_519 rfl rfl hd_Mo_passNumber ⟨Nat.le_of_ble_eq_true rfl, Nat.le_of_ble_eq_true rfl⟩ (As := [.int (pvI (psL (pvI (ppI (ppI (ppI (ppI (ppI (psI (x1) (d (624) (13 * i))) (116) (d (624) (13 * i + 1))) (115) (d (624) (13 * i + 2))) (97) (d (624) (13 * i + 3))) (108) (d (624) (13 * i + 4))) (98) (d (624) (13 * i + 5))) (d (624) (13 * i + 6))) (dgl ((d (624) (13 * i + 7 + 0))).toNatClampNeg)) (d (624) (13 * i + 10 + 0))), .int (d (624) (13 * i + 7 + 1))]) (rest := [.ref (gad G (600))]) rfl hl.1 rfl (Nat.le_of_ble_eq_true rfl) d_Mo_text_214 ⟨Nat.le_of_ble_eq_true rfl, Nat.le_of_ble_eq_true rfl⟩) hW (fun r d' H locs hp hW => ?_)
                  obtain ⟨hp1, hp2⟩ := hp
                  have hp1 := hp1.symm; subst hp1
                  have hp2 := hp2.symm; subst hp2
                  refine lv_aload_n hx hb d_Mo_text_217 rfl (lv_at hl 4 rfl) ?_
                  refine e_get (v := .ref (gad G (624))) hx hb hts hown hK hW (F_Mo G hG) i_Mo rfl 24 (by decide) (hts _ kw_407) (fun _ h => h) rfl d_Mo_text_218 ?_
                  refine lv_iload_n hx hb d_Mo_text_221 rfl (lv_at hl 3 rfl) ?_
                  refine lv_bipush (v := 10) hx hb d_Mo_text_222 (by decide) ?_
                  refine lv_iadd hx hb d_Mo_text_224 ?_
                  refine e_top (v := nI (13 * i + 10)) (nI_add (13 * i) (10)) ?_
                  refine lv_iload hx hb d_Mo_text_225 (lv_at hl 1 rfl) ?_
                  refine lv_iadd hx hb d_Mo_text_227 ?_
                  refine e_top (v := nI (13 * i + 10 + 1)) (nI_add (13 * i + 10) (1)) ?_
                  refine e_iald hx hb hK hW (F_Mnet G hG) (j := 13 * i + 10 + 1) (by omega) (x := d (624) (13 * i + 10 + 1)) ((up2_nc (by omega)).trans (rfl)) rfl d_Mo_text_228 ?_
                  refine e_ci (e_runV hx hb hml hown hts hE hbs hW (F_Mo G hG) rfl (c_M_passVote l G hG (up2 d (600) (0) (0)) (psL (pvI (psL (pvI (ppI (ppI (ppI (ppI (ppI (psI (x1) (d (624) (13 * i))) (116) (d (624) (13 * i + 1))) (115) (d (624) (13 * i + 2))) (97) (d (624) (13 * i + 3))) (108) (d (624) (13 * i + 4))) (98) (d (624) (13 * i + 5))) (d (624) (13 * i + 6))) (dgl ((d (624) (13 * i + 7 + 0))).toNatClampNeg)) (d (624) (13 * i + 10 + 0))) (dgl ((d (624) (13 * i + 7 + 1))).toNatClampNeg)) (d (624) (13 * i + 10 + 1))) kw_528 kw_529 kw_530 kw_412 kw_527 rfl rfl hd_Mo_passVote ⟨Nat.le_of_ble_eq_true rfl, Nat.le_of_ble_eq_true rfl⟩ (As := [.int (psL (pvI (psL (pvI (ppI (ppI (ppI (ppI (ppI (psI (x1) (d (624) (13 * i))) (116) (d (624) (13 * i + 1))) (115) (d (624) (13 * i + 2))) (97) (d (624) (13 * i + 3))) (108) (d (624) (13 * i + 4))) (98) (d (624) (13 * i + 5))) (d (624) (13 * i + 6))) (dgl ((d (624) (13 * i + 7 + 0))).toNatClampNeg)) (d (624) (13 * i + 10 + 0))) (dgl ((d (624) (13 * i + 7 + 1))).toNatClampNeg)), .int (d (624) (13 * i + 10 + 1))]) (rest := []) rfl hl.1 rfl (Nat.le_of_ble_eq_true rfl) d_Mo_text_229 ⟨Nat.le_of_ble_eq_true rfl, Nat.le_of_ble_eq_true rfl⟩) hW (fun r d' H locs hp hW => ?_)
                  obtain ⟨hp1, hp2⟩ := hp
                  have hp1 := hp1.symm; subst hp1
                  have hp2 := hp2.symm; subst hp2
                  refine lv_istore (lv' := [(4, .int (pvI (psL (pvI (psL (pvI (ppI (ppI (ppI (ppI (ppI (psI (x1) (d (624) (13 * i))) (116) (d (624) (13 * i + 1))) (115) (d (624) (13 * i + 2))) (97) (d (624) (13 * i + 3))) (108) (d (624) (13 * i + 4))) (98) (d (624) (13 * i + 5))) (d (624) (13 * i + 6))) (dgl ((d (624) (13 * i + 7 + 0))).toNatClampNeg)) (d (624) (13 * i + 10 + 0))) (dgl ((d (624) (13 * i + 7 + 1))).toNatClampNeg)) (d (624) (13 * i + 10 + 1)))), (6, .int (d (624) (13 * i + 7 + 1))), (5, .int (1)), (3, .int (nI (13 * i))), (0, .ref (gad G (600))), (1, .int (nI i)), (2, .int (x1))]) hx hb d_Mo_text_232 hl (by decide) rfl (fun ls hl => ?_)
                  refine lv_iinc (v := 2) (lv' := [(5, .int (2)), (4, .int (pvI (psL (pvI (psL (pvI (ppI (ppI (ppI (ppI (ppI (psI (x1) (d (624) (13 * i))) (116) (d (624) (13 * i + 1))) (115) (d (624) (13 * i + 2))) (97) (d (624) (13 * i + 3))) (108) (d (624) (13 * i + 4))) (98) (d (624) (13 * i + 5))) (d (624) (13 * i + 6))) (dgl ((d (624) (13 * i + 7 + 0))).toNatClampNeg)) (d (624) (13 * i + 10 + 0))) (dgl ((d (624) (13 * i + 7 + 1))).toNatClampNeg)) (d (624) (13 * i + 10 + 1)))), (6, .int (d (624) (13 * i + 7 + 1))), (3, .int (nI (13 * i))), (0, .ref (gad G (600))), (1, .int (nI i)), (2, .int (x1))]) hx hb d_Mo_text_234 hl (k := 2) rfl (by decide) (by decide) rfl (fun ls hl => ?_)
                  refine lv_goto (tgt := 161) hx hb d_Mo_text_237 (by decide) ?_
                  refine lv_iload hx hb d_Mo_text_161 (lv_at hl 0 rfl) ?_
                  refine lv_iconst (v := 3) hx hb d_Mo_text_163 (by decide) ?_
                  refine lv_icmp_ge (tgt := 240) hx hb d_Mo_text_164 (by decide) (fun c_10 => ?_) (fun c_10 => ?_)
                  · exact absurd c_10 (by decide)
                  · skip
                    refine lv_aload_n hx hb d_Mo_text_167 rfl (lv_at hl 4 rfl) ?_
                    refine e_get (v := .ref (gad G (624))) hx hb hts hown hK hW (F_Mo G hG) i_Mo rfl 24 (by decide) (hts _ kw_407) (fun _ h => h) rfl d_Mo_text_168 ?_
                    refine lv_iload_n hx hb d_Mo_text_171 rfl (lv_at hl 3 rfl) ?_
                    refine e_iald hx hb hK hW (F_Mnet G hG) (j := 13 * i) (by omega) (x := d (624) (13 * i)) ((up2_nc (by omega)).trans (rfl)) rfl d_Mo_text_172 ?_
                    refine lv_bipush (v := 82) hx hb d_Mo_text_173 (by decide) ?_
                    refine lv_icmp_ne (tgt := 240) hx hb d_Mo_text_175 (by decide) (fun c_11 => ?_) (fun c_11 => ?_)
                    · skip
                      exact absurd c_4 c_11
                    · skip
                      refine lv_aload_n hx hb d_Mo_text_178 rfl (lv_at hl 4 rfl) ?_
                      refine e_get (v := .ref (gad G (624))) hx hb hts hown hK hW (F_Mo G hG) i_Mo rfl 24 (by decide) (hts _ kw_407) (fun _ h => h) rfl d_Mo_text_179 ?_
                      refine lv_iload_n hx hb d_Mo_text_182 rfl (lv_at hl 3 rfl) ?_
                      refine lv_bipush (v := 7) hx hb d_Mo_text_183 (by decide) ?_
                      refine lv_iadd hx hb d_Mo_text_185 ?_
                      refine e_top (v := nI (13 * i + 7)) (nI_add (13 * i) (7)) ?_
                      refine lv_iload hx hb d_Mo_text_186 (lv_at hl 0 rfl) ?_
                      refine lv_iadd hx hb d_Mo_text_188 ?_
                      refine e_top (v := nI (13 * i + 7 + 2)) (nI_add (13 * i + 7) (2)) ?_
                      refine e_iald hx hb hK hW (F_Mnet G hG) (j := 13 * i + 7 + 2) (by omega) (x := d (624) (13 * i + 7 + 2)) ((up2_nc (by omega)).trans (rfl)) rfl d_Mo_text_189 ?_
                      refine lv_istore (lv' := [(6, .int (d (624) (13 * i + 7 + 2))), (5, .int (2)), (4, .int (pvI (psL (pvI (psL (pvI (ppI (ppI (ppI (ppI (ppI (psI (x1) (d (624) (13 * i))) (116) (d (624) (13 * i + 1))) (115) (d (624) (13 * i + 2))) (97) (d (624) (13 * i + 3))) (108) (d (624) (13 * i + 4))) (98) (d (624) (13 * i + 5))) (d (624) (13 * i + 6))) (dgl ((d (624) (13 * i + 7 + 0))).toNatClampNeg)) (d (624) (13 * i + 10 + 0))) (dgl ((d (624) (13 * i + 7 + 1))).toNatClampNeg)) (d (624) (13 * i + 10 + 1)))), (3, .int (nI (13 * i))), (0, .ref (gad G (600))), (1, .int (nI i)), (2, .int (x1))]) hx hb d_Mo_text_190 hl (by decide) rfl (fun ls hl => ?_)
                      refine lv_iload hx hb d_Mo_text_192 (lv_at hl 0 rfl) ?_
                      refine lv_if_ge (tgt := 208) hx hb d_Mo_text_194 (by decide) (fun c_12 => ?_) (fun c_12 => ?_)
                      · skip
                        refine lv_aload_n hx hb d_Mo_text_208 rfl (lv_at hl 4 rfl) ?_
                        refine lv_aload_n hx hb d_Mo_text_209 rfl (lv_at hl 4 rfl) ?_
                        refine lv_iload hx hb d_Mo_text_210 (lv_at hl 2 rfl) ?_
                        refine lv_iload hx hb d_Mo_text_212 (lv_at hl 0 rfl) ?_
                        refine e_ci (e_runV hx hb hml hown hts hE hbs hW (F_Mo G hG) rfl (c_M_passNumber l G hG (up2 d (600) (0) (0)) (pvI (psL (pvI (psL (pvI (ppI (ppI (ppI (ppI (ppI (psI (x1) (d (624) (13 * i))) (116) (d (624) (13 * i + 1))) (115) (d (624) (13 * i + 2))) (97) (d (624) (13 * i + 3))) (108) (d (624) (13 * i + 4))) (98) (d (624) (13 * i + 5))) (d (624) (13 * i + 6))) (dgl ((d (624) (13 * i + 7 + 0))).toNatClampNeg)) (d (624) (13 * i + 10 + 0))) (dgl ((d (624) (13 * i + 7 + 1))).toNatClampNeg)) (d (624) (13 * i + 10 + 1))) (d (624) (13 * i + 7 + 2)) (nmB_pos (hb2 c_4 2 (by decide)) c_12)) kw_520 kw_521 kw_522 kw_412 kw_519 rfl rfl hd_Mo_passNumber ⟨Nat.le_of_ble_eq_true rfl, Nat.le_of_ble_eq_true rfl⟩ (As := [.int (pvI (psL (pvI (psL (pvI (ppI (ppI (ppI (ppI (ppI (psI (x1) (d (624) (13 * i))) (116) (d (624) (13 * i + 1))) (115) (d (624) (13 * i + 2))) (97) (d (624) (13 * i + 3))) (108) (d (624) (13 * i + 4))) (98) (d (624) (13 * i + 5))) (d (624) (13 * i + 6))) (dgl ((d (624) (13 * i + 7 + 0))).toNatClampNeg)) (d (624) (13 * i + 10 + 0))) (dgl ((d (624) (13 * i + 7 + 1))).toNatClampNeg)) (d (624) (13 * i + 10 + 1))), .int (d (624) (13 * i + 7 + 2))]) (rest := [.ref (gad G (600))]) rfl hl.1 rfl (Nat.le_of_ble_eq_true rfl) d_Mo_text_214 ⟨Nat.le_of_ble_eq_true rfl, Nat.le_of_ble_eq_true rfl⟩) hW (fun r d' H locs hp hW => ?_)
                        obtain ⟨hp1, hp2⟩ := hp
                        have hp1 := hp1.symm; subst hp1
                        have hp2 := hp2.symm; subst hp2
                        refine lv_aload_n hx hb d_Mo_text_217 rfl (lv_at hl 4 rfl) ?_
                        refine e_get (v := .ref (gad G (624))) hx hb hts hown hK hW (F_Mo G hG) i_Mo rfl 24 (by decide) (hts _ kw_407) (fun _ h => h) rfl d_Mo_text_218 ?_
                        refine lv_iload_n hx hb d_Mo_text_221 rfl (lv_at hl 3 rfl) ?_
                        refine lv_bipush (v := 10) hx hb d_Mo_text_222 (by decide) ?_
                        refine lv_iadd hx hb d_Mo_text_224 ?_
                        refine e_top (v := nI (13 * i + 10)) (nI_add (13 * i) (10)) ?_
                        refine lv_iload hx hb d_Mo_text_225 (lv_at hl 1 rfl) ?_
                        refine lv_iadd hx hb d_Mo_text_227 ?_
                        refine e_top (v := nI (13 * i + 10 + 2)) (nI_add (13 * i + 10) (2)) ?_
                        refine e_iald hx hb hK hW (F_Mnet G hG) (j := 13 * i + 10 + 2) (by omega) (x := d (624) (13 * i + 10 + 2)) ((up2_nc (by omega)).trans (rfl)) rfl d_Mo_text_228 ?_
                        refine e_ci (e_runV hx hb hml hown hts hE hbs hW (F_Mo G hG) rfl (c_M_passVote l G hG (up2 d (600) (0) (0)) (psL (pvI (psL (pvI (psL (pvI (ppI (ppI (ppI (ppI (ppI (psI (x1) (d (624) (13 * i))) (116) (d (624) (13 * i + 1))) (115) (d (624) (13 * i + 2))) (97) (d (624) (13 * i + 3))) (108) (d (624) (13 * i + 4))) (98) (d (624) (13 * i + 5))) (d (624) (13 * i + 6))) (dgl ((d (624) (13 * i + 7 + 0))).toNatClampNeg)) (d (624) (13 * i + 10 + 0))) (dgl ((d (624) (13 * i + 7 + 1))).toNatClampNeg)) (d (624) (13 * i + 10 + 1))) (dgl ((d (624) (13 * i + 7 + 2))).toNatClampNeg)) (d (624) (13 * i + 10 + 2))) kw_528 kw_529 kw_530 kw_412 kw_527 rfl rfl hd_Mo_passVote ⟨Nat.le_of_ble_eq_true rfl, Nat.le_of_ble_eq_true rfl⟩ (As := [.int (psL (pvI (psL (pvI (psL (pvI (ppI (ppI (ppI (ppI (ppI (psI (x1) (d (624) (13 * i))) (116) (d (624) (13 * i + 1))) (115) (d (624) (13 * i + 2))) (97) (d (624) (13 * i + 3))) (108) (d (624) (13 * i + 4))) (98) (d (624) (13 * i + 5))) (d (624) (13 * i + 6))) (dgl ((d (624) (13 * i + 7 + 0))).toNatClampNeg)) (d (624) (13 * i + 10 + 0))) (dgl ((d (624) (13 * i + 7 + 1))).toNatClampNeg)) (d (624) (13 * i + 10 + 1))) (dgl ((d (624) (13 * i + 7 + 2))).toNatClampNeg)), .int (d (624) (13 * i + 10 + 2))]) (rest := []) rfl hl.1 rfl (Nat.le_of_ble_eq_true rfl) d_Mo_text_229 ⟨Nat.le_of_ble_eq_true rfl, Nat.le_of_ble_eq_true rfl⟩) hW (fun r d' H locs hp hW => ?_)
                        obtain ⟨hp1, hp2⟩ := hp
                        have hp1 := hp1.symm; subst hp1
                        have hp2 := hp2.symm; subst hp2
                        refine lv_istore (lv' := [(4, .int (pvI (psL (pvI (psL (pvI (psL (pvI (ppI (ppI (ppI (ppI (ppI (psI (x1) (d (624) (13 * i))) (116) (d (624) (13 * i + 1))) (115) (d (624) (13 * i + 2))) (97) (d (624) (13 * i + 3))) (108) (d (624) (13 * i + 4))) (98) (d (624) (13 * i + 5))) (d (624) (13 * i + 6))) (dgl ((d (624) (13 * i + 7 + 0))).toNatClampNeg)) (d (624) (13 * i + 10 + 0))) (dgl ((d (624) (13 * i + 7 + 1))).toNatClampNeg)) (d (624) (13 * i + 10 + 1))) (dgl ((d (624) (13 * i + 7 + 2))).toNatClampNeg)) (d (624) (13 * i + 10 + 2)))), (6, .int (d (624) (13 * i + 7 + 2))), (5, .int (2)), (3, .int (nI (13 * i))), (0, .ref (gad G (600))), (1, .int (nI i)), (2, .int (x1))]) hx hb d_Mo_text_232 hl (by decide) rfl (fun ls hl => ?_)
                        refine lv_iinc (v := 3) (lv' := [(5, .int (3)), (4, .int (pvI (psL (pvI (psL (pvI (psL (pvI (ppI (ppI (ppI (ppI (ppI (psI (x1) (d (624) (13 * i))) (116) (d (624) (13 * i + 1))) (115) (d (624) (13 * i + 2))) (97) (d (624) (13 * i + 3))) (108) (d (624) (13 * i + 4))) (98) (d (624) (13 * i + 5))) (d (624) (13 * i + 6))) (dgl ((d (624) (13 * i + 7 + 0))).toNatClampNeg)) (d (624) (13 * i + 10 + 0))) (dgl ((d (624) (13 * i + 7 + 1))).toNatClampNeg)) (d (624) (13 * i + 10 + 1))) (dgl ((d (624) (13 * i + 7 + 2))).toNatClampNeg)) (d (624) (13 * i + 10 + 2)))), (6, .int (d (624) (13 * i + 7 + 2))), (3, .int (nI (13 * i))), (0, .ref (gad G (600))), (1, .int (nI i)), (2, .int (x1))]) hx hb d_Mo_text_234 hl (k := 2) rfl (by decide) (by decide) rfl (fun ls hl => ?_)
                        refine lv_goto (tgt := 161) hx hb d_Mo_text_237 (by decide) ?_
                        refine lv_iload hx hb d_Mo_text_161 (lv_at hl 0 rfl) ?_
                        refine lv_iconst (v := 3) hx hb d_Mo_text_163 (by decide) ?_
                        refine lv_icmp_ge (tgt := 240) hx hb d_Mo_text_164 (by decide) (fun c_13 => ?_) (fun c_13 => ?_)
                        · skip
                          refine lv_iload hx hb d_Mo_text_240 (lv_at hl 1 rfl) ?_
                          refine lv_if_ge (tgt := 253) hx hb d_Mo_text_242 (by decide) (fun c_14 => ?_) (fun c_14 => ?_)
                          · skip
                            refine lv_iconst (v := -1) hx hb d_Mo_text_253 (by decide) ?_
                            have e9 : mR_text d i x1 = -1 := by
                              unfold mR_text peI pyI; rw [if_pos c_4]; unfold prI; rw [if_pos c_6, if_pos c_9, if_pos c_12]; exact if_pos c_14
                            exact e_iret hx hb hr hlk hW (mq_ok (by unfold mC_text; rw [fz, if_pos c_1, if_pos c_2]) (by simp only [cl_nI (show i < 2147483648 by omega)]; exact e9.symm) (by exact rfl)) (Nat.zero_le _) (Nat.zero_le _) d_Mo_text_254
                          · skip
                            refine lv_iload hx hb d_Mo_text_245 (lv_at hl 1 rfl) ?_
                            refine lv_ineg hx hb d_Mo_text_247 ?_
                            refine lv_iconst (v := 1) hx hb d_Mo_text_248 (by decide) ?_
                            refine lv_isub hx hb d_Mo_text_249 ?_
                            refine lv_goto (tgt := 254) hx hb d_Mo_text_250 (by decide) ?_
                            have e9 : mR_text d i x1 = (-(pvI (psL (pvI (psL (pvI (psL (pvI (ppI (ppI (ppI (ppI (ppI (psI (x1) (d (624) (13 * i))) (116) (d (624) (13 * i + 1))) (115) (d (624) (13 * i + 2))) (97) (d (624) (13 * i + 3))) (108) (d (624) (13 * i + 4))) (98) (d (624) (13 * i + 5))) (d (624) (13 * i + 6))) (dgl ((d (624) (13 * i + 7 + 0))).toNatClampNeg)) (d (624) (13 * i + 10 + 0))) (dgl ((d (624) (13 * i + 7 + 1))).toNatClampNeg)) (d (624) (13 * i + 10 + 1))) (dgl ((d (624) (13 * i + 7 + 2))).toNatClampNeg)) (d (624) (13 * i + 10 + 2)))) - (1) := by
                              unfold mR_text peI pyI; rw [if_pos c_4]; unfold prI; rw [if_pos c_6, if_pos c_9, if_pos c_12]; exact if_neg c_14
                            exact e_iret hx hb hr hlk hW (mq_ok (by unfold mC_text; rw [fz, if_pos c_1, if_pos c_2]) (by simp only [cl_nI (show i < 2147483648 by omega)]; exact e9.symm) (by exact rfl)) (Nat.zero_le _) (Nat.zero_le _) d_Mo_text_254
                        · exact absurd c_13 (by decide)
                      · skip
                        refine lv_aload_n hx hb d_Mo_text_197 rfl (lv_at hl 4 rfl) ?_
                        refine lv_iload hx hb d_Mo_text_198 (lv_at hl 2 rfl) ?_
                        refine lv_bipush (v := 45) hx hb d_Mo_text_200 (by decide) ?_
                        refine e_ci (e_runV hx hb hml hown hts hE hbs hW (F_Mo G hG) rfl (c_M_pass l G hG (up2 d (600) (0) (0)) (pvI (psL (pvI (psL (pvI (ppI (ppI (ppI (ppI (ppI (psI (x1) (d (624) (13 * i))) (116) (d (624) (13 * i + 1))) (115) (d (624) (13 * i + 2))) (97) (d (624) (13 * i + 3))) (108) (d (624) (13 * i + 4))) (98) (d (624) (13 * i + 5))) (d (624) (13 * i + 6))) (dgl ((d (624) (13 * i + 7 + 0))).toNatClampNeg)) (d (624) (13 * i + 10 + 0))) (dgl ((d (624) (13 * i + 7 + 1))).toNatClampNeg)) (d (624) (13 * i + 10 + 1))) (45)) kw_516 kw_517 kw_518 kw_412 kw_515 rfl rfl hd_Mo_pass ⟨Nat.le_of_ble_eq_true rfl, Nat.le_of_ble_eq_true rfl⟩ (As := [.int (pvI (psL (pvI (psL (pvI (ppI (ppI (ppI (ppI (ppI (psI (x1) (d (624) (13 * i))) (116) (d (624) (13 * i + 1))) (115) (d (624) (13 * i + 2))) (97) (d (624) (13 * i + 3))) (108) (d (624) (13 * i + 4))) (98) (d (624) (13 * i + 5))) (d (624) (13 * i + 6))) (dgl ((d (624) (13 * i + 7 + 0))).toNatClampNeg)) (d (624) (13 * i + 10 + 0))) (dgl ((d (624) (13 * i + 7 + 1))).toNatClampNeg)) (d (624) (13 * i + 10 + 1))), .int (45)]) (rest := []) rfl hl.1 rfl (Nat.le_of_ble_eq_true rfl) d_Mo_text_202 ⟨Nat.le_of_ble_eq_true rfl, Nat.le_of_ble_eq_true rfl⟩) hW (fun r d' H locs hp hW => ?_)
                        obtain ⟨hp1, hp2⟩ := hp
                        have hp1 := hp1.symm; subst hp1
                        have hp2 := hp2.symm; subst hp2
                        refine lv_goto (tgt := 232) hx hb d_Mo_text_205 (by decide) ?_
                        refine lv_istore (lv' := [(4, .int (psI (pvI (psL (pvI (psL (pvI (ppI (ppI (ppI (ppI (ppI (psI (x1) (d (624) (13 * i))) (116) (d (624) (13 * i + 1))) (115) (d (624) (13 * i + 2))) (97) (d (624) (13 * i + 3))) (108) (d (624) (13 * i + 4))) (98) (d (624) (13 * i + 5))) (d (624) (13 * i + 6))) (dgl ((d (624) (13 * i + 7 + 0))).toNatClampNeg)) (d (624) (13 * i + 10 + 0))) (dgl ((d (624) (13 * i + 7 + 1))).toNatClampNeg)) (d (624) (13 * i + 10 + 1))) (45))), (6, .int (d (624) (13 * i + 7 + 2))), (5, .int (2)), (3, .int (nI (13 * i))), (0, .ref (gad G (600))), (1, .int (nI i)), (2, .int (x1))]) hx hb d_Mo_text_232 hl (by decide) rfl (fun ls hl => ?_)
                        refine lv_iinc (v := 3) (lv' := [(5, .int (3)), (4, .int (psI (pvI (psL (pvI (psL (pvI (ppI (ppI (ppI (ppI (ppI (psI (x1) (d (624) (13 * i))) (116) (d (624) (13 * i + 1))) (115) (d (624) (13 * i + 2))) (97) (d (624) (13 * i + 3))) (108) (d (624) (13 * i + 4))) (98) (d (624) (13 * i + 5))) (d (624) (13 * i + 6))) (dgl ((d (624) (13 * i + 7 + 0))).toNatClampNeg)) (d (624) (13 * i + 10 + 0))) (dgl ((d (624) (13 * i + 7 + 1))).toNatClampNeg)) (d (624) (13 * i + 10 + 1))) (45))), (6, .int (d (624) (13 * i + 7 + 2))), (3, .int (nI (13 * i))), (0, .ref (gad G (600))), (1, .int (nI i)), (2, .int (x1))]) hx hb d_Mo_text_234 hl (k := 2) rfl (by decide) (by decide) rfl (fun ls hl => ?_)
                        refine lv_goto (tgt := 161) hx hb d_Mo_text_237 (by decide) ?_
                        refine lv_iload hx hb d_Mo_text_161 (lv_at hl 0 rfl) ?_
                        refine lv_iconst (v := 3) hx hb d_Mo_text_163 (by decide) ?_
                        refine lv_icmp_ge (tgt := 240) hx hb d_Mo_text_164 (by decide) (fun c_15 => ?_) (fun c_15 => ?_)
                        · skip
                          refine lv_iload hx hb d_Mo_text_240 (lv_at hl 1 rfl) ?_
                          refine lv_if_ge (tgt := 253) hx hb d_Mo_text_242 (by decide) (fun c_16 => ?_) (fun c_16 => ?_)
                          · skip
                            refine lv_iconst (v := -1) hx hb d_Mo_text_253 (by decide) ?_
                            have e9 : mR_text d i x1 = -1 := by
                              unfold mR_text peI pyI; rw [if_pos c_4]; unfold prI; rw [if_pos c_6, if_pos c_9, if_neg c_12]; exact if_pos c_16
                            exact e_iret hx hb hr hlk hW (mq_ok (by unfold mC_text; rw [fz, if_pos c_1, if_pos c_2]) (by simp only [cl_nI (show i < 2147483648 by omega)]; exact e9.symm) (by exact rfl)) (Nat.zero_le _) (Nat.zero_le _) d_Mo_text_254
                          · skip
                            refine lv_iload hx hb d_Mo_text_245 (lv_at hl 1 rfl) ?_
                            refine lv_ineg hx hb d_Mo_text_247 ?_
                            refine lv_iconst (v := 1) hx hb d_Mo_text_248 (by decide) ?_
                            refine lv_isub hx hb d_Mo_text_249 ?_
                            refine lv_goto (tgt := 254) hx hb d_Mo_text_250 (by decide) ?_
                            have e9 : mR_text d i x1 = (-(psI (pvI (psL (pvI (psL (pvI (ppI (ppI (ppI (ppI (ppI (psI (x1) (d (624) (13 * i))) (116) (d (624) (13 * i + 1))) (115) (d (624) (13 * i + 2))) (97) (d (624) (13 * i + 3))) (108) (d (624) (13 * i + 4))) (98) (d (624) (13 * i + 5))) (d (624) (13 * i + 6))) (dgl ((d (624) (13 * i + 7 + 0))).toNatClampNeg)) (d (624) (13 * i + 10 + 0))) (dgl ((d (624) (13 * i + 7 + 1))).toNatClampNeg)) (d (624) (13 * i + 10 + 1))) (45))) - (1) := by
                              unfold mR_text peI pyI; rw [if_pos c_4]; unfold prI; rw [if_pos c_6, if_pos c_9, if_neg c_12]; exact if_neg c_16
                            exact e_iret hx hb hr hlk hW (mq_ok (by unfold mC_text; rw [fz, if_pos c_1, if_pos c_2]) (by simp only [cl_nI (show i < 2147483648 by omega)]; exact e9.symm) (by exact rfl)) (Nat.zero_le _) (Nat.zero_le _) d_Mo_text_254
                        · exact absurd c_15 (by decide)
                · skip
                  refine lv_aload_n hx hb d_Mo_text_197 rfl (lv_at hl 4 rfl) ?_
                  refine lv_iload hx hb d_Mo_text_198 (lv_at hl 2 rfl) ?_
                  refine lv_bipush (v := 45) hx hb d_Mo_text_200 (by decide) ?_
                  refine e_ci (e_runV hx hb hml hown hts hE hbs hW (F_Mo G hG) rfl (c_M_pass l G hG (up2 d (600) (0) (0)) (pvI (psL (pvI (ppI (ppI (ppI (ppI (ppI (psI (x1) (d (624) (13 * i))) (116) (d (624) (13 * i + 1))) (115) (d (624) (13 * i + 2))) (97) (d (624) (13 * i + 3))) (108) (d (624) (13 * i + 4))) (98) (d (624) (13 * i + 5))) (d (624) (13 * i + 6))) (dgl ((d (624) (13 * i + 7 + 0))).toNatClampNeg)) (d (624) (13 * i + 10 + 0))) (45)) kw_516 kw_517 kw_518 kw_412 kw_515 rfl rfl hd_Mo_pass ⟨Nat.le_of_ble_eq_true rfl, Nat.le_of_ble_eq_true rfl⟩ (As := [.int (pvI (psL (pvI (ppI (ppI (ppI (ppI (ppI (psI (x1) (d (624) (13 * i))) (116) (d (624) (13 * i + 1))) (115) (d (624) (13 * i + 2))) (97) (d (624) (13 * i + 3))) (108) (d (624) (13 * i + 4))) (98) (d (624) (13 * i + 5))) (d (624) (13 * i + 6))) (dgl ((d (624) (13 * i + 7 + 0))).toNatClampNeg)) (d (624) (13 * i + 10 + 0))), .int (45)]) (rest := []) rfl hl.1 rfl (Nat.le_of_ble_eq_true rfl) d_Mo_text_202 ⟨Nat.le_of_ble_eq_true rfl, Nat.le_of_ble_eq_true rfl⟩) hW (fun r d' H locs hp hW => ?_)
                  obtain ⟨hp1, hp2⟩ := hp
                  have hp1 := hp1.symm; subst hp1
                  have hp2 := hp2.symm; subst hp2
                  refine lv_goto (tgt := 232) hx hb d_Mo_text_205 (by decide) ?_
                  refine lv_istore (lv' := [(4, .int (psI (pvI (psL (pvI (ppI (ppI (ppI (ppI (ppI (psI (x1) (d (624) (13 * i))) (116) (d (624) (13 * i + 1))) (115) (d (624) (13 * i + 2))) (97) (d (624) (13 * i + 3))) (108) (d (624) (13 * i + 4))) (98) (d (624) (13 * i + 5))) (d (624) (13 * i + 6))) (dgl ((d (624) (13 * i + 7 + 0))).toNatClampNeg)) (d (624) (13 * i + 10 + 0))) (45))), (6, .int (d (624) (13 * i + 7 + 1))), (5, .int (1)), (3, .int (nI (13 * i))), (0, .ref (gad G (600))), (1, .int (nI i)), (2, .int (x1))]) hx hb d_Mo_text_232 hl (by decide) rfl (fun ls hl => ?_)
                  refine lv_iinc (v := 2) (lv' := [(5, .int (2)), (4, .int (psI (pvI (psL (pvI (ppI (ppI (ppI (ppI (ppI (psI (x1) (d (624) (13 * i))) (116) (d (624) (13 * i + 1))) (115) (d (624) (13 * i + 2))) (97) (d (624) (13 * i + 3))) (108) (d (624) (13 * i + 4))) (98) (d (624) (13 * i + 5))) (d (624) (13 * i + 6))) (dgl ((d (624) (13 * i + 7 + 0))).toNatClampNeg)) (d (624) (13 * i + 10 + 0))) (45))), (6, .int (d (624) (13 * i + 7 + 1))), (3, .int (nI (13 * i))), (0, .ref (gad G (600))), (1, .int (nI i)), (2, .int (x1))]) hx hb d_Mo_text_234 hl (k := 2) rfl (by decide) (by decide) rfl (fun ls hl => ?_)
                  refine lv_goto (tgt := 161) hx hb d_Mo_text_237 (by decide) ?_
                  refine lv_iload hx hb d_Mo_text_161 (lv_at hl 0 rfl) ?_
                  refine lv_iconst (v := 3) hx hb d_Mo_text_163 (by decide) ?_
                  refine lv_icmp_ge (tgt := 240) hx hb d_Mo_text_164 (by decide) (fun c_17 => ?_) (fun c_17 => ?_)
                  · exact absurd c_17 (by decide)
                  · skip
                    refine lv_aload_n hx hb d_Mo_text_167 rfl (lv_at hl 4 rfl) ?_
                    refine e_get (v := .ref (gad G (624))) hx hb hts hown hK hW (F_Mo G hG) i_Mo rfl 24 (by decide) (hts _ kw_407) (fun _ h => h) rfl d_Mo_text_168 ?_
                    refine lv_iload_n hx hb d_Mo_text_171 rfl (lv_at hl 3 rfl) ?_
                    refine e_iald hx hb hK hW (F_Mnet G hG) (j := 13 * i) (by omega) (x := d (624) (13 * i)) ((up2_nc (by omega)).trans (rfl)) rfl d_Mo_text_172 ?_
                    refine lv_bipush (v := 82) hx hb d_Mo_text_173 (by decide) ?_
                    refine lv_icmp_ne (tgt := 240) hx hb d_Mo_text_175 (by decide) (fun c_18 => ?_) (fun c_18 => ?_)
                    · skip
                      exact absurd c_4 c_18
                    · skip
                      refine lv_aload_n hx hb d_Mo_text_178 rfl (lv_at hl 4 rfl) ?_
                      refine e_get (v := .ref (gad G (624))) hx hb hts hown hK hW (F_Mo G hG) i_Mo rfl 24 (by decide) (hts _ kw_407) (fun _ h => h) rfl d_Mo_text_179 ?_
                      refine lv_iload_n hx hb d_Mo_text_182 rfl (lv_at hl 3 rfl) ?_
                      refine lv_bipush (v := 7) hx hb d_Mo_text_183 (by decide) ?_
                      refine lv_iadd hx hb d_Mo_text_185 ?_
                      refine e_top (v := nI (13 * i + 7)) (nI_add (13 * i) (7)) ?_
                      refine lv_iload hx hb d_Mo_text_186 (lv_at hl 0 rfl) ?_
                      refine lv_iadd hx hb d_Mo_text_188 ?_
                      refine e_top (v := nI (13 * i + 7 + 2)) (nI_add (13 * i + 7) (2)) ?_
                      refine e_iald hx hb hK hW (F_Mnet G hG) (j := 13 * i + 7 + 2) (by omega) (x := d (624) (13 * i + 7 + 2)) ((up2_nc (by omega)).trans (rfl)) rfl d_Mo_text_189 ?_
                      refine lv_istore (lv' := [(6, .int (d (624) (13 * i + 7 + 2))), (5, .int (2)), (4, .int (psI (pvI (psL (pvI (ppI (ppI (ppI (ppI (ppI (psI (x1) (d (624) (13 * i))) (116) (d (624) (13 * i + 1))) (115) (d (624) (13 * i + 2))) (97) (d (624) (13 * i + 3))) (108) (d (624) (13 * i + 4))) (98) (d (624) (13 * i + 5))) (d (624) (13 * i + 6))) (dgl ((d (624) (13 * i + 7 + 0))).toNatClampNeg)) (d (624) (13 * i + 10 + 0))) (45))), (3, .int (nI (13 * i))), (0, .ref (gad G (600))), (1, .int (nI i)), (2, .int (x1))]) hx hb d_Mo_text_190 hl (by decide) rfl (fun ls hl => ?_)
                      refine lv_iload hx hb d_Mo_text_192 (lv_at hl 0 rfl) ?_
                      refine lv_if_ge (tgt := 208) hx hb d_Mo_text_194 (by decide) (fun c_19 => ?_) (fun c_19 => ?_)
                      · skip
                        refine lv_aload_n hx hb d_Mo_text_208 rfl (lv_at hl 4 rfl) ?_
                        refine lv_aload_n hx hb d_Mo_text_209 rfl (lv_at hl 4 rfl) ?_
                        refine lv_iload hx hb d_Mo_text_210 (lv_at hl 2 rfl) ?_
                        refine lv_iload hx hb d_Mo_text_212 (lv_at hl 0 rfl) ?_
                        refine e_ci (e_runV hx hb hml hown hts hE hbs hW (F_Mo G hG) rfl (c_M_passNumber l G hG (up2 d (600) (0) (0)) (psI (pvI (psL (pvI (ppI (ppI (ppI (ppI (ppI (psI (x1) (d (624) (13 * i))) (116) (d (624) (13 * i + 1))) (115) (d (624) (13 * i + 2))) (97) (d (624) (13 * i + 3))) (108) (d (624) (13 * i + 4))) (98) (d (624) (13 * i + 5))) (d (624) (13 * i + 6))) (dgl ((d (624) (13 * i + 7 + 0))).toNatClampNeg)) (d (624) (13 * i + 10 + 0))) (45)) (d (624) (13 * i + 7 + 2)) (nmB_pos (hb2 c_4 2 (by decide)) c_19)) kw_520 kw_521 kw_522 kw_412 kw_519 rfl rfl hd_Mo_passNumber ⟨Nat.le_of_ble_eq_true rfl, Nat.le_of_ble_eq_true rfl⟩ (As := [.int (psI (pvI (psL (pvI (ppI (ppI (ppI (ppI (ppI (psI (x1) (d (624) (13 * i))) (116) (d (624) (13 * i + 1))) (115) (d (624) (13 * i + 2))) (97) (d (624) (13 * i + 3))) (108) (d (624) (13 * i + 4))) (98) (d (624) (13 * i + 5))) (d (624) (13 * i + 6))) (dgl ((d (624) (13 * i + 7 + 0))).toNatClampNeg)) (d (624) (13 * i + 10 + 0))) (45)), .int (d (624) (13 * i + 7 + 2))]) (rest := [.ref (gad G (600))]) rfl hl.1 rfl (Nat.le_of_ble_eq_true rfl) d_Mo_text_214 ⟨Nat.le_of_ble_eq_true rfl, Nat.le_of_ble_eq_true rfl⟩) hW (fun r d' H locs hp hW => ?_)
                        obtain ⟨hp1, hp2⟩ := hp
                        have hp1 := hp1.symm; subst hp1
                        have hp2 := hp2.symm; subst hp2
                        refine lv_aload_n hx hb d_Mo_text_217 rfl (lv_at hl 4 rfl) ?_
                        refine e_get (v := .ref (gad G (624))) hx hb hts hown hK hW (F_Mo G hG) i_Mo rfl 24 (by decide) (hts _ kw_407) (fun _ h => h) rfl d_Mo_text_218 ?_
                        refine lv_iload_n hx hb d_Mo_text_221 rfl (lv_at hl 3 rfl) ?_
                        refine lv_bipush (v := 10) hx hb d_Mo_text_222 (by decide) ?_
                        refine lv_iadd hx hb d_Mo_text_224 ?_
                        refine e_top (v := nI (13 * i + 10)) (nI_add (13 * i) (10)) ?_
                        refine lv_iload hx hb d_Mo_text_225 (lv_at hl 1 rfl) ?_
                        refine lv_iadd hx hb d_Mo_text_227 ?_
                        refine e_top (v := nI (13 * i + 10 + 2)) (nI_add (13 * i + 10) (2)) ?_
                        refine e_iald hx hb hK hW (F_Mnet G hG) (j := 13 * i + 10 + 2) (by omega) (x := d (624) (13 * i + 10 + 2)) ((up2_nc (by omega)).trans (rfl)) rfl d_Mo_text_228 ?_
                        refine e_ci (e_runV hx hb hml hown hts hE hbs hW (F_Mo G hG) rfl (c_M_passVote l G hG (up2 d (600) (0) (0)) (psL (psI (pvI (psL (pvI (ppI (ppI (ppI (ppI (ppI (psI (x1) (d (624) (13 * i))) (116) (d (624) (13 * i + 1))) (115) (d (624) (13 * i + 2))) (97) (d (624) (13 * i + 3))) (108) (d (624) (13 * i + 4))) (98) (d (624) (13 * i + 5))) (d (624) (13 * i + 6))) (dgl ((d (624) (13 * i + 7 + 0))).toNatClampNeg)) (d (624) (13 * i + 10 + 0))) (45)) (dgl ((d (624) (13 * i + 7 + 2))).toNatClampNeg)) (d (624) (13 * i + 10 + 2))) kw_528 kw_529 kw_530 kw_412 kw_527 rfl rfl hd_Mo_passVote ⟨Nat.le_of_ble_eq_true rfl, Nat.le_of_ble_eq_true rfl⟩ (As := [.int (psL (psI (pvI (psL (pvI (ppI (ppI (ppI (ppI (ppI (psI (x1) (d (624) (13 * i))) (116) (d (624) (13 * i + 1))) (115) (d (624) (13 * i + 2))) (97) (d (624) (13 * i + 3))) (108) (d (624) (13 * i + 4))) (98) (d (624) (13 * i + 5))) (d (624) (13 * i + 6))) (dgl ((d (624) (13 * i + 7 + 0))).toNatClampNeg)) (d (624) (13 * i + 10 + 0))) (45)) (dgl ((d (624) (13 * i + 7 + 2))).toNatClampNeg)), .int (d (624) (13 * i + 10 + 2))]) (rest := []) rfl hl.1 rfl (Nat.le_of_ble_eq_true rfl) d_Mo_text_229 ⟨Nat.le_of_ble_eq_true rfl, Nat.le_of_ble_eq_true rfl⟩) hW (fun r d' H locs hp hW => ?_)
                        obtain ⟨hp1, hp2⟩ := hp
                        have hp1 := hp1.symm; subst hp1
                        have hp2 := hp2.symm; subst hp2
                        refine lv_istore (lv' := [(4, .int (pvI (psL (psI (pvI (psL (pvI (ppI (ppI (ppI (ppI (ppI (psI (x1) (d (624) (13 * i))) (116) (d (624) (13 * i + 1))) (115) (d (624) (13 * i + 2))) (97) (d (624) (13 * i + 3))) (108) (d (624) (13 * i + 4))) (98) (d (624) (13 * i + 5))) (d (624) (13 * i + 6))) (dgl ((d (624) (13 * i + 7 + 0))).toNatClampNeg)) (d (624) (13 * i + 10 + 0))) (45)) (dgl ((d (624) (13 * i + 7 + 2))).toNatClampNeg)) (d (624) (13 * i + 10 + 2)))), (6, .int (d (624) (13 * i + 7 + 2))), (5, .int (2)), (3, .int (nI (13 * i))), (0, .ref (gad G (600))), (1, .int (nI i)), (2, .int (x1))]) hx hb d_Mo_text_232 hl (by decide) rfl (fun ls hl => ?_)
                        refine lv_iinc (v := 3) (lv' := [(5, .int (3)), (4, .int (pvI (psL (psI (pvI (psL (pvI (ppI (ppI (ppI (ppI (ppI (psI (x1) (d (624) (13 * i))) (116) (d (624) (13 * i + 1))) (115) (d (624) (13 * i + 2))) (97) (d (624) (13 * i + 3))) (108) (d (624) (13 * i + 4))) (98) (d (624) (13 * i + 5))) (d (624) (13 * i + 6))) (dgl ((d (624) (13 * i + 7 + 0))).toNatClampNeg)) (d (624) (13 * i + 10 + 0))) (45)) (dgl ((d (624) (13 * i + 7 + 2))).toNatClampNeg)) (d (624) (13 * i + 10 + 2)))), (6, .int (d (624) (13 * i + 7 + 2))), (3, .int (nI (13 * i))), (0, .ref (gad G (600))), (1, .int (nI i)), (2, .int (x1))]) hx hb d_Mo_text_234 hl (k := 2) rfl (by decide) (by decide) rfl (fun ls hl => ?_)
                        refine lv_goto (tgt := 161) hx hb d_Mo_text_237 (by decide) ?_
                        refine lv_iload hx hb d_Mo_text_161 (lv_at hl 0 rfl) ?_
                        refine lv_iconst (v := 3) hx hb d_Mo_text_163 (by decide) ?_
                        refine lv_icmp_ge (tgt := 240) hx hb d_Mo_text_164 (by decide) (fun c_20 => ?_) (fun c_20 => ?_)
                        · skip
                          refine lv_iload hx hb d_Mo_text_240 (lv_at hl 1 rfl) ?_
                          refine lv_if_ge (tgt := 253) hx hb d_Mo_text_242 (by decide) (fun c_21 => ?_) (fun c_21 => ?_)
                          · skip
                            refine lv_iconst (v := -1) hx hb d_Mo_text_253 (by decide) ?_
                            have e9 : mR_text d i x1 = -1 := by
                              unfold mR_text peI pyI; rw [if_pos c_4]; unfold prI; rw [if_pos c_6, if_neg c_9, if_pos c_19]; exact if_pos c_21
                            exact e_iret hx hb hr hlk hW (mq_ok (by unfold mC_text; rw [fz, if_pos c_1, if_pos c_2]) (by simp only [cl_nI (show i < 2147483648 by omega)]; exact e9.symm) (by exact rfl)) (Nat.zero_le _) (Nat.zero_le _) d_Mo_text_254
                          · skip
                            refine lv_iload hx hb d_Mo_text_245 (lv_at hl 1 rfl) ?_
                            refine lv_ineg hx hb d_Mo_text_247 ?_
                            refine lv_iconst (v := 1) hx hb d_Mo_text_248 (by decide) ?_
                            refine lv_isub hx hb d_Mo_text_249 ?_
                            refine lv_goto (tgt := 254) hx hb d_Mo_text_250 (by decide) ?_
                            have e9 : mR_text d i x1 = (-(pvI (psL (psI (pvI (psL (pvI (ppI (ppI (ppI (ppI (ppI (psI (x1) (d (624) (13 * i))) (116) (d (624) (13 * i + 1))) (115) (d (624) (13 * i + 2))) (97) (d (624) (13 * i + 3))) (108) (d (624) (13 * i + 4))) (98) (d (624) (13 * i + 5))) (d (624) (13 * i + 6))) (dgl ((d (624) (13 * i + 7 + 0))).toNatClampNeg)) (d (624) (13 * i + 10 + 0))) (45)) (dgl ((d (624) (13 * i + 7 + 2))).toNatClampNeg)) (d (624) (13 * i + 10 + 2)))) - (1) := by
                              unfold mR_text peI pyI; rw [if_pos c_4]; unfold prI; rw [if_pos c_6, if_neg c_9, if_pos c_19]; exact if_neg c_21
                            exact e_iret hx hb hr hlk hW (mq_ok (by unfold mC_text; rw [fz, if_pos c_1, if_pos c_2]) (by simp only [cl_nI (show i < 2147483648 by omega)]; exact e9.symm) (by exact rfl)) (Nat.zero_le _) (Nat.zero_le _) d_Mo_text_254
                        · exact absurd c_20 (by decide)
                      · skip
                        refine lv_aload_n hx hb d_Mo_text_197 rfl (lv_at hl 4 rfl) ?_
                        refine lv_iload hx hb d_Mo_text_198 (lv_at hl 2 rfl) ?_
                        refine lv_bipush (v := 45) hx hb d_Mo_text_200 (by decide) ?_
                        refine e_ci (e_runV hx hb hml hown hts hE hbs hW (F_Mo G hG) rfl (c_M_pass l G hG (up2 d (600) (0) (0)) (psI (pvI (psL (pvI (ppI (ppI (ppI (ppI (ppI (psI (x1) (d (624) (13 * i))) (116) (d (624) (13 * i + 1))) (115) (d (624) (13 * i + 2))) (97) (d (624) (13 * i + 3))) (108) (d (624) (13 * i + 4))) (98) (d (624) (13 * i + 5))) (d (624) (13 * i + 6))) (dgl ((d (624) (13 * i + 7 + 0))).toNatClampNeg)) (d (624) (13 * i + 10 + 0))) (45)) (45)) kw_516 kw_517 kw_518 kw_412 kw_515 rfl rfl hd_Mo_pass ⟨Nat.le_of_ble_eq_true rfl, Nat.le_of_ble_eq_true rfl⟩ (As := [.int (psI (pvI (psL (pvI (ppI (ppI (ppI (ppI (ppI (psI (x1) (d (624) (13 * i))) (116) (d (624) (13 * i + 1))) (115) (d (624) (13 * i + 2))) (97) (d (624) (13 * i + 3))) (108) (d (624) (13 * i + 4))) (98) (d (624) (13 * i + 5))) (d (624) (13 * i + 6))) (dgl ((d (624) (13 * i + 7 + 0))).toNatClampNeg)) (d (624) (13 * i + 10 + 0))) (45)), .int (45)]) (rest := []) rfl hl.1 rfl (Nat.le_of_ble_eq_true rfl) d_Mo_text_202 ⟨Nat.le_of_ble_eq_true rfl, Nat.le_of_ble_eq_true rfl⟩) hW (fun r d' H locs hp hW => ?_)
                        obtain ⟨hp1, hp2⟩ := hp
                        have hp1 := hp1.symm; subst hp1
                        have hp2 := hp2.symm; subst hp2
                        refine lv_goto (tgt := 232) hx hb d_Mo_text_205 (by decide) ?_
                        refine lv_istore (lv' := [(4, .int (psI (psI (pvI (psL (pvI (ppI (ppI (ppI (ppI (ppI (psI (x1) (d (624) (13 * i))) (116) (d (624) (13 * i + 1))) (115) (d (624) (13 * i + 2))) (97) (d (624) (13 * i + 3))) (108) (d (624) (13 * i + 4))) (98) (d (624) (13 * i + 5))) (d (624) (13 * i + 6))) (dgl ((d (624) (13 * i + 7 + 0))).toNatClampNeg)) (d (624) (13 * i + 10 + 0))) (45)) (45))), (6, .int (d (624) (13 * i + 7 + 2))), (5, .int (2)), (3, .int (nI (13 * i))), (0, .ref (gad G (600))), (1, .int (nI i)), (2, .int (x1))]) hx hb d_Mo_text_232 hl (by decide) rfl (fun ls hl => ?_)
                        refine lv_iinc (v := 3) (lv' := [(5, .int (3)), (4, .int (psI (psI (pvI (psL (pvI (ppI (ppI (ppI (ppI (ppI (psI (x1) (d (624) (13 * i))) (116) (d (624) (13 * i + 1))) (115) (d (624) (13 * i + 2))) (97) (d (624) (13 * i + 3))) (108) (d (624) (13 * i + 4))) (98) (d (624) (13 * i + 5))) (d (624) (13 * i + 6))) (dgl ((d (624) (13 * i + 7 + 0))).toNatClampNeg)) (d (624) (13 * i + 10 + 0))) (45)) (45))), (6, .int (d (624) (13 * i + 7 + 2))), (3, .int (nI (13 * i))), (0, .ref (gad G (600))), (1, .int (nI i)), (2, .int (x1))]) hx hb d_Mo_text_234 hl (k := 2) rfl (by decide) (by decide) rfl (fun ls hl => ?_)
                        refine lv_goto (tgt := 161) hx hb d_Mo_text_237 (by decide) ?_
                        refine lv_iload hx hb d_Mo_text_161 (lv_at hl 0 rfl) ?_
                        refine lv_iconst (v := 3) hx hb d_Mo_text_163 (by decide) ?_
                        refine lv_icmp_ge (tgt := 240) hx hb d_Mo_text_164 (by decide) (fun c_22 => ?_) (fun c_22 => ?_)
                        · skip
                          refine lv_iload hx hb d_Mo_text_240 (lv_at hl 1 rfl) ?_
                          refine lv_if_ge (tgt := 253) hx hb d_Mo_text_242 (by decide) (fun c_23 => ?_) (fun c_23 => ?_)
                          · skip
                            refine lv_iconst (v := -1) hx hb d_Mo_text_253 (by decide) ?_
                            have e9 : mR_text d i x1 = -1 := by
                              unfold mR_text peI pyI; rw [if_pos c_4]; unfold prI; rw [if_pos c_6, if_neg c_9, if_neg c_19]; exact if_pos c_23
                            exact e_iret hx hb hr hlk hW (mq_ok (by unfold mC_text; rw [fz, if_pos c_1, if_pos c_2]) (by simp only [cl_nI (show i < 2147483648 by omega)]; exact e9.symm) (by exact rfl)) (Nat.zero_le _) (Nat.zero_le _) d_Mo_text_254
                          · skip
                            refine lv_iload hx hb d_Mo_text_245 (lv_at hl 1 rfl) ?_
                            refine lv_ineg hx hb d_Mo_text_247 ?_
                            refine lv_iconst (v := 1) hx hb d_Mo_text_248 (by decide) ?_
                            refine lv_isub hx hb d_Mo_text_249 ?_
                            refine lv_goto (tgt := 254) hx hb d_Mo_text_250 (by decide) ?_
                            have e9 : mR_text d i x1 = (-(psI (psI (pvI (psL (pvI (ppI (ppI (ppI (ppI (ppI (psI (x1) (d (624) (13 * i))) (116) (d (624) (13 * i + 1))) (115) (d (624) (13 * i + 2))) (97) (d (624) (13 * i + 3))) (108) (d (624) (13 * i + 4))) (98) (d (624) (13 * i + 5))) (d (624) (13 * i + 6))) (dgl ((d (624) (13 * i + 7 + 0))).toNatClampNeg)) (d (624) (13 * i + 10 + 0))) (45)) (45))) - (1) := by
                              unfold mR_text peI pyI; rw [if_pos c_4]; unfold prI; rw [if_pos c_6, if_neg c_9, if_neg c_19]; exact if_neg c_23
                            exact e_iret hx hb hr hlk hW (mq_ok (by unfold mC_text; rw [fz, if_pos c_1, if_pos c_2]) (by simp only [cl_nI (show i < 2147483648 by omega)]; exact e9.symm) (by exact rfl)) (Nat.zero_le _) (Nat.zero_le _) d_Mo_text_254
                        · exact absurd c_22 (by decide)
          · skip
            refine lv_aload_n hx hb d_Mo_text_197 rfl (lv_at hl 4 rfl) ?_
            refine lv_iload hx hb d_Mo_text_198 (lv_at hl 2 rfl) ?_
            refine lv_bipush (v := 45) hx hb d_Mo_text_200 (by decide) ?_
            refine e_ci (e_runV hx hb hml hown hts hE hbs hW (F_Mo G hG) rfl (c_M_pass l G hG (up2 d (600) (0) (0)) (pvI (ppI (ppI (ppI (ppI (ppI (psI (x1) (d (624) (13 * i))) (116) (d (624) (13 * i + 1))) (115) (d (624) (13 * i + 2))) (97) (d (624) (13 * i + 3))) (108) (d (624) (13 * i + 4))) (98) (d (624) (13 * i + 5))) (d (624) (13 * i + 6))) (45)) kw_516 kw_517 kw_518 kw_412 kw_515 rfl rfl hd_Mo_pass ⟨Nat.le_of_ble_eq_true rfl, Nat.le_of_ble_eq_true rfl⟩ (As := [.int (pvI (ppI (ppI (ppI (ppI (ppI (psI (x1) (d (624) (13 * i))) (116) (d (624) (13 * i + 1))) (115) (d (624) (13 * i + 2))) (97) (d (624) (13 * i + 3))) (108) (d (624) (13 * i + 4))) (98) (d (624) (13 * i + 5))) (d (624) (13 * i + 6))), .int (45)]) (rest := []) rfl hl.1 rfl (Nat.le_of_ble_eq_true rfl) d_Mo_text_202 ⟨Nat.le_of_ble_eq_true rfl, Nat.le_of_ble_eq_true rfl⟩) hW (fun r d' H locs hp hW => ?_)
            obtain ⟨hp1, hp2⟩ := hp
            have hp1 := hp1.symm; subst hp1
            have hp2 := hp2.symm; subst hp2
            refine lv_goto (tgt := 232) hx hb d_Mo_text_205 (by decide) ?_
            refine lv_istore (lv' := [(4, .int (psI (pvI (ppI (ppI (ppI (ppI (ppI (psI (x1) (d (624) (13 * i))) (116) (d (624) (13 * i + 1))) (115) (d (624) (13 * i + 2))) (97) (d (624) (13 * i + 3))) (108) (d (624) (13 * i + 4))) (98) (d (624) (13 * i + 5))) (d (624) (13 * i + 6))) (45))), (6, .int (d (624) (13 * i + 7 + 0))), (5, .int (0)), (3, .int (nI (13 * i))), (0, .ref (gad G (600))), (1, .int (nI i)), (2, .int (x1))]) hx hb d_Mo_text_232 hl (by decide) rfl (fun ls hl => ?_)
            refine lv_iinc (v := 1) (lv' := [(5, .int (1)), (4, .int (psI (pvI (ppI (ppI (ppI (ppI (ppI (psI (x1) (d (624) (13 * i))) (116) (d (624) (13 * i + 1))) (115) (d (624) (13 * i + 2))) (97) (d (624) (13 * i + 3))) (108) (d (624) (13 * i + 4))) (98) (d (624) (13 * i + 5))) (d (624) (13 * i + 6))) (45))), (6, .int (d (624) (13 * i + 7 + 0))), (3, .int (nI (13 * i))), (0, .ref (gad G (600))), (1, .int (nI i)), (2, .int (x1))]) hx hb d_Mo_text_234 hl (k := 2) rfl (by decide) (by decide) rfl (fun ls hl => ?_)
            refine lv_goto (tgt := 161) hx hb d_Mo_text_237 (by decide) ?_
            refine lv_iload hx hb d_Mo_text_161 (lv_at hl 0 rfl) ?_
            refine lv_iconst (v := 3) hx hb d_Mo_text_163 (by decide) ?_
            refine lv_icmp_ge (tgt := 240) hx hb d_Mo_text_164 (by decide) (fun c_24 => ?_) (fun c_24 => ?_)
            · exact absurd c_24 (by decide)
            · skip
              refine lv_aload_n hx hb d_Mo_text_167 rfl (lv_at hl 4 rfl) ?_
              refine e_get (v := .ref (gad G (624))) hx hb hts hown hK hW (F_Mo G hG) i_Mo rfl 24 (by decide) (hts _ kw_407) (fun _ h => h) rfl d_Mo_text_168 ?_
              refine lv_iload_n hx hb d_Mo_text_171 rfl (lv_at hl 3 rfl) ?_
              refine e_iald hx hb hK hW (F_Mnet G hG) (j := 13 * i) (by omega) (x := d (624) (13 * i)) ((up2_nc (by omega)).trans (rfl)) rfl d_Mo_text_172 ?_
              refine lv_bipush (v := 82) hx hb d_Mo_text_173 (by decide) ?_
              refine lv_icmp_ne (tgt := 240) hx hb d_Mo_text_175 (by decide) (fun c_25 => ?_) (fun c_25 => ?_)
              · skip
                exact absurd c_4 c_25
              · skip
                refine lv_aload_n hx hb d_Mo_text_178 rfl (lv_at hl 4 rfl) ?_
                refine e_get (v := .ref (gad G (624))) hx hb hts hown hK hW (F_Mo G hG) i_Mo rfl 24 (by decide) (hts _ kw_407) (fun _ h => h) rfl d_Mo_text_179 ?_
                refine lv_iload_n hx hb d_Mo_text_182 rfl (lv_at hl 3 rfl) ?_
                refine lv_bipush (v := 7) hx hb d_Mo_text_183 (by decide) ?_
                refine lv_iadd hx hb d_Mo_text_185 ?_
                refine e_top (v := nI (13 * i + 7)) (nI_add (13 * i) (7)) ?_
                refine lv_iload hx hb d_Mo_text_186 (lv_at hl 0 rfl) ?_
                refine lv_iadd hx hb d_Mo_text_188 ?_
                refine e_top (v := nI (13 * i + 7 + 1)) (nI_add (13 * i + 7) (1)) ?_
                refine e_iald hx hb hK hW (F_Mnet G hG) (j := 13 * i + 7 + 1) (by omega) (x := d (624) (13 * i + 7 + 1)) ((up2_nc (by omega)).trans (rfl)) rfl d_Mo_text_189 ?_
                refine lv_istore (lv' := [(6, .int (d (624) (13 * i + 7 + 1))), (5, .int (1)), (4, .int (psI (pvI (ppI (ppI (ppI (ppI (ppI (psI (x1) (d (624) (13 * i))) (116) (d (624) (13 * i + 1))) (115) (d (624) (13 * i + 2))) (97) (d (624) (13 * i + 3))) (108) (d (624) (13 * i + 4))) (98) (d (624) (13 * i + 5))) (d (624) (13 * i + 6))) (45))), (3, .int (nI (13 * i))), (0, .ref (gad G (600))), (1, .int (nI i)), (2, .int (x1))]) hx hb d_Mo_text_190 hl (by decide) rfl (fun ls hl => ?_)
                refine lv_iload hx hb d_Mo_text_192 (lv_at hl 0 rfl) ?_
                refine lv_if_ge (tgt := 208) hx hb d_Mo_text_194 (by decide) (fun c_26 => ?_) (fun c_26 => ?_)
                · skip
                  refine lv_aload_n hx hb d_Mo_text_208 rfl (lv_at hl 4 rfl) ?_
                  refine lv_aload_n hx hb d_Mo_text_209 rfl (lv_at hl 4 rfl) ?_
                  refine lv_iload hx hb d_Mo_text_210 (lv_at hl 2 rfl) ?_
                  refine lv_iload hx hb d_Mo_text_212 (lv_at hl 0 rfl) ?_
                  refine e_ci (e_runV hx hb hml hown hts hE hbs hW (F_Mo G hG) rfl (c_M_passNumber l G hG (up2 d (600) (0) (0)) (psI (pvI (ppI (ppI (ppI (ppI (ppI (psI (x1) (d (624) (13 * i))) (116) (d (624) (13 * i + 1))) (115) (d (624) (13 * i + 2))) (97) (d (624) (13 * i + 3))) (108) (d (624) (13 * i + 4))) (98) (d (624) (13 * i + 5))) (d (624) (13 * i + 6))) (45)) (d (624) (13 * i + 7 + 1)) (nmB_pos (hb2 c_4 1 (by decide)) c_26)) kw_520 kw_521 kw_522 kw_412 kw_519 rfl rfl hd_Mo_passNumber ⟨Nat.le_of_ble_eq_true rfl, Nat.le_of_ble_eq_true rfl⟩ (As := [.int (psI (pvI (ppI (ppI (ppI (ppI (ppI (psI (x1) (d (624) (13 * i))) (116) (d (624) (13 * i + 1))) (115) (d (624) (13 * i + 2))) (97) (d (624) (13 * i + 3))) (108) (d (624) (13 * i + 4))) (98) (d (624) (13 * i + 5))) (d (624) (13 * i + 6))) (45)), .int (d (624) (13 * i + 7 + 1))]) (rest := [.ref (gad G (600))]) rfl hl.1 rfl (Nat.le_of_ble_eq_true rfl) d_Mo_text_214 ⟨Nat.le_of_ble_eq_true rfl, Nat.le_of_ble_eq_true rfl⟩) hW (fun r d' H locs hp hW => ?_)
                  obtain ⟨hp1, hp2⟩ := hp
                  have hp1 := hp1.symm; subst hp1
                  have hp2 := hp2.symm; subst hp2
                  refine lv_aload_n hx hb d_Mo_text_217 rfl (lv_at hl 4 rfl) ?_
                  refine e_get (v := .ref (gad G (624))) hx hb hts hown hK hW (F_Mo G hG) i_Mo rfl 24 (by decide) (hts _ kw_407) (fun _ h => h) rfl d_Mo_text_218 ?_
                  refine lv_iload_n hx hb d_Mo_text_221 rfl (lv_at hl 3 rfl) ?_
                  refine lv_bipush (v := 10) hx hb d_Mo_text_222 (by decide) ?_
                  refine lv_iadd hx hb d_Mo_text_224 ?_
                  refine e_top (v := nI (13 * i + 10)) (nI_add (13 * i) (10)) ?_
                  refine lv_iload hx hb d_Mo_text_225 (lv_at hl 1 rfl) ?_
                  refine lv_iadd hx hb d_Mo_text_227 ?_
                  refine e_top (v := nI (13 * i + 10 + 1)) (nI_add (13 * i + 10) (1)) ?_
                  refine e_iald hx hb hK hW (F_Mnet G hG) (j := 13 * i + 10 + 1) (by omega) (x := d (624) (13 * i + 10 + 1)) ((up2_nc (by omega)).trans (rfl)) rfl d_Mo_text_228 ?_
                  refine e_ci (e_runV hx hb hml hown hts hE hbs hW (F_Mo G hG) rfl (c_M_passVote l G hG (up2 d (600) (0) (0)) (psL (psI (pvI (ppI (ppI (ppI (ppI (ppI (psI (x1) (d (624) (13 * i))) (116) (d (624) (13 * i + 1))) (115) (d (624) (13 * i + 2))) (97) (d (624) (13 * i + 3))) (108) (d (624) (13 * i + 4))) (98) (d (624) (13 * i + 5))) (d (624) (13 * i + 6))) (45)) (dgl ((d (624) (13 * i + 7 + 1))).toNatClampNeg)) (d (624) (13 * i + 10 + 1))) kw_528 kw_529 kw_530 kw_412 kw_527 rfl rfl hd_Mo_passVote ⟨Nat.le_of_ble_eq_true rfl, Nat.le_of_ble_eq_true rfl⟩ (As := [.int (psL (psI (pvI (ppI (ppI (ppI (ppI (ppI (psI (x1) (d (624) (13 * i))) (116) (d (624) (13 * i + 1))) (115) (d (624) (13 * i + 2))) (97) (d (624) (13 * i + 3))) (108) (d (624) (13 * i + 4))) (98) (d (624) (13 * i + 5))) (d (624) (13 * i + 6))) (45)) (dgl ((d (624) (13 * i + 7 + 1))).toNatClampNeg)), .int (d (624) (13 * i + 10 + 1))]) (rest := []) rfl hl.1 rfl (Nat.le_of_ble_eq_true rfl) d_Mo_text_229 ⟨Nat.le_of_ble_eq_true rfl, Nat.le_of_ble_eq_true rfl⟩) hW (fun r d' H locs hp hW => ?_)
                  obtain ⟨hp1, hp2⟩ := hp
                  have hp1 := hp1.symm; subst hp1
                  have hp2 := hp2.symm; subst hp2
                  refine lv_istore (lv' := [(4, .int (pvI (psL (psI (pvI (ppI (ppI (ppI (ppI (ppI (psI (x1) (d (624) (13 * i))) (116) (d (624) (13 * i + 1))) (115) (d (624) (13 * i + 2))) (97) (d (624) (13 * i + 3))) (108) (d (624) (13 * i + 4))) (98) (d (624) (13 * i + 5))) (d (624) (13 * i + 6))) (45)) (dgl ((d (624) (13 * i + 7 + 1))).toNatClampNeg)) (d (624) (13 * i + 10 + 1)))), (6, .int (d (624) (13 * i + 7 + 1))), (5, .int (1)), (3, .int (nI (13 * i))), (0, .ref (gad G (600))), (1, .int (nI i)), (2, .int (x1))]) hx hb d_Mo_text_232 hl (by decide) rfl (fun ls hl => ?_)
                  refine lv_iinc (v := 2) (lv' := [(5, .int (2)), (4, .int (pvI (psL (psI (pvI (ppI (ppI (ppI (ppI (ppI (psI (x1) (d (624) (13 * i))) (116) (d (624) (13 * i + 1))) (115) (d (624) (13 * i + 2))) (97) (d (624) (13 * i + 3))) (108) (d (624) (13 * i + 4))) (98) (d (624) (13 * i + 5))) (d (624) (13 * i + 6))) (45)) (dgl ((d (624) (13 * i + 7 + 1))).toNatClampNeg)) (d (624) (13 * i + 10 + 1)))), (6, .int (d (624) (13 * i + 7 + 1))), (3, .int (nI (13 * i))), (0, .ref (gad G (600))), (1, .int (nI i)), (2, .int (x1))]) hx hb d_Mo_text_234 hl (k := 2) rfl (by decide) (by decide) rfl (fun ls hl => ?_)
                  refine lv_goto (tgt := 161) hx hb d_Mo_text_237 (by decide) ?_
                  refine lv_iload hx hb d_Mo_text_161 (lv_at hl 0 rfl) ?_
                  refine lv_iconst (v := 3) hx hb d_Mo_text_163 (by decide) ?_
                  refine lv_icmp_ge (tgt := 240) hx hb d_Mo_text_164 (by decide) (fun c_27 => ?_) (fun c_27 => ?_)
                  · exact absurd c_27 (by decide)
                  · skip
                    refine lv_aload_n hx hb d_Mo_text_167 rfl (lv_at hl 4 rfl) ?_
                    refine e_get (v := .ref (gad G (624))) hx hb hts hown hK hW (F_Mo G hG) i_Mo rfl 24 (by decide) (hts _ kw_407) (fun _ h => h) rfl d_Mo_text_168 ?_
                    refine lv_iload_n hx hb d_Mo_text_171 rfl (lv_at hl 3 rfl) ?_
                    refine e_iald hx hb hK hW (F_Mnet G hG) (j := 13 * i) (by omega) (x := d (624) (13 * i)) ((up2_nc (by omega)).trans (rfl)) rfl d_Mo_text_172 ?_
                    refine lv_bipush (v := 82) hx hb d_Mo_text_173 (by decide) ?_
                    refine lv_icmp_ne (tgt := 240) hx hb d_Mo_text_175 (by decide) (fun c_28 => ?_) (fun c_28 => ?_)
                    · skip
                      exact absurd c_4 c_28
                    · skip
                      refine lv_aload_n hx hb d_Mo_text_178 rfl (lv_at hl 4 rfl) ?_
                      refine e_get (v := .ref (gad G (624))) hx hb hts hown hK hW (F_Mo G hG) i_Mo rfl 24 (by decide) (hts _ kw_407) (fun _ h => h) rfl d_Mo_text_179 ?_
                      refine lv_iload_n hx hb d_Mo_text_182 rfl (lv_at hl 3 rfl) ?_
                      refine lv_bipush (v := 7) hx hb d_Mo_text_183 (by decide) ?_
                      refine lv_iadd hx hb d_Mo_text_185 ?_
                      refine e_top (v := nI (13 * i + 7)) (nI_add (13 * i) (7)) ?_
                      refine lv_iload hx hb d_Mo_text_186 (lv_at hl 0 rfl) ?_
                      refine lv_iadd hx hb d_Mo_text_188 ?_
                      refine e_top (v := nI (13 * i + 7 + 2)) (nI_add (13 * i + 7) (2)) ?_
                      refine e_iald hx hb hK hW (F_Mnet G hG) (j := 13 * i + 7 + 2) (by omega) (x := d (624) (13 * i + 7 + 2)) ((up2_nc (by omega)).trans (rfl)) rfl d_Mo_text_189 ?_
                      refine lv_istore (lv' := [(6, .int (d (624) (13 * i + 7 + 2))), (5, .int (2)), (4, .int (pvI (psL (psI (pvI (ppI (ppI (ppI (ppI (ppI (psI (x1) (d (624) (13 * i))) (116) (d (624) (13 * i + 1))) (115) (d (624) (13 * i + 2))) (97) (d (624) (13 * i + 3))) (108) (d (624) (13 * i + 4))) (98) (d (624) (13 * i + 5))) (d (624) (13 * i + 6))) (45)) (dgl ((d (624) (13 * i + 7 + 1))).toNatClampNeg)) (d (624) (13 * i + 10 + 1)))), (3, .int (nI (13 * i))), (0, .ref (gad G (600))), (1, .int (nI i)), (2, .int (x1))]) hx hb d_Mo_text_190 hl (by decide) rfl (fun ls hl => ?_)
                      refine lv_iload hx hb d_Mo_text_192 (lv_at hl 0 rfl) ?_
                      refine lv_if_ge (tgt := 208) hx hb d_Mo_text_194 (by decide) (fun c_29 => ?_) (fun c_29 => ?_)
                      · skip
                        refine lv_aload_n hx hb d_Mo_text_208 rfl (lv_at hl 4 rfl) ?_
                        refine lv_aload_n hx hb d_Mo_text_209 rfl (lv_at hl 4 rfl) ?_
                        refine lv_iload hx hb d_Mo_text_210 (lv_at hl 2 rfl) ?_
                        refine lv_iload hx hb d_Mo_text_212 (lv_at hl 0 rfl) ?_
                        refine e_ci (e_runV hx hb hml hown hts hE hbs hW (F_Mo G hG) rfl (c_M_passNumber l G hG (up2 d (600) (0) (0)) (pvI (psL (psI (pvI (ppI (ppI (ppI (ppI (ppI (psI (x1) (d (624) (13 * i))) (116) (d (624) (13 * i + 1))) (115) (d (624) (13 * i + 2))) (97) (d (624) (13 * i + 3))) (108) (d (624) (13 * i + 4))) (98) (d (624) (13 * i + 5))) (d (624) (13 * i + 6))) (45)) (dgl ((d (624) (13 * i + 7 + 1))).toNatClampNeg)) (d (624) (13 * i + 10 + 1))) (d (624) (13 * i + 7 + 2)) (nmB_pos (hb2 c_4 2 (by decide)) c_29)) kw_520 kw_521 kw_522 kw_412 kw_519 rfl rfl hd_Mo_passNumber ⟨Nat.le_of_ble_eq_true rfl, Nat.le_of_ble_eq_true rfl⟩ (As := [.int (pvI (psL (psI (pvI (ppI (ppI (ppI (ppI (ppI (psI (x1) (d (624) (13 * i))) (116) (d (624) (13 * i + 1))) (115) (d (624) (13 * i + 2))) (97) (d (624) (13 * i + 3))) (108) (d (624) (13 * i + 4))) (98) (d (624) (13 * i + 5))) (d (624) (13 * i + 6))) (45)) (dgl ((d (624) (13 * i + 7 + 1))).toNatClampNeg)) (d (624) (13 * i + 10 + 1))), .int (d (624) (13 * i + 7 + 2))]) (rest := [.ref (gad G (600))]) rfl hl.1 rfl (Nat.le_of_ble_eq_true rfl) d_Mo_text_214 ⟨Nat.le_of_ble_eq_true rfl, Nat.le_of_ble_eq_true rfl⟩) hW (fun r d' H locs hp hW => ?_)
                        obtain ⟨hp1, hp2⟩ := hp
                        have hp1 := hp1.symm; subst hp1
                        have hp2 := hp2.symm; subst hp2
                        refine lv_aload_n hx hb d_Mo_text_217 rfl (lv_at hl 4 rfl) ?_
                        refine e_get (v := .ref (gad G (624))) hx hb hts hown hK hW (F_Mo G hG) i_Mo rfl 24 (by decide) (hts _ kw_407) (fun _ h => h) rfl d_Mo_text_218 ?_
                        refine lv_iload_n hx hb d_Mo_text_221 rfl (lv_at hl 3 rfl) ?_
                        refine lv_bipush (v := 10) hx hb d_Mo_text_222 (by decide) ?_
                        refine lv_iadd hx hb d_Mo_text_224 ?_
                        refine e_top (v := nI (13 * i + 10)) (nI_add (13 * i) (10)) ?_
                        refine lv_iload hx hb d_Mo_text_225 (lv_at hl 1 rfl) ?_
                        refine lv_iadd hx hb d_Mo_text_227 ?_
                        refine e_top (v := nI (13 * i + 10 + 2)) (nI_add (13 * i + 10) (2)) ?_
                        refine e_iald hx hb hK hW (F_Mnet G hG) (j := 13 * i + 10 + 2) (by omega) (x := d (624) (13 * i + 10 + 2)) ((up2_nc (by omega)).trans (rfl)) rfl d_Mo_text_228 ?_
                        refine e_ci (e_runV hx hb hml hown hts hE hbs hW (F_Mo G hG) rfl (c_M_passVote l G hG (up2 d (600) (0) (0)) (psL (pvI (psL (psI (pvI (ppI (ppI (ppI (ppI (ppI (psI (x1) (d (624) (13 * i))) (116) (d (624) (13 * i + 1))) (115) (d (624) (13 * i + 2))) (97) (d (624) (13 * i + 3))) (108) (d (624) (13 * i + 4))) (98) (d (624) (13 * i + 5))) (d (624) (13 * i + 6))) (45)) (dgl ((d (624) (13 * i + 7 + 1))).toNatClampNeg)) (d (624) (13 * i + 10 + 1))) (dgl ((d (624) (13 * i + 7 + 2))).toNatClampNeg)) (d (624) (13 * i + 10 + 2))) kw_528 kw_529 kw_530 kw_412 kw_527 rfl rfl hd_Mo_passVote ⟨Nat.le_of_ble_eq_true rfl, Nat.le_of_ble_eq_true rfl⟩ (As := [.int (psL (pvI (psL (psI (pvI (ppI (ppI (ppI (ppI (ppI (psI (x1) (d (624) (13 * i))) (116) (d (624) (13 * i + 1))) (115) (d (624) (13 * i + 2))) (97) (d (624) (13 * i + 3))) (108) (d (624) (13 * i + 4))) (98) (d (624) (13 * i + 5))) (d (624) (13 * i + 6))) (45)) (dgl ((d (624) (13 * i + 7 + 1))).toNatClampNeg)) (d (624) (13 * i + 10 + 1))) (dgl ((d (624) (13 * i + 7 + 2))).toNatClampNeg)), .int (d (624) (13 * i + 10 + 2))]) (rest := []) rfl hl.1 rfl (Nat.le_of_ble_eq_true rfl) d_Mo_text_229 ⟨Nat.le_of_ble_eq_true rfl, Nat.le_of_ble_eq_true rfl⟩) hW (fun r d' H locs hp hW => ?_)
                        obtain ⟨hp1, hp2⟩ := hp
                        have hp1 := hp1.symm; subst hp1
                        have hp2 := hp2.symm; subst hp2
                        refine lv_istore (lv' := [(4, .int (pvI (psL (pvI (psL (psI (pvI (ppI (ppI (ppI (ppI (ppI (psI (x1) (d (624) (13 * i))) (116) (d (624) (13 * i + 1))) (115) (d (624) (13 * i + 2))) (97) (d (624) (13 * i + 3))) (108) (d (624) (13 * i + 4))) (98) (d (624) (13 * i + 5))) (d (624) (13 * i + 6))) (45)) (dgl ((d (624) (13 * i + 7 + 1))).toNatClampNeg)) (d (624) (13 * i + 10 + 1))) (dgl ((d (624) (13 * i + 7 + 2))).toNatClampNeg)) (d (624) (13 * i + 10 + 2)))), (6, .int (d (624) (13 * i + 7 + 2))), (5, .int (2)), (3, .int (nI (13 * i))), (0, .ref (gad G (600))), (1, .int (nI i)), (2, .int (x1))]) hx hb d_Mo_text_232 hl (by decide) rfl (fun ls hl => ?_)
                        refine lv_iinc (v := 3) (lv' := [(5, .int (3)), (4, .int (pvI (psL (pvI (psL (psI (pvI (ppI (ppI (ppI (ppI (ppI (psI (x1) (d (624) (13 * i))) (116) (d (624) (13 * i + 1))) (115) (d (624) (13 * i + 2))) (97) (d (624) (13 * i + 3))) (108) (d (624) (13 * i + 4))) (98) (d (624) (13 * i + 5))) (d (624) (13 * i + 6))) (45)) (dgl ((d (624) (13 * i + 7 + 1))).toNatClampNeg)) (d (624) (13 * i + 10 + 1))) (dgl ((d (624) (13 * i + 7 + 2))).toNatClampNeg)) (d (624) (13 * i + 10 + 2)))), (6, .int (d (624) (13 * i + 7 + 2))), (3, .int (nI (13 * i))), (0, .ref (gad G (600))), (1, .int (nI i)), (2, .int (x1))]) hx hb d_Mo_text_234 hl (k := 2) rfl (by decide) (by decide) rfl (fun ls hl => ?_)
                        refine lv_goto (tgt := 161) hx hb d_Mo_text_237 (by decide) ?_
                        refine lv_iload hx hb d_Mo_text_161 (lv_at hl 0 rfl) ?_
                        refine lv_iconst (v := 3) hx hb d_Mo_text_163 (by decide) ?_
                        refine lv_icmp_ge (tgt := 240) hx hb d_Mo_text_164 (by decide) (fun c_30 => ?_) (fun c_30 => ?_)
                        · skip
                          refine lv_iload hx hb d_Mo_text_240 (lv_at hl 1 rfl) ?_
                          refine lv_if_ge (tgt := 253) hx hb d_Mo_text_242 (by decide) (fun c_31 => ?_) (fun c_31 => ?_)
                          · skip
                            refine lv_iconst (v := -1) hx hb d_Mo_text_253 (by decide) ?_
                            have e9 : mR_text d i x1 = -1 := by
                              unfold mR_text peI pyI; rw [if_pos c_4]; unfold prI; rw [if_neg c_6, if_pos c_26, if_pos c_29]; exact if_pos c_31
                            exact e_iret hx hb hr hlk hW (mq_ok (by unfold mC_text; rw [fz, if_pos c_1, if_pos c_2]) (by simp only [cl_nI (show i < 2147483648 by omega)]; exact e9.symm) (by exact rfl)) (Nat.zero_le _) (Nat.zero_le _) d_Mo_text_254
                          · skip
                            refine lv_iload hx hb d_Mo_text_245 (lv_at hl 1 rfl) ?_
                            refine lv_ineg hx hb d_Mo_text_247 ?_
                            refine lv_iconst (v := 1) hx hb d_Mo_text_248 (by decide) ?_
                            refine lv_isub hx hb d_Mo_text_249 ?_
                            refine lv_goto (tgt := 254) hx hb d_Mo_text_250 (by decide) ?_
                            have e9 : mR_text d i x1 = (-(pvI (psL (pvI (psL (psI (pvI (ppI (ppI (ppI (ppI (ppI (psI (x1) (d (624) (13 * i))) (116) (d (624) (13 * i + 1))) (115) (d (624) (13 * i + 2))) (97) (d (624) (13 * i + 3))) (108) (d (624) (13 * i + 4))) (98) (d (624) (13 * i + 5))) (d (624) (13 * i + 6))) (45)) (dgl ((d (624) (13 * i + 7 + 1))).toNatClampNeg)) (d (624) (13 * i + 10 + 1))) (dgl ((d (624) (13 * i + 7 + 2))).toNatClampNeg)) (d (624) (13 * i + 10 + 2)))) - (1) := by
                              unfold mR_text peI pyI; rw [if_pos c_4]; unfold prI; rw [if_neg c_6, if_pos c_26, if_pos c_29]; exact if_neg c_31
                            exact e_iret hx hb hr hlk hW (mq_ok (by unfold mC_text; rw [fz, if_pos c_1, if_pos c_2]) (by simp only [cl_nI (show i < 2147483648 by omega)]; exact e9.symm) (by exact rfl)) (Nat.zero_le _) (Nat.zero_le _) d_Mo_text_254
                        · exact absurd c_30 (by decide)
                      · skip
                        refine lv_aload_n hx hb d_Mo_text_197 rfl (lv_at hl 4 rfl) ?_
                        refine lv_iload hx hb d_Mo_text_198 (lv_at hl 2 rfl) ?_
                        refine lv_bipush (v := 45) hx hb d_Mo_text_200 (by decide) ?_
                        refine e_ci (e_runV hx hb hml hown hts hE hbs hW (F_Mo G hG) rfl (c_M_pass l G hG (up2 d (600) (0) (0)) (pvI (psL (psI (pvI (ppI (ppI (ppI (ppI (ppI (psI (x1) (d (624) (13 * i))) (116) (d (624) (13 * i + 1))) (115) (d (624) (13 * i + 2))) (97) (d (624) (13 * i + 3))) (108) (d (624) (13 * i + 4))) (98) (d (624) (13 * i + 5))) (d (624) (13 * i + 6))) (45)) (dgl ((d (624) (13 * i + 7 + 1))).toNatClampNeg)) (d (624) (13 * i + 10 + 1))) (45)) kw_516 kw_517 kw_518 kw_412 kw_515 rfl rfl hd_Mo_pass ⟨Nat.le_of_ble_eq_true rfl, Nat.le_of_ble_eq_true rfl⟩ (As := [.int (pvI (psL (psI (pvI (ppI (ppI (ppI (ppI (ppI (psI (x1) (d (624) (13 * i))) (116) (d (624) (13 * i + 1))) (115) (d (624) (13 * i + 2))) (97) (d (624) (13 * i + 3))) (108) (d (624) (13 * i + 4))) (98) (d (624) (13 * i + 5))) (d (624) (13 * i + 6))) (45)) (dgl ((d (624) (13 * i + 7 + 1))).toNatClampNeg)) (d (624) (13 * i + 10 + 1))), .int (45)]) (rest := []) rfl hl.1 rfl (Nat.le_of_ble_eq_true rfl) d_Mo_text_202 ⟨Nat.le_of_ble_eq_true rfl, Nat.le_of_ble_eq_true rfl⟩) hW (fun r d' H locs hp hW => ?_)
                        obtain ⟨hp1, hp2⟩ := hp
                        have hp1 := hp1.symm; subst hp1
                        have hp2 := hp2.symm; subst hp2
                        refine lv_goto (tgt := 232) hx hb d_Mo_text_205 (by decide) ?_
                        refine lv_istore (lv' := [(4, .int (psI (pvI (psL (psI (pvI (ppI (ppI (ppI (ppI (ppI (psI (x1) (d (624) (13 * i))) (116) (d (624) (13 * i + 1))) (115) (d (624) (13 * i + 2))) (97) (d (624) (13 * i + 3))) (108) (d (624) (13 * i + 4))) (98) (d (624) (13 * i + 5))) (d (624) (13 * i + 6))) (45)) (dgl ((d (624) (13 * i + 7 + 1))).toNatClampNeg)) (d (624) (13 * i + 10 + 1))) (45))), (6, .int (d (624) (13 * i + 7 + 2))), (5, .int (2)), (3, .int (nI (13 * i))), (0, .ref (gad G (600))), (1, .int (nI i)), (2, .int (x1))]) hx hb d_Mo_text_232 hl (by decide) rfl (fun ls hl => ?_)
                        refine lv_iinc (v := 3) (lv' := [(5, .int (3)), (4, .int (psI (pvI (psL (psI (pvI (ppI (ppI (ppI (ppI (ppI (psI (x1) (d (624) (13 * i))) (116) (d (624) (13 * i + 1))) (115) (d (624) (13 * i + 2))) (97) (d (624) (13 * i + 3))) (108) (d (624) (13 * i + 4))) (98) (d (624) (13 * i + 5))) (d (624) (13 * i + 6))) (45)) (dgl ((d (624) (13 * i + 7 + 1))).toNatClampNeg)) (d (624) (13 * i + 10 + 1))) (45))), (6, .int (d (624) (13 * i + 7 + 2))), (3, .int (nI (13 * i))), (0, .ref (gad G (600))), (1, .int (nI i)), (2, .int (x1))]) hx hb d_Mo_text_234 hl (k := 2) rfl (by decide) (by decide) rfl (fun ls hl => ?_)
                        refine lv_goto (tgt := 161) hx hb d_Mo_text_237 (by decide) ?_
                        refine lv_iload hx hb d_Mo_text_161 (lv_at hl 0 rfl) ?_
                        refine lv_iconst (v := 3) hx hb d_Mo_text_163 (by decide) ?_
                        refine lv_icmp_ge (tgt := 240) hx hb d_Mo_text_164 (by decide) (fun c_32 => ?_) (fun c_32 => ?_)
                        · skip
                          refine lv_iload hx hb d_Mo_text_240 (lv_at hl 1 rfl) ?_
                          refine lv_if_ge (tgt := 253) hx hb d_Mo_text_242 (by decide) (fun c_33 => ?_) (fun c_33 => ?_)
                          · skip
                            refine lv_iconst (v := -1) hx hb d_Mo_text_253 (by decide) ?_
                            have e9 : mR_text d i x1 = -1 := by
                              unfold mR_text peI pyI; rw [if_pos c_4]; unfold prI; rw [if_neg c_6, if_pos c_26, if_neg c_29]; exact if_pos c_33
                            exact e_iret hx hb hr hlk hW (mq_ok (by unfold mC_text; rw [fz, if_pos c_1, if_pos c_2]) (by simp only [cl_nI (show i < 2147483648 by omega)]; exact e9.symm) (by exact rfl)) (Nat.zero_le _) (Nat.zero_le _) d_Mo_text_254
                          · skip
                            refine lv_iload hx hb d_Mo_text_245 (lv_at hl 1 rfl) ?_
                            refine lv_ineg hx hb d_Mo_text_247 ?_
                            refine lv_iconst (v := 1) hx hb d_Mo_text_248 (by decide) ?_
                            refine lv_isub hx hb d_Mo_text_249 ?_
                            refine lv_goto (tgt := 254) hx hb d_Mo_text_250 (by decide) ?_
                            have e9 : mR_text d i x1 = (-(psI (pvI (psL (psI (pvI (ppI (ppI (ppI (ppI (ppI (psI (x1) (d (624) (13 * i))) (116) (d (624) (13 * i + 1))) (115) (d (624) (13 * i + 2))) (97) (d (624) (13 * i + 3))) (108) (d (624) (13 * i + 4))) (98) (d (624) (13 * i + 5))) (d (624) (13 * i + 6))) (45)) (dgl ((d (624) (13 * i + 7 + 1))).toNatClampNeg)) (d (624) (13 * i + 10 + 1))) (45))) - (1) := by
                              unfold mR_text peI pyI; rw [if_pos c_4]; unfold prI; rw [if_neg c_6, if_pos c_26, if_neg c_29]; exact if_neg c_33
                            exact e_iret hx hb hr hlk hW (mq_ok (by unfold mC_text; rw [fz, if_pos c_1, if_pos c_2]) (by simp only [cl_nI (show i < 2147483648 by omega)]; exact e9.symm) (by exact rfl)) (Nat.zero_le _) (Nat.zero_le _) d_Mo_text_254
                        · exact absurd c_32 (by decide)
                · skip
                  refine lv_aload_n hx hb d_Mo_text_197 rfl (lv_at hl 4 rfl) ?_
                  refine lv_iload hx hb d_Mo_text_198 (lv_at hl 2 rfl) ?_
                  refine lv_bipush (v := 45) hx hb d_Mo_text_200 (by decide) ?_
                  refine e_ci (e_runV hx hb hml hown hts hE hbs hW (F_Mo G hG) rfl (c_M_pass l G hG (up2 d (600) (0) (0)) (psI (pvI (ppI (ppI (ppI (ppI (ppI (psI (x1) (d (624) (13 * i))) (116) (d (624) (13 * i + 1))) (115) (d (624) (13 * i + 2))) (97) (d (624) (13 * i + 3))) (108) (d (624) (13 * i + 4))) (98) (d (624) (13 * i + 5))) (d (624) (13 * i + 6))) (45)) (45)) kw_516 kw_517 kw_518 kw_412 kw_515 rfl rfl hd_Mo_pass ⟨Nat.le_of_ble_eq_true rfl, Nat.le_of_ble_eq_true rfl⟩ (As := [.int (psI (pvI (ppI (ppI (ppI (ppI (ppI (psI (x1) (d (624) (13 * i))) (116) (d (624) (13 * i + 1))) (115) (d (624) (13 * i + 2))) (97) (d (624) (13 * i + 3))) (108) (d (624) (13 * i + 4))) (98) (d (624) (13 * i + 5))) (d (624) (13 * i + 6))) (45)), .int (45)]) (rest := []) rfl hl.1 rfl (Nat.le_of_ble_eq_true rfl) d_Mo_text_202 ⟨Nat.le_of_ble_eq_true rfl, Nat.le_of_ble_eq_true rfl⟩) hW (fun r d' H locs hp hW => ?_)
                  obtain ⟨hp1, hp2⟩ := hp
                  have hp1 := hp1.symm; subst hp1
                  have hp2 := hp2.symm; subst hp2
                  refine lv_goto (tgt := 232) hx hb d_Mo_text_205 (by decide) ?_
                  refine lv_istore (lv' := [(4, .int (psI (psI (pvI (ppI (ppI (ppI (ppI (ppI (psI (x1) (d (624) (13 * i))) (116) (d (624) (13 * i + 1))) (115) (d (624) (13 * i + 2))) (97) (d (624) (13 * i + 3))) (108) (d (624) (13 * i + 4))) (98) (d (624) (13 * i + 5))) (d (624) (13 * i + 6))) (45)) (45))), (6, .int (d (624) (13 * i + 7 + 1))), (5, .int (1)), (3, .int (nI (13 * i))), (0, .ref (gad G (600))), (1, .int (nI i)), (2, .int (x1))]) hx hb d_Mo_text_232 hl (by decide) rfl (fun ls hl => ?_)
                  refine lv_iinc (v := 2) (lv' := [(5, .int (2)), (4, .int (psI (psI (pvI (ppI (ppI (ppI (ppI (ppI (psI (x1) (d (624) (13 * i))) (116) (d (624) (13 * i + 1))) (115) (d (624) (13 * i + 2))) (97) (d (624) (13 * i + 3))) (108) (d (624) (13 * i + 4))) (98) (d (624) (13 * i + 5))) (d (624) (13 * i + 6))) (45)) (45))), (6, .int (d (624) (13 * i + 7 + 1))), (3, .int (nI (13 * i))), (0, .ref (gad G (600))), (1, .int (nI i)), (2, .int (x1))]) hx hb d_Mo_text_234 hl (k := 2) rfl (by decide) (by decide) rfl (fun ls hl => ?_)
                  refine lv_goto (tgt := 161) hx hb d_Mo_text_237 (by decide) ?_
                  refine lv_iload hx hb d_Mo_text_161 (lv_at hl 0 rfl) ?_
                  refine lv_iconst (v := 3) hx hb d_Mo_text_163 (by decide) ?_
                  refine lv_icmp_ge (tgt := 240) hx hb d_Mo_text_164 (by decide) (fun c_34 => ?_) (fun c_34 => ?_)
                  · exact absurd c_34 (by decide)
                  · skip
                    refine lv_aload_n hx hb d_Mo_text_167 rfl (lv_at hl 4 rfl) ?_
                    refine e_get (v := .ref (gad G (624))) hx hb hts hown hK hW (F_Mo G hG) i_Mo rfl 24 (by decide) (hts _ kw_407) (fun _ h => h) rfl d_Mo_text_168 ?_
                    refine lv_iload_n hx hb d_Mo_text_171 rfl (lv_at hl 3 rfl) ?_
                    refine e_iald hx hb hK hW (F_Mnet G hG) (j := 13 * i) (by omega) (x := d (624) (13 * i)) ((up2_nc (by omega)).trans (rfl)) rfl d_Mo_text_172 ?_
                    refine lv_bipush (v := 82) hx hb d_Mo_text_173 (by decide) ?_
                    refine lv_icmp_ne (tgt := 240) hx hb d_Mo_text_175 (by decide) (fun c_35 => ?_) (fun c_35 => ?_)
                    · skip
                      exact absurd c_4 c_35
                    · skip
                      refine lv_aload_n hx hb d_Mo_text_178 rfl (lv_at hl 4 rfl) ?_
                      refine e_get (v := .ref (gad G (624))) hx hb hts hown hK hW (F_Mo G hG) i_Mo rfl 24 (by decide) (hts _ kw_407) (fun _ h => h) rfl d_Mo_text_179 ?_
                      refine lv_iload_n hx hb d_Mo_text_182 rfl (lv_at hl 3 rfl) ?_
                      refine lv_bipush (v := 7) hx hb d_Mo_text_183 (by decide) ?_
                      refine lv_iadd hx hb d_Mo_text_185 ?_
                      refine e_top (v := nI (13 * i + 7)) (nI_add (13 * i) (7)) ?_
                      refine lv_iload hx hb d_Mo_text_186 (lv_at hl 0 rfl) ?_
                      refine lv_iadd hx hb d_Mo_text_188 ?_
                      refine e_top (v := nI (13 * i + 7 + 2)) (nI_add (13 * i + 7) (2)) ?_
                      refine e_iald hx hb hK hW (F_Mnet G hG) (j := 13 * i + 7 + 2) (by omega) (x := d (624) (13 * i + 7 + 2)) ((up2_nc (by omega)).trans (rfl)) rfl d_Mo_text_189 ?_
                      refine lv_istore (lv' := [(6, .int (d (624) (13 * i + 7 + 2))), (5, .int (2)), (4, .int (psI (psI (pvI (ppI (ppI (ppI (ppI (ppI (psI (x1) (d (624) (13 * i))) (116) (d (624) (13 * i + 1))) (115) (d (624) (13 * i + 2))) (97) (d (624) (13 * i + 3))) (108) (d (624) (13 * i + 4))) (98) (d (624) (13 * i + 5))) (d (624) (13 * i + 6))) (45)) (45))), (3, .int (nI (13 * i))), (0, .ref (gad G (600))), (1, .int (nI i)), (2, .int (x1))]) hx hb d_Mo_text_190 hl (by decide) rfl (fun ls hl => ?_)
                      refine lv_iload hx hb d_Mo_text_192 (lv_at hl 0 rfl) ?_
                      refine lv_if_ge (tgt := 208) hx hb d_Mo_text_194 (by decide) (fun c_36 => ?_) (fun c_36 => ?_)
                      · skip
                        refine lv_aload_n hx hb d_Mo_text_208 rfl (lv_at hl 4 rfl) ?_
                        refine lv_aload_n hx hb d_Mo_text_209 rfl (lv_at hl 4 rfl) ?_
                        refine lv_iload hx hb d_Mo_text_210 (lv_at hl 2 rfl) ?_
                        refine lv_iload hx hb d_Mo_text_212 (lv_at hl 0 rfl) ?_
                        refine e_ci (e_runV hx hb hml hown hts hE hbs hW (F_Mo G hG) rfl (c_M_passNumber l G hG (up2 d (600) (0) (0)) (psI (psI (pvI (ppI (ppI (ppI (ppI (ppI (psI (x1) (d (624) (13 * i))) (116) (d (624) (13 * i + 1))) (115) (d (624) (13 * i + 2))) (97) (d (624) (13 * i + 3))) (108) (d (624) (13 * i + 4))) (98) (d (624) (13 * i + 5))) (d (624) (13 * i + 6))) (45)) (45)) (d (624) (13 * i + 7 + 2)) (nmB_pos (hb2 c_4 2 (by decide)) c_36)) kw_520 kw_521 kw_522 kw_412 kw_519 rfl rfl hd_Mo_passNumber ⟨Nat.le_of_ble_eq_true rfl, Nat.le_of_ble_eq_true rfl⟩ (As := [.int (psI (psI (pvI (ppI (ppI (ppI (ppI (ppI (psI (x1) (d (624) (13 * i))) (116) (d (624) (13 * i + 1))) (115) (d (624) (13 * i + 2))) (97) (d (624) (13 * i + 3))) (108) (d (624) (13 * i + 4))) (98) (d (624) (13 * i + 5))) (d (624) (13 * i + 6))) (45)) (45)), .int (d (624) (13 * i + 7 + 2))]) (rest := [.ref (gad G (600))]) rfl hl.1 rfl (Nat.le_of_ble_eq_true rfl) d_Mo_text_214 ⟨Nat.le_of_ble_eq_true rfl, Nat.le_of_ble_eq_true rfl⟩) hW (fun r d' H locs hp hW => ?_)
                        obtain ⟨hp1, hp2⟩ := hp
                        have hp1 := hp1.symm; subst hp1
                        have hp2 := hp2.symm; subst hp2
                        refine lv_aload_n hx hb d_Mo_text_217 rfl (lv_at hl 4 rfl) ?_
                        refine e_get (v := .ref (gad G (624))) hx hb hts hown hK hW (F_Mo G hG) i_Mo rfl 24 (by decide) (hts _ kw_407) (fun _ h => h) rfl d_Mo_text_218 ?_
                        refine lv_iload_n hx hb d_Mo_text_221 rfl (lv_at hl 3 rfl) ?_
                        refine lv_bipush (v := 10) hx hb d_Mo_text_222 (by decide) ?_
                        refine lv_iadd hx hb d_Mo_text_224 ?_
                        refine e_top (v := nI (13 * i + 10)) (nI_add (13 * i) (10)) ?_
                        refine lv_iload hx hb d_Mo_text_225 (lv_at hl 1 rfl) ?_
                        refine lv_iadd hx hb d_Mo_text_227 ?_
                        refine e_top (v := nI (13 * i + 10 + 2)) (nI_add (13 * i + 10) (2)) ?_
                        refine e_iald hx hb hK hW (F_Mnet G hG) (j := 13 * i + 10 + 2) (by omega) (x := d (624) (13 * i + 10 + 2)) ((up2_nc (by omega)).trans (rfl)) rfl d_Mo_text_228 ?_
                        refine e_ci (e_runV hx hb hml hown hts hE hbs hW (F_Mo G hG) rfl (c_M_passVote l G hG (up2 d (600) (0) (0)) (psL (psI (psI (pvI (ppI (ppI (ppI (ppI (ppI (psI (x1) (d (624) (13 * i))) (116) (d (624) (13 * i + 1))) (115) (d (624) (13 * i + 2))) (97) (d (624) (13 * i + 3))) (108) (d (624) (13 * i + 4))) (98) (d (624) (13 * i + 5))) (d (624) (13 * i + 6))) (45)) (45)) (dgl ((d (624) (13 * i + 7 + 2))).toNatClampNeg)) (d (624) (13 * i + 10 + 2))) kw_528 kw_529 kw_530 kw_412 kw_527 rfl rfl hd_Mo_passVote ⟨Nat.le_of_ble_eq_true rfl, Nat.le_of_ble_eq_true rfl⟩ (As := [.int (psL (psI (psI (pvI (ppI (ppI (ppI (ppI (ppI (psI (x1) (d (624) (13 * i))) (116) (d (624) (13 * i + 1))) (115) (d (624) (13 * i + 2))) (97) (d (624) (13 * i + 3))) (108) (d (624) (13 * i + 4))) (98) (d (624) (13 * i + 5))) (d (624) (13 * i + 6))) (45)) (45)) (dgl ((d (624) (13 * i + 7 + 2))).toNatClampNeg)), .int (d (624) (13 * i + 10 + 2))]) (rest := []) rfl hl.1 rfl (Nat.le_of_ble_eq_true rfl) d_Mo_text_229 ⟨Nat.le_of_ble_eq_true rfl, Nat.le_of_ble_eq_true rfl⟩) hW (fun r d' H locs hp hW => ?_)
                        obtain ⟨hp1, hp2⟩ := hp
                        have hp1 := hp1.symm; subst hp1
                        have hp2 := hp2.symm; subst hp2
                        refine lv_istore (lv' := [(4, .int (pvI (psL (psI (psI (pvI (ppI (ppI (ppI (ppI (ppI (psI (x1) (d (624) (13 * i))) (116) (d (624) (13 * i + 1))) (115) (d (624) (13 * i + 2))) (97) (d (624) (13 * i + 3))) (108) (d (624) (13 * i + 4))) (98) (d (624) (13 * i + 5))) (d (624) (13 * i + 6))) (45)) (45)) (dgl ((d (624) (13 * i + 7 + 2))).toNatClampNeg)) (d (624) (13 * i + 10 + 2)))), (6, .int (d (624) (13 * i + 7 + 2))), (5, .int (2)), (3, .int (nI (13 * i))), (0, .ref (gad G (600))), (1, .int (nI i)), (2, .int (x1))]) hx hb d_Mo_text_232 hl (by decide) rfl (fun ls hl => ?_)
                        refine lv_iinc (v := 3) (lv' := [(5, .int (3)), (4, .int (pvI (psL (psI (psI (pvI (ppI (ppI (ppI (ppI (ppI (psI (x1) (d (624) (13 * i))) (116) (d (624) (13 * i + 1))) (115) (d (624) (13 * i + 2))) (97) (d (624) (13 * i + 3))) (108) (d (624) (13 * i + 4))) (98) (d (624) (13 * i + 5))) (d (624) (13 * i + 6))) (45)) (45)) (dgl ((d (624) (13 * i + 7 + 2))).toNatClampNeg)) (d (624) (13 * i + 10 + 2)))), (6, .int (d (624) (13 * i + 7 + 2))), (3, .int (nI (13 * i))), (0, .ref (gad G (600))), (1, .int (nI i)), (2, .int (x1))]) hx hb d_Mo_text_234 hl (k := 2) rfl (by decide) (by decide) rfl (fun ls hl => ?_)
                        refine lv_goto (tgt := 161) hx hb d_Mo_text_237 (by decide) ?_
                        refine lv_iload hx hb d_Mo_text_161 (lv_at hl 0 rfl) ?_
                        refine lv_iconst (v := 3) hx hb d_Mo_text_163 (by decide) ?_
                        refine lv_icmp_ge (tgt := 240) hx hb d_Mo_text_164 (by decide) (fun c_37 => ?_) (fun c_37 => ?_)
                        · skip
                          refine lv_iload hx hb d_Mo_text_240 (lv_at hl 1 rfl) ?_
                          refine lv_if_ge (tgt := 253) hx hb d_Mo_text_242 (by decide) (fun c_38 => ?_) (fun c_38 => ?_)
                          · skip
                            refine lv_iconst (v := -1) hx hb d_Mo_text_253 (by decide) ?_
                            have e9 : mR_text d i x1 = -1 := by
                              unfold mR_text peI pyI; rw [if_pos c_4]; unfold prI; rw [if_neg c_6, if_neg c_26, if_pos c_36]; exact if_pos c_38
                            exact e_iret hx hb hr hlk hW (mq_ok (by unfold mC_text; rw [fz, if_pos c_1, if_pos c_2]) (by simp only [cl_nI (show i < 2147483648 by omega)]; exact e9.symm) (by exact rfl)) (Nat.zero_le _) (Nat.zero_le _) d_Mo_text_254
                          · skip
                            refine lv_iload hx hb d_Mo_text_245 (lv_at hl 1 rfl) ?_
                            refine lv_ineg hx hb d_Mo_text_247 ?_
                            refine lv_iconst (v := 1) hx hb d_Mo_text_248 (by decide) ?_
                            refine lv_isub hx hb d_Mo_text_249 ?_
                            refine lv_goto (tgt := 254) hx hb d_Mo_text_250 (by decide) ?_
                            have e9 : mR_text d i x1 = (-(pvI (psL (psI (psI (pvI (ppI (ppI (ppI (ppI (ppI (psI (x1) (d (624) (13 * i))) (116) (d (624) (13 * i + 1))) (115) (d (624) (13 * i + 2))) (97) (d (624) (13 * i + 3))) (108) (d (624) (13 * i + 4))) (98) (d (624) (13 * i + 5))) (d (624) (13 * i + 6))) (45)) (45)) (dgl ((d (624) (13 * i + 7 + 2))).toNatClampNeg)) (d (624) (13 * i + 10 + 2)))) - (1) := by
                              unfold mR_text peI pyI; rw [if_pos c_4]; unfold prI; rw [if_neg c_6, if_neg c_26, if_pos c_36]; exact if_neg c_38
                            exact e_iret hx hb hr hlk hW (mq_ok (by unfold mC_text; rw [fz, if_pos c_1, if_pos c_2]) (by simp only [cl_nI (show i < 2147483648 by omega)]; exact e9.symm) (by exact rfl)) (Nat.zero_le _) (Nat.zero_le _) d_Mo_text_254
                        · exact absurd c_37 (by decide)
                      · skip
                        refine lv_aload_n hx hb d_Mo_text_197 rfl (lv_at hl 4 rfl) ?_
                        refine lv_iload hx hb d_Mo_text_198 (lv_at hl 2 rfl) ?_
                        refine lv_bipush (v := 45) hx hb d_Mo_text_200 (by decide) ?_
                        refine e_ci (e_runV hx hb hml hown hts hE hbs hW (F_Mo G hG) rfl (c_M_pass l G hG (up2 d (600) (0) (0)) (psI (psI (pvI (ppI (ppI (ppI (ppI (ppI (psI (x1) (d (624) (13 * i))) (116) (d (624) (13 * i + 1))) (115) (d (624) (13 * i + 2))) (97) (d (624) (13 * i + 3))) (108) (d (624) (13 * i + 4))) (98) (d (624) (13 * i + 5))) (d (624) (13 * i + 6))) (45)) (45)) (45)) kw_516 kw_517 kw_518 kw_412 kw_515 rfl rfl hd_Mo_pass ⟨Nat.le_of_ble_eq_true rfl, Nat.le_of_ble_eq_true rfl⟩ (As := [.int (psI (psI (pvI (ppI (ppI (ppI (ppI (ppI (psI (x1) (d (624) (13 * i))) (116) (d (624) (13 * i + 1))) (115) (d (624) (13 * i + 2))) (97) (d (624) (13 * i + 3))) (108) (d (624) (13 * i + 4))) (98) (d (624) (13 * i + 5))) (d (624) (13 * i + 6))) (45)) (45)), .int (45)]) (rest := []) rfl hl.1 rfl (Nat.le_of_ble_eq_true rfl) d_Mo_text_202 ⟨Nat.le_of_ble_eq_true rfl, Nat.le_of_ble_eq_true rfl⟩) hW (fun r d' H locs hp hW => ?_)
                        obtain ⟨hp1, hp2⟩ := hp
                        have hp1 := hp1.symm; subst hp1
                        have hp2 := hp2.symm; subst hp2
                        refine lv_goto (tgt := 232) hx hb d_Mo_text_205 (by decide) ?_
                        refine lv_istore (lv' := [(4, .int (psI (psI (psI (pvI (ppI (ppI (ppI (ppI (ppI (psI (x1) (d (624) (13 * i))) (116) (d (624) (13 * i + 1))) (115) (d (624) (13 * i + 2))) (97) (d (624) (13 * i + 3))) (108) (d (624) (13 * i + 4))) (98) (d (624) (13 * i + 5))) (d (624) (13 * i + 6))) (45)) (45)) (45))), (6, .int (d (624) (13 * i + 7 + 2))), (5, .int (2)), (3, .int (nI (13 * i))), (0, .ref (gad G (600))), (1, .int (nI i)), (2, .int (x1))]) hx hb d_Mo_text_232 hl (by decide) rfl (fun ls hl => ?_)
                        refine lv_iinc (v := 3) (lv' := [(5, .int (3)), (4, .int (psI (psI (psI (pvI (ppI (ppI (ppI (ppI (ppI (psI (x1) (d (624) (13 * i))) (116) (d (624) (13 * i + 1))) (115) (d (624) (13 * i + 2))) (97) (d (624) (13 * i + 3))) (108) (d (624) (13 * i + 4))) (98) (d (624) (13 * i + 5))) (d (624) (13 * i + 6))) (45)) (45)) (45))), (6, .int (d (624) (13 * i + 7 + 2))), (3, .int (nI (13 * i))), (0, .ref (gad G (600))), (1, .int (nI i)), (2, .int (x1))]) hx hb d_Mo_text_234 hl (k := 2) rfl (by decide) (by decide) rfl (fun ls hl => ?_)
                        refine lv_goto (tgt := 161) hx hb d_Mo_text_237 (by decide) ?_
                        refine lv_iload hx hb d_Mo_text_161 (lv_at hl 0 rfl) ?_
                        refine lv_iconst (v := 3) hx hb d_Mo_text_163 (by decide) ?_
                        refine lv_icmp_ge (tgt := 240) hx hb d_Mo_text_164 (by decide) (fun c_39 => ?_) (fun c_39 => ?_)
                        · skip
                          refine lv_iload hx hb d_Mo_text_240 (lv_at hl 1 rfl) ?_
                          refine lv_if_ge (tgt := 253) hx hb d_Mo_text_242 (by decide) (fun c_40 => ?_) (fun c_40 => ?_)
                          · skip
                            refine lv_iconst (v := -1) hx hb d_Mo_text_253 (by decide) ?_
                            have e9 : mR_text d i x1 = -1 := by
                              unfold mR_text peI pyI; rw [if_pos c_4]; unfold prI; rw [if_neg c_6, if_neg c_26, if_neg c_36]; exact if_pos c_40
                            exact e_iret hx hb hr hlk hW (mq_ok (by unfold mC_text; rw [fz, if_pos c_1, if_pos c_2]) (by simp only [cl_nI (show i < 2147483648 by omega)]; exact e9.symm) (by exact rfl)) (Nat.zero_le _) (Nat.zero_le _) d_Mo_text_254
                          · skip
                            refine lv_iload hx hb d_Mo_text_245 (lv_at hl 1 rfl) ?_
                            refine lv_ineg hx hb d_Mo_text_247 ?_
                            refine lv_iconst (v := 1) hx hb d_Mo_text_248 (by decide) ?_
                            refine lv_isub hx hb d_Mo_text_249 ?_
                            refine lv_goto (tgt := 254) hx hb d_Mo_text_250 (by decide) ?_
                            have e9 : mR_text d i x1 = (-(psI (psI (psI (pvI (ppI (ppI (ppI (ppI (ppI (psI (x1) (d (624) (13 * i))) (116) (d (624) (13 * i + 1))) (115) (d (624) (13 * i + 2))) (97) (d (624) (13 * i + 3))) (108) (d (624) (13 * i + 4))) (98) (d (624) (13 * i + 5))) (d (624) (13 * i + 6))) (45)) (45)) (45))) - (1) := by
                              unfold mR_text peI pyI; rw [if_pos c_4]; unfold prI; rw [if_neg c_6, if_neg c_26, if_neg c_36]; exact if_neg c_40
                            exact e_iret hx hb hr hlk hW (mq_ok (by unfold mC_text; rw [fz, if_pos c_1, if_pos c_2]) (by simp only [cl_nI (show i < 2147483648 by omega)]; exact e9.symm) (by exact rfl)) (Nat.zero_le _) (Nat.zero_le _) d_Mo_text_254
                        · exact absurd c_39 (by decide)
    · skip
      refine lv_aload_n hx hb d_Mo_text_27 rfl (lv_at hl 0 rfl) ?_
      refine lv_iconst (v := 2) hx hb d_Mo_text_28 (by decide) ?_
      refine e_ci (e_runV hx hb hml hown hts hE hbs hW (F_Mo G hG) rfl (c_M_fail l G hG (up2 d (600) (0) (0)) (2)) kw_487 kw_488 kw_489 kw_412 kw_486 rfl rfl hd_Mo_fail ⟨Nat.le_of_ble_eq_true rfl, Nat.le_of_ble_eq_true rfl⟩ (As := [.int (2)]) (rest := []) rfl hl.1 rfl (Nat.le_of_ble_eq_true rfl) d_Mo_text_29 ⟨Nat.le_of_ble_eq_true rfl, Nat.le_of_ble_eq_true rfl⟩) hW (fun r d' H locs hp hW => ?_)
      obtain ⟨hp1, hp2⟩ := hp
      have hp1 := hp1.symm; subst hp1
      have hp2 := hp2.symm; subst hp2
      exact e_iret hx hb hr hlk hW (mq_no (c := (2)) (by unfold mC_text; rw [fz, if_pos c_1, if_neg c_2]) (by decide) (by exact rfl)) (Nat.zero_le _) (Nat.zero_le _) d_Mo_text_32
  · skip
    refine lv_aload_n hx hb d_Mo_text_9 rfl (lv_at hl 0 rfl) ?_
    refine lv_iconst (v := 1) hx hb d_Mo_text_10 (by decide) ?_
    refine e_ci (e_runV hx hb hml hown hts hE hbs hW (F_Mo G hG) rfl (c_M_fail l G hG (up2 d (600) (0) (0)) (1)) kw_487 kw_488 kw_489 kw_412 kw_486 rfl rfl hd_Mo_fail ⟨Nat.le_of_ble_eq_true rfl, Nat.le_of_ble_eq_true rfl⟩ (As := [.int (1)]) (rest := []) rfl hl.1 rfl (Nat.le_of_ble_eq_true rfl) d_Mo_text_11 ⟨Nat.le_of_ble_eq_true rfl, Nat.le_of_ble_eq_true rfl⟩) hW (fun r d' H locs hp hW => ?_)
    obtain ⟨hp1, hp2⟩ := hp
    have hp1 := hp1.symm; subst hp1
    have hp2 := hp2.symm; subst hp2
    exact e_iret hx hb hr hlk hW (mq_no (c := 1) (by unfold mC_text; rw [if_neg c_1]) (by decide) (by exact rfl)) (Nat.zero_le _) (Nat.zero_le _) d_Mo_text_14
