theorem kw_515 : .code y_Mo_pass b_Mo_pass 3 (some .int) ∈ WS := List.mem_filter.mpr ⟨List.mem_append_right _ (List.mem_of_getElem? (i := 1113) (by decide +kernel)), by decide +kernel⟩
theorem kw_516 : .methodLink R_Mo 165 y_Mo_pass ∈ WS := List.mem_filter.mpr ⟨List.mem_append_right _ (List.mem_of_getElem? (i := 1110) (by decide +kernel)), by decide +kernel⟩
theorem kw_517 : .instanceMethod y_Mo_pass ∈ WS := List.mem_filter.mpr ⟨List.mem_append_right _ (List.mem_of_getElem? (i := 1112) (by decide +kernel)), by decide +kernel⟩
theorem kw_518 : .selects R_Mo y_Mo_pass y_Mo_pass ∈ WS := List.mem_filter.mpr ⟨List.mem_append_left _ (List.mem_of_getElem? (i := 40) (by decide +kernel)), by decide +kernel⟩
theorem kw_519 : .code y_Mo_passNumber b_Mo_passNumber 5 (some .int) ∈ WS := List.mem_filter.mpr ⟨List.mem_append_right _ (List.mem_of_getElem? (i := 1121) (by decide +kernel)), by decide +kernel⟩
theorem kw_520 : .methodLink R_Mo 168 y_Mo_passNumber ∈ WS := List.mem_filter.mpr ⟨List.mem_append_right _ (List.mem_of_getElem? (i := 1118) (by decide +kernel)), by decide +kernel⟩
theorem kw_521 : .instanceMethod y_Mo_passNumber ∈ WS := List.mem_filter.mpr ⟨List.mem_append_right _ (List.mem_of_getElem? (i := 1120) (by decide +kernel)), by decide +kernel⟩
theorem kw_522 : .selects R_Mo y_Mo_passNumber y_Mo_passNumber ∈ WS := List.mem_filter.mpr ⟨List.mem_append_left _ (List.mem_of_getElem? (i := 42) (by decide +kernel)), by decide +kernel⟩
theorem kw_523 : .code y_Mo_passPart b_Mo_passPart 4 (some .int) ∈ WS := List.mem_filter.mpr ⟨List.mem_append_right _ (List.mem_of_getElem? (i := 1117) (by decide +kernel)), by decide +kernel⟩
theorem kw_524 : .methodLink R_Mo 171 y_Mo_passPart ∈ WS := List.mem_filter.mpr ⟨List.mem_append_right _ (List.mem_of_getElem? (i := 1114) (by decide +kernel)), by decide +kernel⟩
theorem kw_525 : .instanceMethod y_Mo_passPart ∈ WS := List.mem_filter.mpr ⟨List.mem_append_right _ (List.mem_of_getElem? (i := 1116) (by decide +kernel)), by decide +kernel⟩
theorem kw_526 : .selects R_Mo y_Mo_passPart y_Mo_passPart ∈ WS := List.mem_filter.mpr ⟨List.mem_append_left _ (List.mem_of_getElem? (i := 41) (by decide +kernel)), by decide +kernel⟩
theorem kw_527 : .code y_Mo_passVote b_Mo_passVote 3 (some .int) ∈ WS := List.mem_filter.mpr ⟨List.mem_append_right _ (List.mem_of_getElem? (i := 1125) (by decide +kernel)), by decide +kernel⟩
theorem kw_528 : .methodLink R_Mo 175 y_Mo_passVote ∈ WS := List.mem_filter.mpr ⟨List.mem_append_right _ (List.mem_of_getElem? (i := 1122) (by decide +kernel)), by decide +kernel⟩
theorem kw_529 : .instanceMethod y_Mo_passVote ∈ WS := List.mem_filter.mpr ⟨List.mem_append_right _ (List.mem_of_getElem? (i := 1124) (by decide +kernel)), by decide +kernel⟩
theorem kw_530 : .selects R_Mo y_Mo_passVote y_Mo_passVote ∈ WS := List.mem_filter.mpr ⟨List.mem_append_left _ (List.mem_of_getElem? (i := 43) (by decide +kernel)), by decide +kernel⟩
theorem hd_Mo_pass : y_Mo_pass.cls ≠ "java/lang/invoke/MethodHandle" ∧ y_Mo_pass.cls ≠ "java/lang/invoke/VarHandle" ∧ (parseMethodDescriptor y_Mo_pass.desc).map (fun d => d.parameters.length) = some 2 := by decide +kernel
theorem hd_Mo_passNumber : y_Mo_passNumber.cls ≠ "java/lang/invoke/MethodHandle" ∧ y_Mo_passNumber.cls ≠ "java/lang/invoke/VarHandle" ∧ (parseMethodDescriptor y_Mo_passNumber.desc).map (fun d => d.parameters.length) = some 2 := by decide +kernel
theorem hd_Mo_passPart : y_Mo_passPart.cls ≠ "java/lang/invoke/MethodHandle" ∧ y_Mo_passPart.cls ≠ "java/lang/invoke/VarHandle" ∧ (parseMethodDescriptor y_Mo_passPart.desc).map (fun d => d.parameters.length) = some 3 := by decide +kernel
theorem hd_Mo_passVote : y_Mo_passVote.cls ≠ "java/lang/invoke/MethodHandle" ∧ y_Mo_passVote.cls ≠ "java/lang/invoke/VarHandle" ∧ (parseMethodDescriptor y_Mo_passVote.desc).map (fun d => d.parameters.length) = some 2 := by decide +kernel
set_option maxHeartbeats 4000000 in
set_option maxRecDepth 100000 in
theorem c_M_pass (l : Launch) (G : GT) (hG : GOK G) (d : DD) (l9 c9 : Int32) : Met l y_Mo_pass (.code y_Mo_pass b_Mo_pass 3 (some .int) :: WS) { frames := 0, cells := 0, slots := 0, locals := 0 } (cPre G [.ref (gad G (600)), .int (l9), .int (c9)] d) (cQi G (fun r9 u9 => r9 = psI l9 c9 ∧ u9 = d)) 0 0 (gAb G) := by
  refine c_start (own := R_Mo) (by decide +kernel) rfl (Nat.le_of_ble_eq_true rfl) ?_
  intro p e zs zm below meth zc ls C hW hl
  obtain ⟨hx, hb, hr, hml, hown, hts, hlk, hE, hbs⟩ := C
  have hK := hE.1
  have hn3 := hG.1
  have hl : lv_has ls 3 [(0, .ref (gad G (600))), (1, .int (l9)), (2, .int (c9))] := hl
  refine lv_iload_n hx hb d_Mo_pass_0 rfl (lv_at hl 1 rfl) ?_
  refine lv_if_ge (tgt := 8) hx hb d_Mo_pass_1 (by decide) (fun c_1 => ?_) (fun c_1 => ?_)
  · skip
    refine lv_iload_n hx hb d_Mo_pass_8 rfl (lv_at hl 1 rfl) ?_
    refine lv_if_ne (tgt := 19) hx hb d_Mo_pass_9 (by decide) (fun c_2 => ?_) (fun c_2 => ?_)
    · skip
      refine lv_iload_n hx hb d_Mo_pass_19 rfl (lv_at hl 1 rfl) ?_
      refine lv_iconst (v := 1) hx hb d_Mo_pass_20 (by decide) ?_
      refine lv_isub hx hb d_Mo_pass_21 ?_
      exact e_iret hx hb hr hlk hW ⟨by unfold psI; rw [if_pos c_1, if_neg c_2], by exact rfl⟩ (Nat.zero_le _) (Nat.zero_le _) d_Mo_pass_22
    · skip
      refine lv_iload_n hx hb d_Mo_pass_12 rfl (lv_at hl 2 rfl) ?_
      refine lv_ineg hx hb d_Mo_pass_13 ?_
      refine lv_iconst (v := 1) hx hb d_Mo_pass_14 (by decide) ?_
      refine lv_isub hx hb d_Mo_pass_15 ?_
      refine lv_goto (tgt := 22) hx hb d_Mo_pass_16 (by decide) ?_
      exact e_iret hx hb hr hlk hW ⟨by unfold psI; rw [if_pos c_1, if_pos c_2], by exact rfl⟩ (Nat.zero_le _) (Nat.zero_le _) d_Mo_pass_22
  · skip
    refine lv_iload_n hx hb d_Mo_pass_4 rfl (lv_at hl 1 rfl) ?_
    refine lv_goto (tgt := 22) hx hb d_Mo_pass_5 (by decide) ?_
    exact e_iret hx hb hr hlk hW ⟨by unfold psI; rw [if_neg c_1], by exact rfl⟩ (Nat.zero_le _) (Nat.zero_le _) d_Mo_pass_22
set_option maxHeartbeats 4000000 in
set_option maxRecDepth 100000 in
theorem c_M_passNumber (l : Launch) (G : GT) (hG : GOK G) (d : DD) (l9 x9 : Int32) (hx9 : ∃ v : Nat, v < 10000 ∧ x9 = nI v) : Met l y_Mo_passNumber (.code y_Mo_passNumber b_Mo_passNumber 5 (some .int) :: WS) { frames := 1, cells := 0, slots := 0, locals := 22 } (cPre G [.ref (gad G (600)), .int (l9), .int (x9)] d) (cQi G (fun r9 u9 => r9 = psL l9 (dgl (x9).toNatClampNeg) ∧ u9 = d)) 0 0 (gAb G) := by
  refine c_start (own := R_Mo) (by decide +kernel) rfl (Nat.le_of_ble_eq_true rfl) ?_
  intro p e zs zm below meth zc ls C hW hl
  obtain ⟨hx, hb, hr, hml, hown, hts, hlk, hE, hbs⟩ := C
  have hK := hE.1
  have hn3 := hG.1
  have hl : lv_has ls 5 [(0, .ref (gad G (600))), (1, .int (l9)), (2, .int (x9))] := hl
  obtain ⟨v, hv, et⟩ := hx9
  subst et
  refine lv_iconst (v := 1) hx hb d_Mo_passNumber_0 (by decide) ?_
  refine lv_istore_n (lv' := [(3, .int (1)), (0, .ref (gad G (600))), (1, .int (l9)), (2, .int (nI v))]) hx hb d_Mo_passNumber_1 rfl hl (by decide) rfl (fun ls hl => ?_)
  refine lv_iload_n hx hb d_Mo_passNumber_2 rfl (lv_at hl 3 rfl) ?_
  refine lv_iload_n hx hb d_Mo_passNumber_3 rfl (lv_at hl 0 rfl) ?_
  refine lv_idiv hx hb d_Mo_passNumber_4 (by decide) ?_
  refine e_top (v := nI (v / 1)) (pk_div (d := 1) (by omega) (by decide) (by decide)) ?_
  refine lv_bipush (v := 10) hx hb d_Mo_passNumber_5 (by decide) ?_
  refine lv_icmp_lt (tgt := 18) hx hb d_Mo_passNumber_7 (by decide) (fun c_1 => ?_) (fun c_1 => ?_)
  · skip
    have y_c_1 : v / 1 < 10 := (nI_ltI (b := 10) (by omega) (by decide)).mp c_1
    refine lv_iload_n hx hb d_Mo_passNumber_18 rfl (lv_at hl 2 rfl) ?_
    refine lv_istore (lv' := [(4, .int (l9)), (3, .int (1)), (0, .ref (gad G (600))), (1, .int (l9)), (2, .int (nI v))]) hx hb d_Mo_passNumber_19 hl (by decide) rfl (fun ls hl => ?_)
    refine lv_iload_n hx hb d_Mo_passNumber_21 rfl (lv_at hl 1 rfl) ?_
    refine lv_if_le (tgt := 50) hx hb d_Mo_passNumber_22 (by decide) (fun c_2 => ?_) (fun c_2 => ?_)
    · exact absurd c_2 (by decide)
    · skip
      refine lv_aload_n hx hb d_Mo_passNumber_25 rfl (lv_at hl 2 rfl) ?_
      refine lv_iload hx hb d_Mo_passNumber_26 (lv_at hl 0 rfl) ?_
      refine lv_bipush (v := 48) hx hb d_Mo_passNumber_28 (by decide) ?_
      refine lv_iload_n hx hb d_Mo_passNumber_30 rfl (lv_at hl 4 rfl) ?_
      refine lv_iload_n hx hb d_Mo_passNumber_31 rfl (lv_at hl 1 rfl) ?_
      refine lv_idiv hx hb d_Mo_passNumber_32 (by decide) ?_
      refine e_top (v := nI (v / 1)) (pk_div (d := 1) (by omega) (by decide) (by decide)) ?_
      refine lv_bipush (v := 10) hx hb d_Mo_passNumber_33 (by decide) ?_
      refine lv_irem hx hb d_Mo_passNumber_35 (by decide) ?_
      refine e_top (v := nI ((v / 1) % 10)) (pk_rem (d := 10) (by omega) (by decide) (by decide)) ?_
      refine lv_iadd hx hb d_Mo_passNumber_36 ?_
      refine e_top (v := nI (48 + (v / 1) % 10)) (nI_add (48) ((v / 1) % 10)) ?_
      refine e_ci (e_runV hx hb hml hown hts hE hbs hW (F_Mo G hG) rfl (c_M_pass l G hG d (l9) (nI (48 + (v / 1) % 10))) kw_516 kw_517 kw_518 kw_412 kw_515 rfl rfl hd_Mo_pass ⟨Nat.le_of_ble_eq_true rfl, Nat.le_of_ble_eq_true rfl⟩ (As := [.int (l9), .int (nI (48 + (v / 1) % 10))]) (rest := []) rfl hl.1 rfl (Nat.le_of_ble_eq_true rfl) d_Mo_passNumber_37 ⟨Nat.le_of_ble_eq_true rfl, Nat.le_of_ble_eq_true rfl⟩) hW (fun r d' H locs hp hW => ?_)
      obtain ⟨hp1, hp2⟩ := hp
      have hp1 := hp1.symm; subst hp1
      have hp2 := hp2.symm; subst hp2
      refine lv_istore (lv' := [(4, .int (psI (l9) (nI (48 + (v / 1) % 10)))), (3, .int (1)), (0, .ref (gad G (600))), (1, .int (l9)), (2, .int (nI v))]) hx hb d_Mo_passNumber_40 hl (by decide) rfl (fun ls hl => ?_)
      refine lv_iload_n hx hb d_Mo_passNumber_42 rfl (lv_at hl 1 rfl) ?_
      refine lv_bipush (v := 10) hx hb d_Mo_passNumber_43 (by decide) ?_
      refine lv_idiv hx hb d_Mo_passNumber_45 (by decide) ?_
      refine e_top (v := 0) (by decide) ?_
      refine lv_istore_n (lv' := [(3, .int (0)), (4, .int (psI (l9) (nI (48 + (v / 1) % 10)))), (0, .ref (gad G (600))), (1, .int (l9)), (2, .int (nI v))]) hx hb d_Mo_passNumber_46 rfl hl (by decide) rfl (fun ls hl => ?_)
      refine lv_goto (tgt := 21) hx hb d_Mo_passNumber_47 (by decide) ?_
      refine lv_iload_n hx hb d_Mo_passNumber_21 rfl (lv_at hl 0 rfl) ?_
      refine lv_if_le (tgt := 50) hx hb d_Mo_passNumber_22 (by decide) (fun c_3 => ?_) (fun c_3 => ?_)
      · skip
        refine lv_iload hx hb d_Mo_passNumber_50 (lv_at hl 1 rfl) ?_
        have e9 : psL l9 (dgl v) = psI (l9) (nI (48 + (v / 1) % 10)) := by
          rw [dgl1 (by omega), show v / 1 % 10 = v by omega]; rfl
        exact e_iret hx hb hr hlk hW ⟨by rw [nI_clamp (by omega)]; exact e9.symm, by exact rfl⟩ (Nat.zero_le _) (Nat.zero_le _) d_Mo_passNumber_52
      · exact absurd c_3 (by decide)
  · skip
    have y_c_1 : ¬ v / 1 < 10 := fun h => c_1 (nI_lt (b := 10) h (by decide))
    refine lv_iload_n hx hb d_Mo_passNumber_10 rfl (lv_at hl 0 rfl) ?_
    refine lv_bipush (v := 10) hx hb d_Mo_passNumber_11 (by decide) ?_
    refine lv_imul hx hb d_Mo_passNumber_13 ?_
    refine e_top (v := 10) (by decide) ?_
    refine lv_istore_n (lv' := [(3, .int (10)), (0, .ref (gad G (600))), (1, .int (l9)), (2, .int (nI v))]) hx hb d_Mo_passNumber_14 rfl hl (by decide) rfl (fun ls hl => ?_)
    refine lv_goto (tgt := 2) hx hb d_Mo_passNumber_15 (by decide) ?_
    refine lv_iload_n hx hb d_Mo_passNumber_2 rfl (lv_at hl 3 rfl) ?_
    refine lv_iload_n hx hb d_Mo_passNumber_3 rfl (lv_at hl 0 rfl) ?_
    refine lv_idiv hx hb d_Mo_passNumber_4 (by decide) ?_
    refine e_top (v := nI (v / 10)) (pk_div (d := 10) (by omega) (by decide) (by decide)) ?_
    refine lv_bipush (v := 10) hx hb d_Mo_passNumber_5 (by decide) ?_
    refine lv_icmp_lt (tgt := 18) hx hb d_Mo_passNumber_7 (by decide) (fun c_4 => ?_) (fun c_4 => ?_)
    · skip
      have y_c_4 : v / 10 < 10 := (nI_ltI (b := 10) (by omega) (by decide)).mp c_4
      refine lv_iload_n hx hb d_Mo_passNumber_18 rfl (lv_at hl 2 rfl) ?_
      refine lv_istore (lv' := [(4, .int (l9)), (3, .int (10)), (0, .ref (gad G (600))), (1, .int (l9)), (2, .int (nI v))]) hx hb d_Mo_passNumber_19 hl (by decide) rfl (fun ls hl => ?_)
      refine lv_iload_n hx hb d_Mo_passNumber_21 rfl (lv_at hl 1 rfl) ?_
      refine lv_if_le (tgt := 50) hx hb d_Mo_passNumber_22 (by decide) (fun c_5 => ?_) (fun c_5 => ?_)
      · exact absurd c_5 (by decide)
      · skip
        refine lv_aload_n hx hb d_Mo_passNumber_25 rfl (lv_at hl 2 rfl) ?_
        refine lv_iload hx hb d_Mo_passNumber_26 (lv_at hl 0 rfl) ?_
        refine lv_bipush (v := 48) hx hb d_Mo_passNumber_28 (by decide) ?_
        refine lv_iload_n hx hb d_Mo_passNumber_30 rfl (lv_at hl 4 rfl) ?_
        refine lv_iload_n hx hb d_Mo_passNumber_31 rfl (lv_at hl 1 rfl) ?_
        refine lv_idiv hx hb d_Mo_passNumber_32 (by decide) ?_
        refine e_top (v := nI (v / 10)) (pk_div (d := 10) (by omega) (by decide) (by decide)) ?_
        refine lv_bipush (v := 10) hx hb d_Mo_passNumber_33 (by decide) ?_
        refine lv_irem hx hb d_Mo_passNumber_35 (by decide) ?_
        refine e_top (v := nI ((v / 10) % 10)) (pk_rem (d := 10) (by omega) (by decide) (by decide)) ?_
        refine lv_iadd hx hb d_Mo_passNumber_36 ?_
        refine e_top (v := nI (48 + (v / 10) % 10)) (nI_add (48) ((v / 10) % 10)) ?_
        refine e_ci (e_runV hx hb hml hown hts hE hbs hW (F_Mo G hG) rfl (c_M_pass l G hG d (l9) (nI (48 + (v / 10) % 10))) kw_516 kw_517 kw_518 kw_412 kw_515 rfl rfl hd_Mo_pass ⟨Nat.le_of_ble_eq_true rfl, Nat.le_of_ble_eq_true rfl⟩ (As := [.int (l9), .int (nI (48 + (v / 10) % 10))]) (rest := []) rfl hl.1 rfl (Nat.le_of_ble_eq_true rfl) d_Mo_passNumber_37 ⟨Nat.le_of_ble_eq_true rfl, Nat.le_of_ble_eq_true rfl⟩) hW (fun r d' H locs hp hW => ?_)
        obtain ⟨hp1, hp2⟩ := hp
        have hp1 := hp1.symm; subst hp1
        have hp2 := hp2.symm; subst hp2
        refine lv_istore (lv' := [(4, .int (psI (l9) (nI (48 + (v / 10) % 10)))), (3, .int (10)), (0, .ref (gad G (600))), (1, .int (l9)), (2, .int (nI v))]) hx hb d_Mo_passNumber_40 hl (by decide) rfl (fun ls hl => ?_)
        refine lv_iload_n hx hb d_Mo_passNumber_42 rfl (lv_at hl 1 rfl) ?_
        refine lv_bipush (v := 10) hx hb d_Mo_passNumber_43 (by decide) ?_
        refine lv_idiv hx hb d_Mo_passNumber_45 (by decide) ?_
        refine e_top (v := 1) (by decide) ?_
        refine lv_istore_n (lv' := [(3, .int (1)), (4, .int (psI (l9) (nI (48 + (v / 10) % 10)))), (0, .ref (gad G (600))), (1, .int (l9)), (2, .int (nI v))]) hx hb d_Mo_passNumber_46 rfl hl (by decide) rfl (fun ls hl => ?_)
        refine lv_goto (tgt := 21) hx hb d_Mo_passNumber_47 (by decide) ?_
        refine lv_iload_n hx hb d_Mo_passNumber_21 rfl (lv_at hl 0 rfl) ?_
        refine lv_if_le (tgt := 50) hx hb d_Mo_passNumber_22 (by decide) (fun c_6 => ?_) (fun c_6 => ?_)
        · exact absurd c_6 (by decide)
        · skip
          refine lv_aload_n hx hb d_Mo_passNumber_25 rfl (lv_at hl 2 rfl) ?_
          refine lv_iload hx hb d_Mo_passNumber_26 (lv_at hl 1 rfl) ?_
          refine lv_bipush (v := 48) hx hb d_Mo_passNumber_28 (by decide) ?_
          refine lv_iload_n hx hb d_Mo_passNumber_30 rfl (lv_at hl 4 rfl) ?_
          refine lv_iload_n hx hb d_Mo_passNumber_31 rfl (lv_at hl 0 rfl) ?_
          refine lv_idiv hx hb d_Mo_passNumber_32 (by decide) ?_
          refine e_top (v := nI (v / 1)) (pk_div (d := 1) (by omega) (by decide) (by decide)) ?_
          refine lv_bipush (v := 10) hx hb d_Mo_passNumber_33 (by decide) ?_
          refine lv_irem hx hb d_Mo_passNumber_35 (by decide) ?_
          refine e_top (v := nI ((v / 1) % 10)) (pk_rem (d := 10) (by omega) (by decide) (by decide)) ?_
          refine lv_iadd hx hb d_Mo_passNumber_36 ?_
          refine e_top (v := nI (48 + (v / 1) % 10)) (nI_add (48) ((v / 1) % 10)) ?_
          refine e_ci (e_runV hx hb hml hown hts hE hbs hW (F_Mo G hG) rfl (c_M_pass l G hG d (psI (l9) (nI (48 + (v / 10) % 10))) (nI (48 + (v / 1) % 10))) kw_516 kw_517 kw_518 kw_412 kw_515 rfl rfl hd_Mo_pass ⟨Nat.le_of_ble_eq_true rfl, Nat.le_of_ble_eq_true rfl⟩ (As := [.int (psI (l9) (nI (48 + (v / 10) % 10))), .int (nI (48 + (v / 1) % 10))]) (rest := []) rfl hl.1 rfl (Nat.le_of_ble_eq_true rfl) d_Mo_passNumber_37 ⟨Nat.le_of_ble_eq_true rfl, Nat.le_of_ble_eq_true rfl⟩) hW (fun r d' H locs hp hW => ?_)
          obtain ⟨hp1, hp2⟩ := hp
          have hp1 := hp1.symm; subst hp1
          have hp2 := hp2.symm; subst hp2
          refine lv_istore (lv' := [(4, .int (psI (psI (l9) (nI (48 + (v / 10) % 10))) (nI (48 + (v / 1) % 10)))), (3, .int (1)), (0, .ref (gad G (600))), (1, .int (l9)), (2, .int (nI v))]) hx hb d_Mo_passNumber_40 hl (by decide) rfl (fun ls hl => ?_)
          refine lv_iload_n hx hb d_Mo_passNumber_42 rfl (lv_at hl 1 rfl) ?_
          refine lv_bipush (v := 10) hx hb d_Mo_passNumber_43 (by decide) ?_
          refine lv_idiv hx hb d_Mo_passNumber_45 (by decide) ?_
          refine e_top (v := 0) (by decide) ?_
          refine lv_istore_n (lv' := [(3, .int (0)), (4, .int (psI (psI (l9) (nI (48 + (v / 10) % 10))) (nI (48 + (v / 1) % 10)))), (0, .ref (gad G (600))), (1, .int (l9)), (2, .int (nI v))]) hx hb d_Mo_passNumber_46 rfl hl (by decide) rfl (fun ls hl => ?_)
          refine lv_goto (tgt := 21) hx hb d_Mo_passNumber_47 (by decide) ?_
          refine lv_iload_n hx hb d_Mo_passNumber_21 rfl (lv_at hl 0 rfl) ?_
          refine lv_if_le (tgt := 50) hx hb d_Mo_passNumber_22 (by decide) (fun c_7 => ?_) (fun c_7 => ?_)
          · skip
            refine lv_iload hx hb d_Mo_passNumber_50 (lv_at hl 1 rfl) ?_
            have e9 : psL l9 (dgl v) = psI (psI (l9) (nI (48 + (v / 10) % 10))) (nI (48 + (v / 1) % 10)) := by
              rw [dgl2 (by omega) (by omega), show v / 1 % 10 = v % 10 by omega, show v / 10 % 10 = v / 10 by omega]; rfl
            exact e_iret hx hb hr hlk hW ⟨by rw [nI_clamp (by omega)]; exact e9.symm, by exact rfl⟩ (Nat.zero_le _) (Nat.zero_le _) d_Mo_passNumber_52
          · exact absurd c_7 (by decide)
    · skip
      have y_c_4 : ¬ v / 10 < 10 := fun h => c_4 (nI_lt (b := 10) h (by decide))
      refine lv_iload_n hx hb d_Mo_passNumber_10 rfl (lv_at hl 0 rfl) ?_
      refine lv_bipush (v := 10) hx hb d_Mo_passNumber_11 (by decide) ?_
      refine lv_imul hx hb d_Mo_passNumber_13 ?_
      refine e_top (v := 100) (by decide) ?_
      refine lv_istore_n (lv' := [(3, .int (100)), (0, .ref (gad G (600))), (1, .int (l9)), (2, .int (nI v))]) hx hb d_Mo_passNumber_14 rfl hl (by decide) rfl (fun ls hl => ?_)
      refine lv_goto (tgt := 2) hx hb d_Mo_passNumber_15 (by decide) ?_
      refine lv_iload_n hx hb d_Mo_passNumber_2 rfl (lv_at hl 3 rfl) ?_
      refine lv_iload_n hx hb d_Mo_passNumber_3 rfl (lv_at hl 0 rfl) ?_
      refine lv_idiv hx hb d_Mo_passNumber_4 (by decide) ?_
      refine e_top (v := nI (v / 100)) (pk_div (d := 100) (by omega) (by decide) (by decide)) ?_
      refine lv_bipush (v := 10) hx hb d_Mo_passNumber_5 (by decide) ?_
      refine lv_icmp_lt (tgt := 18) hx hb d_Mo_passNumber_7 (by decide) (fun c_8 => ?_) (fun c_8 => ?_)
      · skip
        have y_c_8 : v / 100 < 10 := (nI_ltI (b := 10) (by omega) (by decide)).mp c_8
        refine lv_iload_n hx hb d_Mo_passNumber_18 rfl (lv_at hl 2 rfl) ?_
        refine lv_istore (lv' := [(4, .int (l9)), (3, .int (100)), (0, .ref (gad G (600))), (1, .int (l9)), (2, .int (nI v))]) hx hb d_Mo_passNumber_19 hl (by decide) rfl (fun ls hl => ?_)
        refine lv_iload_n hx hb d_Mo_passNumber_21 rfl (lv_at hl 1 rfl) ?_
        refine lv_if_le (tgt := 50) hx hb d_Mo_passNumber_22 (by decide) (fun c_9 => ?_) (fun c_9 => ?_)
        · exact absurd c_9 (by decide)
        · skip
          refine lv_aload_n hx hb d_Mo_passNumber_25 rfl (lv_at hl 2 rfl) ?_
          refine lv_iload hx hb d_Mo_passNumber_26 (lv_at hl 0 rfl) ?_
          refine lv_bipush (v := 48) hx hb d_Mo_passNumber_28 (by decide) ?_
          refine lv_iload_n hx hb d_Mo_passNumber_30 rfl (lv_at hl 4 rfl) ?_
          refine lv_iload_n hx hb d_Mo_passNumber_31 rfl (lv_at hl 1 rfl) ?_
          refine lv_idiv hx hb d_Mo_passNumber_32 (by decide) ?_
          refine e_top (v := nI (v / 100)) (pk_div (d := 100) (by omega) (by decide) (by decide)) ?_
          refine lv_bipush (v := 10) hx hb d_Mo_passNumber_33 (by decide) ?_
          refine lv_irem hx hb d_Mo_passNumber_35 (by decide) ?_
          refine e_top (v := nI ((v / 100) % 10)) (pk_rem (d := 10) (by omega) (by decide) (by decide)) ?_
          refine lv_iadd hx hb d_Mo_passNumber_36 ?_
          refine e_top (v := nI (48 + (v / 100) % 10)) (nI_add (48) ((v / 100) % 10)) ?_
          refine e_ci (e_runV hx hb hml hown hts hE hbs hW (F_Mo G hG) rfl (c_M_pass l G hG d (l9) (nI (48 + (v / 100) % 10))) kw_516 kw_517 kw_518 kw_412 kw_515 rfl rfl hd_Mo_pass ⟨Nat.le_of_ble_eq_true rfl, Nat.le_of_ble_eq_true rfl⟩ (As := [.int (l9), .int (nI (48 + (v / 100) % 10))]) (rest := []) rfl hl.1 rfl (Nat.le_of_ble_eq_true rfl) d_Mo_passNumber_37 ⟨Nat.le_of_ble_eq_true rfl, Nat.le_of_ble_eq_true rfl⟩) hW (fun r d' H locs hp hW => ?_)
          obtain ⟨hp1, hp2⟩ := hp
          have hp1 := hp1.symm; subst hp1
          have hp2 := hp2.symm; subst hp2
          refine lv_istore (lv' := [(4, .int (psI (l9) (nI (48 + (v / 100) % 10)))), (3, .int (100)), (0, .ref (gad G (600))), (1, .int (l9)), (2, .int (nI v))]) hx hb d_Mo_passNumber_40 hl (by decide) rfl (fun ls hl => ?_)
          refine lv_iload_n hx hb d_Mo_passNumber_42 rfl (lv_at hl 1 rfl) ?_
          refine lv_bipush (v := 10) hx hb d_Mo_passNumber_43 (by decide) ?_
          refine lv_idiv hx hb d_Mo_passNumber_45 (by decide) ?_
          refine e_top (v := 10) (by decide) ?_
          refine lv_istore_n (lv' := [(3, .int (10)), (4, .int (psI (l9) (nI (48 + (v / 100) % 10)))), (0, .ref (gad G (600))), (1, .int (l9)), (2, .int (nI v))]) hx hb d_Mo_passNumber_46 rfl hl (by decide) rfl (fun ls hl => ?_)
          refine lv_goto (tgt := 21) hx hb d_Mo_passNumber_47 (by decide) ?_
          refine lv_iload_n hx hb d_Mo_passNumber_21 rfl (lv_at hl 0 rfl) ?_
          refine lv_if_le (tgt := 50) hx hb d_Mo_passNumber_22 (by decide) (fun c_10 => ?_) (fun c_10 => ?_)
          · exact absurd c_10 (by decide)
          · skip
            refine lv_aload_n hx hb d_Mo_passNumber_25 rfl (lv_at hl 2 rfl) ?_
            refine lv_iload hx hb d_Mo_passNumber_26 (lv_at hl 1 rfl) ?_
            refine lv_bipush (v := 48) hx hb d_Mo_passNumber_28 (by decide) ?_
            refine lv_iload_n hx hb d_Mo_passNumber_30 rfl (lv_at hl 4 rfl) ?_
            refine lv_iload_n hx hb d_Mo_passNumber_31 rfl (lv_at hl 0 rfl) ?_
            refine lv_idiv hx hb d_Mo_passNumber_32 (by decide) ?_
            refine e_top (v := nI (v / 10)) (pk_div (d := 10) (by omega) (by decide) (by decide)) ?_
            refine lv_bipush (v := 10) hx hb d_Mo_passNumber_33 (by decide) ?_
            refine lv_irem hx hb d_Mo_passNumber_35 (by decide) ?_
            refine e_top (v := nI ((v / 10) % 10)) (pk_rem (d := 10) (by omega) (by decide) (by decide)) ?_
            refine lv_iadd hx hb d_Mo_passNumber_36 ?_
            refine e_top (v := nI (48 + (v / 10) % 10)) (nI_add (48) ((v / 10) % 10)) ?_
            refine e_ci (e_runV hx hb hml hown hts hE hbs hW (F_Mo G hG) rfl (c_M_pass l G hG d (psI (l9) (nI (48 + (v / 100) % 10))) (nI (48 + (v / 10) % 10))) kw_516 kw_517 kw_518 kw_412 kw_515 rfl rfl hd_Mo_pass ⟨Nat.le_of_ble_eq_true rfl, Nat.le_of_ble_eq_true rfl⟩ (As := [.int (psI (l9) (nI (48 + (v / 100) % 10))), .int (nI (48 + (v / 10) % 10))]) (rest := []) rfl hl.1 rfl (Nat.le_of_ble_eq_true rfl) d_Mo_passNumber_37 ⟨Nat.le_of_ble_eq_true rfl, Nat.le_of_ble_eq_true rfl⟩) hW (fun r d' H locs hp hW => ?_)
            obtain ⟨hp1, hp2⟩ := hp
            have hp1 := hp1.symm; subst hp1
            have hp2 := hp2.symm; subst hp2
            refine lv_istore (lv' := [(4, .int (psI (psI (l9) (nI (48 + (v / 100) % 10))) (nI (48 + (v / 10) % 10)))), (3, .int (10)), (0, .ref (gad G (600))), (1, .int (l9)), (2, .int (nI v))]) hx hb d_Mo_passNumber_40 hl (by decide) rfl (fun ls hl => ?_)
            refine lv_iload_n hx hb d_Mo_passNumber_42 rfl (lv_at hl 1 rfl) ?_
            refine lv_bipush (v := 10) hx hb d_Mo_passNumber_43 (by decide) ?_
            refine lv_idiv hx hb d_Mo_passNumber_45 (by decide) ?_
            refine e_top (v := 1) (by decide) ?_
            refine lv_istore_n (lv' := [(3, .int (1)), (4, .int (psI (psI (l9) (nI (48 + (v / 100) % 10))) (nI (48 + (v / 10) % 10)))), (0, .ref (gad G (600))), (1, .int (l9)), (2, .int (nI v))]) hx hb d_Mo_passNumber_46 rfl hl (by decide) rfl (fun ls hl => ?_)
            refine lv_goto (tgt := 21) hx hb d_Mo_passNumber_47 (by decide) ?_
            refine lv_iload_n hx hb d_Mo_passNumber_21 rfl (lv_at hl 0 rfl) ?_
            refine lv_if_le (tgt := 50) hx hb d_Mo_passNumber_22 (by decide) (fun c_11 => ?_) (fun c_11 => ?_)
            · exact absurd c_11 (by decide)
            · skip
              refine lv_aload_n hx hb d_Mo_passNumber_25 rfl (lv_at hl 2 rfl) ?_
              refine lv_iload hx hb d_Mo_passNumber_26 (lv_at hl 1 rfl) ?_
              refine lv_bipush (v := 48) hx hb d_Mo_passNumber_28 (by decide) ?_
              refine lv_iload_n hx hb d_Mo_passNumber_30 rfl (lv_at hl 4 rfl) ?_
              refine lv_iload_n hx hb d_Mo_passNumber_31 rfl (lv_at hl 0 rfl) ?_
              refine lv_idiv hx hb d_Mo_passNumber_32 (by decide) ?_
              refine e_top (v := nI (v / 1)) (pk_div (d := 1) (by omega) (by decide) (by decide)) ?_
              refine lv_bipush (v := 10) hx hb d_Mo_passNumber_33 (by decide) ?_
              refine lv_irem hx hb d_Mo_passNumber_35 (by decide) ?_
              refine e_top (v := nI ((v / 1) % 10)) (pk_rem (d := 10) (by omega) (by decide) (by decide)) ?_
              refine lv_iadd hx hb d_Mo_passNumber_36 ?_
              refine e_top (v := nI (48 + (v / 1) % 10)) (nI_add (48) ((v / 1) % 10)) ?_
              refine e_ci (e_runV hx hb hml hown hts hE hbs hW (F_Mo G hG) rfl (c_M_pass l G hG d (psI (psI (l9) (nI (48 + (v / 100) % 10))) (nI (48 + (v / 10) % 10))) (nI (48 + (v / 1) % 10))) kw_516 kw_517 kw_518 kw_412 kw_515 rfl rfl hd_Mo_pass ⟨Nat.le_of_ble_eq_true rfl, Nat.le_of_ble_eq_true rfl⟩ (As := [.int (psI (psI (l9) (nI (48 + (v / 100) % 10))) (nI (48 + (v / 10) % 10))), .int (nI (48 + (v / 1) % 10))]) (rest := []) rfl hl.1 rfl (Nat.le_of_ble_eq_true rfl) d_Mo_passNumber_37 ⟨Nat.le_of_ble_eq_true rfl, Nat.le_of_ble_eq_true rfl⟩) hW (fun r d' H locs hp hW => ?_)
              obtain ⟨hp1, hp2⟩ := hp
              have hp1 := hp1.symm; subst hp1
              have hp2 := hp2.symm; subst hp2
              refine lv_istore (lv' := [(4, .int (psI (psI (psI (l9) (nI (48 + (v / 100) % 10))) (nI (48 + (v / 10) % 10))) (nI (48 + (v / 1) % 10)))), (3, .int (1)), (0, .ref (gad G (600))), (1, .int (l9)), (2, .int (nI v))]) hx hb d_Mo_passNumber_40 hl (by decide) rfl (fun ls hl => ?_)
              refine lv_iload_n hx hb d_Mo_passNumber_42 rfl (lv_at hl 1 rfl) ?_
              refine lv_bipush (v := 10) hx hb d_Mo_passNumber_43 (by decide) ?_
              refine lv_idiv hx hb d_Mo_passNumber_45 (by decide) ?_
              refine e_top (v := 0) (by decide) ?_
              refine lv_istore_n (lv' := [(3, .int (0)), (4, .int (psI (psI (psI (l9) (nI (48 + (v / 100) % 10))) (nI (48 + (v / 10) % 10))) (nI (48 + (v / 1) % 10)))), (0, .ref (gad G (600))), (1, .int (l9)), (2, .int (nI v))]) hx hb d_Mo_passNumber_46 rfl hl (by decide) rfl (fun ls hl => ?_)
              refine lv_goto (tgt := 21) hx hb d_Mo_passNumber_47 (by decide) ?_
              refine lv_iload_n hx hb d_Mo_passNumber_21 rfl (lv_at hl 0 rfl) ?_
              refine lv_if_le (tgt := 50) hx hb d_Mo_passNumber_22 (by decide) (fun c_12 => ?_) (fun c_12 => ?_)
              · skip
                refine lv_iload hx hb d_Mo_passNumber_50 (lv_at hl 1 rfl) ?_
                have e9 : psL l9 (dgl v) = psI (psI (psI (l9) (nI (48 + (v / 100) % 10))) (nI (48 + (v / 10) % 10))) (nI (48 + (v / 1) % 10)) := by
                  rw [dgl3 (by omega) (by omega), show v / 1 % 10 = v % 10 by omega, show v / 100 % 10 = v / 100 by omega]; rfl
                exact e_iret hx hb hr hlk hW ⟨by rw [nI_clamp (by omega)]; exact e9.symm, by exact rfl⟩ (Nat.zero_le _) (Nat.zero_le _) d_Mo_passNumber_52
              · exact absurd c_12 (by decide)
      · skip
        have y_c_8 : ¬ v / 100 < 10 := fun h => c_8 (nI_lt (b := 10) h (by decide))
        refine lv_iload_n hx hb d_Mo_passNumber_10 rfl (lv_at hl 0 rfl) ?_
        refine lv_bipush (v := 10) hx hb d_Mo_passNumber_11 (by decide) ?_
        refine lv_imul hx hb d_Mo_passNumber_13 ?_
        refine e_top (v := 1000) (by decide) ?_
        refine lv_istore_n (lv' := [(3, .int (1000)), (0, .ref (gad G (600))), (1, .int (l9)), (2, .int (nI v))]) hx hb d_Mo_passNumber_14 rfl hl (by decide) rfl (fun ls hl => ?_)
        refine lv_goto (tgt := 2) hx hb d_Mo_passNumber_15 (by decide) ?_
        refine lv_iload_n hx hb d_Mo_passNumber_2 rfl (lv_at hl 3 rfl) ?_
        refine lv_iload_n hx hb d_Mo_passNumber_3 rfl (lv_at hl 0 rfl) ?_
        refine lv_idiv hx hb d_Mo_passNumber_4 (by decide) ?_
        refine e_top (v := nI (v / 1000)) (pk_div (d := 1000) (by omega) (by decide) (by decide)) ?_
        refine lv_bipush (v := 10) hx hb d_Mo_passNumber_5 (by decide) ?_
        refine lv_icmp_lt (tgt := 18) hx hb d_Mo_passNumber_7 (by decide) (fun c_13 => ?_) (fun c_13 => ?_)
        · skip
          have y_c_13 : v / 1000 < 10 := (nI_ltI (b := 10) (by omega) (by decide)).mp c_13
          refine lv_iload_n hx hb d_Mo_passNumber_18 rfl (lv_at hl 2 rfl) ?_
          refine lv_istore (lv' := [(4, .int (l9)), (3, .int (1000)), (0, .ref (gad G (600))), (1, .int (l9)), (2, .int (nI v))]) hx hb d_Mo_passNumber_19 hl (by decide) rfl (fun ls hl => ?_)
          refine lv_iload_n hx hb d_Mo_passNumber_21 rfl (lv_at hl 1 rfl) ?_
          refine lv_if_le (tgt := 50) hx hb d_Mo_passNumber_22 (by decide) (fun c_14 => ?_) (fun c_14 => ?_)
          · exact absurd c_14 (by decide)
          · skip
            refine lv_aload_n hx hb d_Mo_passNumber_25 rfl (lv_at hl 2 rfl) ?_
            refine lv_iload hx hb d_Mo_passNumber_26 (lv_at hl 0 rfl) ?_
            refine lv_bipush (v := 48) hx hb d_Mo_passNumber_28 (by decide) ?_
            refine lv_iload_n hx hb d_Mo_passNumber_30 rfl (lv_at hl 4 rfl) ?_
            refine lv_iload_n hx hb d_Mo_passNumber_31 rfl (lv_at hl 1 rfl) ?_
            refine lv_idiv hx hb d_Mo_passNumber_32 (by decide) ?_
            refine e_top (v := nI (v / 1000)) (pk_div (d := 1000) (by omega) (by decide) (by decide)) ?_
            refine lv_bipush (v := 10) hx hb d_Mo_passNumber_33 (by decide) ?_
            refine lv_irem hx hb d_Mo_passNumber_35 (by decide) ?_
            refine e_top (v := nI ((v / 1000) % 10)) (pk_rem (d := 10) (by omega) (by decide) (by decide)) ?_
            refine lv_iadd hx hb d_Mo_passNumber_36 ?_
            refine e_top (v := nI (48 + (v / 1000) % 10)) (nI_add (48) ((v / 1000) % 10)) ?_
            refine e_ci (e_runV hx hb hml hown hts hE hbs hW (F_Mo G hG) rfl (c_M_pass l G hG d (l9) (nI (48 + (v / 1000) % 10))) kw_516 kw_517 kw_518 kw_412 kw_515 rfl rfl hd_Mo_pass ⟨Nat.le_of_ble_eq_true rfl, Nat.le_of_ble_eq_true rfl⟩ (As := [.int (l9), .int (nI (48 + (v / 1000) % 10))]) (rest := []) rfl hl.1 rfl (Nat.le_of_ble_eq_true rfl) d_Mo_passNumber_37 ⟨Nat.le_of_ble_eq_true rfl, Nat.le_of_ble_eq_true rfl⟩) hW (fun r d' H locs hp hW => ?_)
            obtain ⟨hp1, hp2⟩ := hp
            have hp1 := hp1.symm; subst hp1
            have hp2 := hp2.symm; subst hp2
            refine lv_istore (lv' := [(4, .int (psI (l9) (nI (48 + (v / 1000) % 10)))), (3, .int (1000)), (0, .ref (gad G (600))), (1, .int (l9)), (2, .int (nI v))]) hx hb d_Mo_passNumber_40 hl (by decide) rfl (fun ls hl => ?_)
            refine lv_iload_n hx hb d_Mo_passNumber_42 rfl (lv_at hl 1 rfl) ?_
            refine lv_bipush (v := 10) hx hb d_Mo_passNumber_43 (by decide) ?_
            refine lv_idiv hx hb d_Mo_passNumber_45 (by decide) ?_
            refine e_top (v := 100) (by decide) ?_
            refine lv_istore_n (lv' := [(3, .int (100)), (4, .int (psI (l9) (nI (48 + (v / 1000) % 10)))), (0, .ref (gad G (600))), (1, .int (l9)), (2, .int (nI v))]) hx hb d_Mo_passNumber_46 rfl hl (by decide) rfl (fun ls hl => ?_)
            refine lv_goto (tgt := 21) hx hb d_Mo_passNumber_47 (by decide) ?_
            refine lv_iload_n hx hb d_Mo_passNumber_21 rfl (lv_at hl 0 rfl) ?_
            refine lv_if_le (tgt := 50) hx hb d_Mo_passNumber_22 (by decide) (fun c_15 => ?_) (fun c_15 => ?_)
            · exact absurd c_15 (by decide)
            · skip
              refine lv_aload_n hx hb d_Mo_passNumber_25 rfl (lv_at hl 2 rfl) ?_
              refine lv_iload hx hb d_Mo_passNumber_26 (lv_at hl 1 rfl) ?_
              refine lv_bipush (v := 48) hx hb d_Mo_passNumber_28 (by decide) ?_
              refine lv_iload_n hx hb d_Mo_passNumber_30 rfl (lv_at hl 4 rfl) ?_
              refine lv_iload_n hx hb d_Mo_passNumber_31 rfl (lv_at hl 0 rfl) ?_
              refine lv_idiv hx hb d_Mo_passNumber_32 (by decide) ?_
              refine e_top (v := nI (v / 100)) (pk_div (d := 100) (by omega) (by decide) (by decide)) ?_
              refine lv_bipush (v := 10) hx hb d_Mo_passNumber_33 (by decide) ?_
              refine lv_irem hx hb d_Mo_passNumber_35 (by decide) ?_
              refine e_top (v := nI ((v / 100) % 10)) (pk_rem (d := 10) (by omega) (by decide) (by decide)) ?_
              refine lv_iadd hx hb d_Mo_passNumber_36 ?_
              refine e_top (v := nI (48 + (v / 100) % 10)) (nI_add (48) ((v / 100) % 10)) ?_
              refine e_ci (e_runV hx hb hml hown hts hE hbs hW (F_Mo G hG) rfl (c_M_pass l G hG d (psI (l9) (nI (48 + (v / 1000) % 10))) (nI (48 + (v / 100) % 10))) kw_516 kw_517 kw_518 kw_412 kw_515 rfl rfl hd_Mo_pass ⟨Nat.le_of_ble_eq_true rfl, Nat.le_of_ble_eq_true rfl⟩ (As := [.int (psI (l9) (nI (48 + (v / 1000) % 10))), .int (nI (48 + (v / 100) % 10))]) (rest := []) rfl hl.1 rfl (Nat.le_of_ble_eq_true rfl) d_Mo_passNumber_37 ⟨Nat.le_of_ble_eq_true rfl, Nat.le_of_ble_eq_true rfl⟩) hW (fun r d' H locs hp hW => ?_)
              obtain ⟨hp1, hp2⟩ := hp
              have hp1 := hp1.symm; subst hp1
              have hp2 := hp2.symm; subst hp2
              refine lv_istore (lv' := [(4, .int (psI (psI (l9) (nI (48 + (v / 1000) % 10))) (nI (48 + (v / 100) % 10)))), (3, .int (100)), (0, .ref (gad G (600))), (1, .int (l9)), (2, .int (nI v))]) hx hb d_Mo_passNumber_40 hl (by decide) rfl (fun ls hl => ?_)
              refine lv_iload_n hx hb d_Mo_passNumber_42 rfl (lv_at hl 1 rfl) ?_
              refine lv_bipush (v := 10) hx hb d_Mo_passNumber_43 (by decide) ?_
              refine lv_idiv hx hb d_Mo_passNumber_45 (by decide) ?_
              refine e_top (v := 10) (by decide) ?_
              refine lv_istore_n (lv' := [(3, .int (10)), (4, .int (psI (psI (l9) (nI (48 + (v / 1000) % 10))) (nI (48 + (v / 100) % 10)))), (0, .ref (gad G (600))), (1, .int (l9)), (2, .int (nI v))]) hx hb d_Mo_passNumber_46 rfl hl (by decide) rfl (fun ls hl => ?_)
              refine lv_goto (tgt := 21) hx hb d_Mo_passNumber_47 (by decide) ?_
              refine lv_iload_n hx hb d_Mo_passNumber_21 rfl (lv_at hl 0 rfl) ?_
              refine lv_if_le (tgt := 50) hx hb d_Mo_passNumber_22 (by decide) (fun c_16 => ?_) (fun c_16 => ?_)
              · exact absurd c_16 (by decide)
              · skip
                refine lv_aload_n hx hb d_Mo_passNumber_25 rfl (lv_at hl 2 rfl) ?_
                refine lv_iload hx hb d_Mo_passNumber_26 (lv_at hl 1 rfl) ?_
                refine lv_bipush (v := 48) hx hb d_Mo_passNumber_28 (by decide) ?_
                refine lv_iload_n hx hb d_Mo_passNumber_30 rfl (lv_at hl 4 rfl) ?_
                refine lv_iload_n hx hb d_Mo_passNumber_31 rfl (lv_at hl 0 rfl) ?_
                refine lv_idiv hx hb d_Mo_passNumber_32 (by decide) ?_
                refine e_top (v := nI (v / 10)) (pk_div (d := 10) (by omega) (by decide) (by decide)) ?_
                refine lv_bipush (v := 10) hx hb d_Mo_passNumber_33 (by decide) ?_
                refine lv_irem hx hb d_Mo_passNumber_35 (by decide) ?_
                refine e_top (v := nI ((v / 10) % 10)) (pk_rem (d := 10) (by omega) (by decide) (by decide)) ?_
                refine lv_iadd hx hb d_Mo_passNumber_36 ?_
                refine e_top (v := nI (48 + (v / 10) % 10)) (nI_add (48) ((v / 10) % 10)) ?_
                refine e_ci (e_runV hx hb hml hown hts hE hbs hW (F_Mo G hG) rfl (c_M_pass l G hG d (psI (psI (l9) (nI (48 + (v / 1000) % 10))) (nI (48 + (v / 100) % 10))) (nI (48 + (v / 10) % 10))) kw_516 kw_517 kw_518 kw_412 kw_515 rfl rfl hd_Mo_pass ⟨Nat.le_of_ble_eq_true rfl, Nat.le_of_ble_eq_true rfl⟩ (As := [.int (psI (psI (l9) (nI (48 + (v / 1000) % 10))) (nI (48 + (v / 100) % 10))), .int (nI (48 + (v / 10) % 10))]) (rest := []) rfl hl.1 rfl (Nat.le_of_ble_eq_true rfl) d_Mo_passNumber_37 ⟨Nat.le_of_ble_eq_true rfl, Nat.le_of_ble_eq_true rfl⟩) hW (fun r d' H locs hp hW => ?_)
                obtain ⟨hp1, hp2⟩ := hp
                have hp1 := hp1.symm; subst hp1
                have hp2 := hp2.symm; subst hp2
                refine lv_istore (lv' := [(4, .int (psI (psI (psI (l9) (nI (48 + (v / 1000) % 10))) (nI (48 + (v / 100) % 10))) (nI (48 + (v / 10) % 10)))), (3, .int (10)), (0, .ref (gad G (600))), (1, .int (l9)), (2, .int (nI v))]) hx hb d_Mo_passNumber_40 hl (by decide) rfl (fun ls hl => ?_)
                refine lv_iload_n hx hb d_Mo_passNumber_42 rfl (lv_at hl 1 rfl) ?_
                refine lv_bipush (v := 10) hx hb d_Mo_passNumber_43 (by decide) ?_
                refine lv_idiv hx hb d_Mo_passNumber_45 (by decide) ?_
                refine e_top (v := 1) (by decide) ?_
                refine lv_istore_n (lv' := [(3, .int (1)), (4, .int (psI (psI (psI (l9) (nI (48 + (v / 1000) % 10))) (nI (48 + (v / 100) % 10))) (nI (48 + (v / 10) % 10)))), (0, .ref (gad G (600))), (1, .int (l9)), (2, .int (nI v))]) hx hb d_Mo_passNumber_46 rfl hl (by decide) rfl (fun ls hl => ?_)
                refine lv_goto (tgt := 21) hx hb d_Mo_passNumber_47 (by decide) ?_
                refine lv_iload_n hx hb d_Mo_passNumber_21 rfl (lv_at hl 0 rfl) ?_
                refine lv_if_le (tgt := 50) hx hb d_Mo_passNumber_22 (by decide) (fun c_17 => ?_) (fun c_17 => ?_)
                · exact absurd c_17 (by decide)
                · skip
                  refine lv_aload_n hx hb d_Mo_passNumber_25 rfl (lv_at hl 2 rfl) ?_
                  refine lv_iload hx hb d_Mo_passNumber_26 (lv_at hl 1 rfl) ?_
                  refine lv_bipush (v := 48) hx hb d_Mo_passNumber_28 (by decide) ?_
                  refine lv_iload_n hx hb d_Mo_passNumber_30 rfl (lv_at hl 4 rfl) ?_
                  refine lv_iload_n hx hb d_Mo_passNumber_31 rfl (lv_at hl 0 rfl) ?_
                  refine lv_idiv hx hb d_Mo_passNumber_32 (by decide) ?_
                  refine e_top (v := nI (v / 1)) (pk_div (d := 1) (by omega) (by decide) (by decide)) ?_
                  refine lv_bipush (v := 10) hx hb d_Mo_passNumber_33 (by decide) ?_
                  refine lv_irem hx hb d_Mo_passNumber_35 (by decide) ?_
                  refine e_top (v := nI ((v / 1) % 10)) (pk_rem (d := 10) (by omega) (by decide) (by decide)) ?_
                  refine lv_iadd hx hb d_Mo_passNumber_36 ?_
                  refine e_top (v := nI (48 + (v / 1) % 10)) (nI_add (48) ((v / 1) % 10)) ?_
                  refine e_ci (e_runV hx hb hml hown hts hE hbs hW (F_Mo G hG) rfl (c_M_pass l G hG d (psI (psI (psI (l9) (nI (48 + (v / 1000) % 10))) (nI (48 + (v / 100) % 10))) (nI (48 + (v / 10) % 10))) (nI (48 + (v / 1) % 10))) kw_516 kw_517 kw_518 kw_412 kw_515 rfl rfl hd_Mo_pass ⟨Nat.le_of_ble_eq_true rfl, Nat.le_of_ble_eq_true rfl⟩ (As := [.int (psI (psI (psI (l9) (nI (48 + (v / 1000) % 10))) (nI (48 + (v / 100) % 10))) (nI (48 + (v / 10) % 10))), .int (nI (48 + (v / 1) % 10))]) (rest := []) rfl hl.1 rfl (Nat.le_of_ble_eq_true rfl) d_Mo_passNumber_37 ⟨Nat.le_of_ble_eq_true rfl, Nat.le_of_ble_eq_true rfl⟩) hW (fun r d' H locs hp hW => ?_)
                  obtain ⟨hp1, hp2⟩ := hp
                  have hp1 := hp1.symm; subst hp1
                  have hp2 := hp2.symm; subst hp2
                  refine lv_istore (lv' := [(4, .int (psI (psI (psI (psI (l9) (nI (48 + (v / 1000) % 10))) (nI (48 + (v / 100) % 10))) (nI (48 + (v / 10) % 10))) (nI (48 + (v / 1) % 10)))), (3, .int (1)), (0, .ref (gad G (600))), (1, .int (l9)), (2, .int (nI v))]) hx hb d_Mo_passNumber_40 hl (by decide) rfl (fun ls hl => ?_)
                  refine lv_iload_n hx hb d_Mo_passNumber_42 rfl (lv_at hl 1 rfl) ?_
                  refine lv_bipush (v := 10) hx hb d_Mo_passNumber_43 (by decide) ?_
                  refine lv_idiv hx hb d_Mo_passNumber_45 (by decide) ?_
                  refine e_top (v := 0) (by decide) ?_
                  refine lv_istore_n (lv' := [(3, .int (0)), (4, .int (psI (psI (psI (psI (l9) (nI (48 + (v / 1000) % 10))) (nI (48 + (v / 100) % 10))) (nI (48 + (v / 10) % 10))) (nI (48 + (v / 1) % 10)))), (0, .ref (gad G (600))), (1, .int (l9)), (2, .int (nI v))]) hx hb d_Mo_passNumber_46 rfl hl (by decide) rfl (fun ls hl => ?_)
                  refine lv_goto (tgt := 21) hx hb d_Mo_passNumber_47 (by decide) ?_
                  refine lv_iload_n hx hb d_Mo_passNumber_21 rfl (lv_at hl 0 rfl) ?_
                  refine lv_if_le (tgt := 50) hx hb d_Mo_passNumber_22 (by decide) (fun c_18 => ?_) (fun c_18 => ?_)
                  · skip
                    refine lv_iload hx hb d_Mo_passNumber_50 (lv_at hl 1 rfl) ?_
                    have e9 : psL l9 (dgl v) = psI (psI (psI (psI (l9) (nI (48 + (v / 1000) % 10))) (nI (48 + (v / 100) % 10))) (nI (48 + (v / 10) % 10))) (nI (48 + (v / 1) % 10)) := by
                      rw [dgl4 (by omega), show v / 1 % 10 = v % 10 by omega, show v / 1000 % 10 = v / 1000 by omega]; rfl
                    exact e_iret hx hb hr hlk hW ⟨by rw [nI_clamp (by omega)]; exact e9.symm, by exact rfl⟩ (Nat.zero_le _) (Nat.zero_le _) d_Mo_passNumber_52
                  · exact absurd c_18 (by decide)
        · skip
          exact absurd (nI_lt (a := v / 1000) (b := 10) (by omega) (by decide)) c_13
set_option maxHeartbeats 4000000 in
set_option maxRecDepth 100000 in
theorem c_M_passPart (l : Launch) (G : GT) (hG : GOK G) (d : DD) (l9 c9 x9 : Int32) (hx9 : nmB 10000 x9) : Met l y_Mo_passPart (.code y_Mo_passPart b_Mo_passPart 4 (some .int) :: WS) { frames := 2, cells := 0, slots := 0, locals := 46 } (cPre G [.ref (gad G (600)), .int (l9), .int (c9), .int (x9)] d) (cQi G (fun r9 u9 => r9 = ppI l9 c9 x9 ∧ u9 = d)) 0 0 (gAb G) := by
  refine c_start (own := R_Mo) (by decide +kernel) rfl (Nat.le_of_ble_eq_true rfl) ?_
  intro p e zs zm below meth zc ls C hW hl
  obtain ⟨hx, hb, hr, hml, hown, hts, hlk, hE, hbs⟩ := C
  have hK := hE.1
  have hn3 := hG.1
  have hl : lv_has ls 4 [(0, .ref (gad G (600))), (1, .int (l9)), (2, .int (c9)), (3, .int (x9))] := hl
  refine lv_iload_n hx hb d_Mo_passPart_0 rfl (lv_at hl 3 rfl) ?_
  refine lv_if_ge (tgt := 8) hx hb d_Mo_passPart_1 (by decide) (fun c_1 => ?_) (fun c_1 => ?_)
  · skip
    refine lv_aload_n hx hb d_Mo_passPart_8 rfl (lv_at hl 0 rfl) ?_
    refine lv_aload_n hx hb d_Mo_passPart_9 rfl (lv_at hl 0 rfl) ?_
    refine lv_iload_n hx hb d_Mo_passPart_10 rfl (lv_at hl 1 rfl) ?_
    refine lv_iload_n hx hb d_Mo_passPart_11 rfl (lv_at hl 2 rfl) ?_
    refine e_ci (e_runV hx hb hml hown hts hE hbs hW (F_Mo G hG) rfl (c_M_pass l G hG d (l9) (c9)) kw_516 kw_517 kw_518 kw_412 kw_515 rfl rfl hd_Mo_pass ⟨Nat.le_of_ble_eq_true rfl, Nat.le_of_ble_eq_true rfl⟩ (As := [.int (l9), .int (c9)]) (rest := [.ref (gad G (600))]) rfl hl.1 rfl (Nat.le_of_ble_eq_true rfl) d_Mo_passPart_12 ⟨Nat.le_of_ble_eq_true rfl, Nat.le_of_ble_eq_true rfl⟩) hW (fun r d' H locs hp hW => ?_)
    obtain ⟨hp1, hp2⟩ := hp
    have hp1 := hp1.symm; subst hp1
    have hp2 := hp2.symm; subst hp2
    refine lv_iload_n hx hb d_Mo_passPart_15 rfl (lv_at hl 3 rfl) ?_
    refine e_ci (e_runV hx hb hml hown hts hE hbs hW (F_Mo G hG) rfl (c_M_passNumber l G hG d (psI (l9) (c9)) (x9) (nmB_pos hx9 c_1)) kw_520 kw_521 kw_522 kw_412 kw_519 rfl rfl hd_Mo_passNumber ⟨Nat.le_of_ble_eq_true rfl, Nat.le_of_ble_eq_true rfl⟩ (As := [.int (psI (l9) (c9)), .int (x9)]) (rest := []) rfl hl.1 rfl (Nat.le_of_ble_eq_true rfl) d_Mo_passPart_16 ⟨Nat.le_of_ble_eq_true rfl, Nat.le_of_ble_eq_true rfl⟩) hW (fun r d' H locs hp hW => ?_)
    obtain ⟨hp1, hp2⟩ := hp
    have hp1 := hp1.symm; subst hp1
    have hp2 := hp2.symm; subst hp2
    exact e_iret hx hb hr hlk hW ⟨by unfold ppI; rw [if_pos c_1], by exact rfl⟩ (Nat.zero_le _) (Nat.zero_le _) d_Mo_passPart_19
  · skip
    refine lv_iload_n hx hb d_Mo_passPart_4 rfl (lv_at hl 1 rfl) ?_
    refine lv_goto (tgt := 19) hx hb d_Mo_passPart_5 (by decide) ?_
    exact e_iret hx hb hr hlk hW ⟨by unfold ppI; rw [if_neg c_1], by exact rfl⟩ (Nat.zero_le _) (Nat.zero_le _) d_Mo_passPart_19
set_option maxHeartbeats 4000000 in
set_option maxRecDepth 100000 in
theorem c_M_passVote (l : Launch) (G : GT) (hG : GOK G) (d : DD) (l9 x9 : Int32) : Met l y_Mo_passVote (.code y_Mo_passVote b_Mo_passVote 3 (some .int) :: WS) { frames := 1, cells := 0, slots := 0, locals := 22 } (cPre G [.ref (gad G (600)), .int (l9), .int (x9)] d) (cQi G (fun r9 u9 => r9 = pvI l9 x9 ∧ u9 = d)) 0 0 (gAb G) := by
  refine c_start (own := R_Mo) (by decide +kernel) rfl (Nat.le_of_ble_eq_true rfl) ?_
  intro p e zs zm below meth zc ls C hW hl
  obtain ⟨hx, hb, hr, hml, hown, hts, hlk, hE, hbs⟩ := C
  have hK := hE.1
  have hn3 := hG.1
  have hl : lv_has ls 3 [(0, .ref (gad G (600))), (1, .int (l9)), (2, .int (x9))] := hl
  refine lv_iload_n hx hb d_Mo_passVote_0 rfl (lv_at hl 2 rfl) ?_
  refine lv_if_ge (tgt := 8) hx hb d_Mo_passVote_1 (by decide) (fun c_1 => ?_) (fun c_1 => ?_)
  · skip
    refine lv_aload_n hx hb d_Mo_passVote_8 rfl (lv_at hl 0 rfl) ?_
    refine lv_iload_n hx hb d_Mo_passVote_9 rfl (lv_at hl 1 rfl) ?_
    refine lv_iload_n hx hb d_Mo_passVote_10 rfl (lv_at hl 2 rfl) ?_
    refine lv_iconst (v := 1) hx hb d_Mo_passVote_11 (by decide) ?_
    refine lv_icmp_ne (tgt := 20) hx hb d_Mo_passVote_12 (by decide) (fun c_2 => ?_) (fun c_2 => ?_)
    · skip
      refine lv_bipush (v := 78) hx hb d_Mo_passVote_20 (by decide) ?_
      refine e_ci (e_runV hx hb hml hown hts hE hbs hW (F_Mo G hG) rfl (c_M_pass l G hG d (l9) (78)) kw_516 kw_517 kw_518 kw_412 kw_515 rfl rfl hd_Mo_pass ⟨Nat.le_of_ble_eq_true rfl, Nat.le_of_ble_eq_true rfl⟩ (As := [.int (l9), .int (78)]) (rest := []) rfl hl.1 rfl (Nat.le_of_ble_eq_true rfl) d_Mo_passVote_22 ⟨Nat.le_of_ble_eq_true rfl, Nat.le_of_ble_eq_true rfl⟩) hW (fun r d' H locs hp hW => ?_)
      obtain ⟨hp1, hp2⟩ := hp
      have hp1 := hp1.symm; subst hp1
      have hp2 := hp2.symm; subst hp2
      exact e_iret hx hb hr hlk hW ⟨by unfold pvI; rw [if_pos c_1, if_neg c_2], by exact rfl⟩ (Nat.zero_le _) (Nat.zero_le _) d_Mo_passVote_25
    · skip
      refine lv_bipush (v := 89) hx hb d_Mo_passVote_15 (by decide) ?_
      refine lv_goto (tgt := 22) hx hb d_Mo_passVote_17 (by decide) ?_
      refine e_ci (e_runV hx hb hml hown hts hE hbs hW (F_Mo G hG) rfl (c_M_pass l G hG d (l9) (89)) kw_516 kw_517 kw_518 kw_412 kw_515 rfl rfl hd_Mo_pass ⟨Nat.le_of_ble_eq_true rfl, Nat.le_of_ble_eq_true rfl⟩ (As := [.int (l9), .int (89)]) (rest := []) rfl hl.1 rfl (Nat.le_of_ble_eq_true rfl) d_Mo_passVote_22 ⟨Nat.le_of_ble_eq_true rfl, Nat.le_of_ble_eq_true rfl⟩) hW (fun r d' H locs hp hW => ?_)
      obtain ⟨hp1, hp2⟩ := hp
      have hp1 := hp1.symm; subst hp1
      have hp2 := hp2.symm; subst hp2
      exact e_iret hx hb hr hlk hW ⟨by unfold pvI; rw [if_pos c_1, if_pos c_2], by exact rfl⟩ (Nat.zero_le _) (Nat.zero_le _) d_Mo_passVote_25
  · skip
    refine lv_iload_n hx hb d_Mo_passVote_4 rfl (lv_at hl 1 rfl) ?_
    refine lv_goto (tgt := 25) hx hb d_Mo_passVote_5 (by decide) ?_
    exact e_iret hx hb hr hlk hW ⟨by unfold pvI; rw [if_neg c_1], by exact rfl⟩ (Nat.zero_le _) (Nat.zero_le _) d_Mo_passVote_25
