theorem kw_485 : .fieldLink R_Mo 102 "PaxosCommitModel" "transactions" "I" ∈ WS := List.mem_filter.mpr ⟨List.mem_append_right _ (List.mem_of_getElem? (i := 919) (by decide +kernel)), by decide +kernel⟩
theorem kw_486 : .code y_Mo_fail b_Mo_fail 2 (some .int) ∈ WS := List.mem_filter.mpr ⟨List.mem_append_right _ (List.mem_of_getElem? (i := 1005) (by decide +kernel)), by decide +kernel⟩
theorem kw_487 : .methodLink R_Mo 105 y_Mo_fail ∈ WS := List.mem_filter.mpr ⟨List.mem_append_right _ (List.mem_of_getElem? (i := 1002) (by decide +kernel)), by decide +kernel⟩
theorem kw_488 : .instanceMethod y_Mo_fail ∈ WS := List.mem_filter.mpr ⟨List.mem_append_right _ (List.mem_of_getElem? (i := 1004) (by decide +kernel)), by decide +kernel⟩
theorem kw_489 : .selects R_Mo y_Mo_fail y_Mo_fail ∈ WS := List.mem_filter.mpr ⟨List.mem_append_left _ (List.mem_of_getElem? (i := 21) (by decide +kernel)), by decide +kernel⟩
theorem kw_490 : .code y_Mo_out b_Mo_out 3 (some .boolean) ∈ WS := List.mem_filter.mpr ⟨List.mem_append_right _ (List.mem_of_getElem? (i := 1013) (by decide +kernel)), by decide +kernel⟩
theorem kw_491 : .methodLink R_Mo 109 y_Mo_out ∈ WS := List.mem_filter.mpr ⟨List.mem_append_right _ (List.mem_of_getElem? (i := 1010) (by decide +kernel)), by decide +kernel⟩
theorem kw_492 : .instanceMethod y_Mo_out ∈ WS := List.mem_filter.mpr ⟨List.mem_append_right _ (List.mem_of_getElem? (i := 1012) (by decide +kernel)), by decide +kernel⟩
theorem kw_493 : .selects R_Mo y_Mo_out y_Mo_out ∈ WS := List.mem_filter.mpr ⟨List.mem_append_left _ (List.mem_of_getElem? (i := 22) (by decide +kernel)), by decide +kernel⟩
theorem kw_494 : .fieldLink R_Mo 29 "PaxosCommitModel" "closed" "[Z" ∈ WS := List.mem_filter.mpr ⟨List.mem_append_right _ (List.mem_of_getElem? (i := 921) (by decide +kernel)), by decide +kernel⟩
theorem kw_495 : .code y_Mo_ones b_Mo_ones 4 (some .int) ∈ WS := List.mem_filter.mpr ⟨List.mem_append_right _ (List.mem_of_getElem? (i := 1017) (by decide +kernel)), by decide +kernel⟩
theorem kw_496 : .methodLink R_Mo 113 y_Mo_ones ∈ WS := List.mem_filter.mpr ⟨List.mem_append_right _ (List.mem_of_getElem? (i := 1014) (by decide +kernel)), by decide +kernel⟩
theorem kw_497 : .instanceMethod y_Mo_ones ∈ WS := List.mem_filter.mpr ⟨List.mem_append_right _ (List.mem_of_getElem? (i := 1016) (by decide +kernel)), by decide +kernel⟩
theorem kw_498 : .selects R_Mo y_Mo_ones y_Mo_ones ∈ WS := List.mem_filter.mpr ⟨List.mem_append_left _ (List.mem_of_getElem? (i := 23) (by decide +kernel)), by decide +kernel⟩
theorem kw_499 : .code y_Mo_upSet b_Mo_upSet 5 (some .int) ∈ WS := List.mem_filter.mpr ⟨List.mem_append_right _ (List.mem_of_getElem? (i := 1153) (by decide +kernel)), by decide +kernel⟩
theorem kw_500 : .methodLink R_Mo 178 y_Mo_upSet ∈ WS := List.mem_filter.mpr ⟨List.mem_append_right _ (List.mem_of_getElem? (i := 1150) (by decide +kernel)), by decide +kernel⟩
theorem kw_501 : .instanceMethod y_Mo_upSet ∈ WS := List.mem_filter.mpr ⟨List.mem_append_right _ (List.mem_of_getElem? (i := 1152) (by decide +kernel)), by decide +kernel⟩
theorem kw_502 : .selects R_Mo y_Mo_upSet y_Mo_upSet ∈ WS := List.mem_filter.mpr ⟨List.mem_append_left _ (List.mem_of_getElem? (i := 44) (by decide +kernel)), by decide +kernel⟩
theorem hd_Mo_fail : y_Mo_fail.cls ≠ "java/lang/invoke/MethodHandle" ∧ y_Mo_fail.cls ≠ "java/lang/invoke/VarHandle" ∧ (parseMethodDescriptor y_Mo_fail.desc).map (fun d => d.parameters.length) = some 1 := by decide +kernel
theorem hd_Mo_out : y_Mo_out.cls ≠ "java/lang/invoke/MethodHandle" ∧ y_Mo_out.cls ≠ "java/lang/invoke/VarHandle" ∧ (parseMethodDescriptor y_Mo_out.desc).map (fun d => d.parameters.length) = some 2 := by decide +kernel
theorem hd_Mo_ones : y_Mo_ones.cls ≠ "java/lang/invoke/MethodHandle" ∧ y_Mo_ones.cls ≠ "java/lang/invoke/VarHandle" ∧ (parseMethodDescriptor y_Mo_ones.desc).map (fun d => d.parameters.length) = some 1 := by decide +kernel
theorem hd_Mo_upSet : y_Mo_upSet.cls ≠ "java/lang/invoke/MethodHandle" ∧ y_Mo_upSet.cls ≠ "java/lang/invoke/VarHandle" ∧ (parseMethodDescriptor y_Mo_upSet.desc).map (fun d => d.parameters.length) = some 2 := by decide +kernel
set_option maxHeartbeats 4000000 in
set_option maxRecDepth 100000 in
theorem c_M_begin (l : Launch) (G : GT) (hG : GOK G) (d : DD) : Met l y_Mo_begin (.code y_Mo_begin b_Mo_begin 1 (some .int) :: WS) { frames := 1, cells := 0, slots := 0, locals := 21 } (cPre G [.ref (gad G (600))] d) (cQi G (mQ d (mC_begin d) (d 600 7 + 1 - 1) (up2 (up2 d 600 0 0) 600 7 (d 600 7 + 1)))) 0 0 (gAb G) := by
  refine c_start (own := R_Mo) (by decide +kernel) rfl (Nat.le_of_ble_eq_true rfl) ?_
  intro p e zs zm below meth zc ls C hW hl
  obtain ⟨hx, hb, hr, hml, hown, hts, hlk, hE, hbs⟩ := C
  have hK := hE.1
  have hn3 := hG.1
  have hl : lv_has ls 1 [(0, .ref (gad G (600)))] := hl
  refine lv_aload_n hx hb d_Mo_begin_0 rfl (lv_at hl 0 rfl) ?_
  refine lv_iconst (v := 0) hx hb d_Mo_begin_1 (by decide) ?_
  refine e_put hx hb hts hown hK hW (F_Mo G hG) i_Mo t_Mo t_Mo_ok n_Mo rfl 0 (by decide) (hts _ kw_403) (fun _ h => h) rfl (by decide +kernel) (fun _ => rfl) (fun _ => rfl) d_Mo_begin_2 (fun H locs hW => ?_)
  refine lv_aload_n hx hb d_Mo_begin_5 rfl (lv_at hl 0 rfl) ?_
  refine e_get (v := .int ((up2 d (600) (0) (0)) (600) (7))) hx hb hts hown hK hW (F_Mo G hG) i_Mo rfl 7 (by decide) (hts _ kw_485) (fun _ h => h) rfl d_Mo_begin_6 ?_
  refine e_top (v := d (600) (7)) ((up2_nk (by decide)).trans (rfl)) ?_
  refine lv_bipush (v := 8) hx hb d_Mo_begin_9 (by decide) ?_
  refine lv_icmp_ne (tgt := 20) hx hb d_Mo_begin_11 (by decide) (fun c_1 => ?_) (fun c_1 => ?_)
  · skip
    refine lv_aload_n hx hb d_Mo_begin_20 rfl (lv_at hl 0 rfl) ?_
    refine lv_dup hx hb d_Mo_begin_21 rfl ?_
    refine e_get (v := .int ((up2 d (600) (0) (0)) (600) (7))) hx hb hts hown hK hW (F_Mo G hG) i_Mo rfl 7 (by decide) (hts _ kw_485) (fun _ h => h) rfl d_Mo_begin_22 ?_
    refine e_top (v := d (600) (7)) ((up2_nk (by decide)).trans (rfl)) ?_
    refine lv_iconst (v := 1) hx hb d_Mo_begin_25 (by decide) ?_
    refine lv_iadd hx hb d_Mo_begin_26 ?_
    refine e_put hx hb hts hown hK hW (F_Mo G hG) i_Mo t_Mo t_Mo_ok n_Mo rfl 7 (by decide) (hts _ kw_485) (fun _ h => h) rfl (by decide +kernel) (fun _ => rfl) (fun _ => rfl) d_Mo_begin_27 (fun H locs hW => ?_)
    refine lv_aload_n hx hb d_Mo_begin_30 rfl (lv_at hl 0 rfl) ?_
    refine e_get (v := .int ((up2 (up2 d (600) (0) (0)) (600) (7) ((d (600) (7)) + (1))) (600) (7))) hx hb hts hown hK hW (F_Mo G hG) i_Mo rfl 7 (by decide) (hts _ kw_485) (fun _ h => h) rfl d_Mo_begin_31 ?_
    refine e_top (v := (d (600) (7)) + (1)) (up2_self) ?_
    refine lv_iconst (v := 1) hx hb d_Mo_begin_34 (by decide) ?_
    refine lv_isub hx hb d_Mo_begin_35 ?_
    exact e_iret hx hb hr hlk hW (mq_ok (by unfold mC_begin; rw [if_neg c_1]) (by exact rfl) (by exact rfl)) (Nat.zero_le _) (Nat.zero_le _) d_Mo_begin_36
  · skip
    refine lv_aload_n hx hb d_Mo_begin_14 rfl (lv_at hl 0 rfl) ?_
    refine lv_iconst (v := 1) hx hb d_Mo_begin_15 (by decide) ?_
    refine e_ci (e_runV hx hb hml hown hts hE hbs hW (F_Mo G hG) rfl (c_M_fail l G hG (up2 d (600) (0) (0)) (1)) kw_487 kw_488 kw_489 kw_412 kw_486 rfl rfl hd_Mo_fail ⟨Nat.le_of_ble_eq_true rfl, Nat.le_of_ble_eq_true rfl⟩ (As := [.int (1)]) (rest := []) rfl hl.1 rfl (Nat.le_of_ble_eq_true rfl) d_Mo_begin_16 ⟨Nat.le_of_ble_eq_true rfl, Nat.le_of_ble_eq_true rfl⟩) hW (fun r d' H locs hp hW => ?_)
    obtain ⟨hp1, hp2⟩ := hp
    have hp1 := hp1.symm; subst hp1
    have hp2 := hp2.symm; subst hp2
    exact e_iret hx hb hr hlk hW (mq_no (c := (1)) (by unfold mC_begin; rw [if_pos c_1]) (by decide) (by exact rfl)) (Nat.zero_le _) (Nat.zero_le _) d_Mo_begin_19
set_option maxHeartbeats 4000000 in
set_option maxRecDepth 100000 in
theorem c_M_write (l : Launch) (G : GT) (hG : GOK G) (d : DD) (x0 x1 x2 v : Int32) : Met l y_Mo_write (.code y_Mo_write b_Mo_write 7 (some .int) :: WS) { frames := 1, cells := 0, slots := 0, locals := 23 } (cPre G [.ref (gad G (600)), .int (x0), .int (x1), .int (x2), .int (v)] d) (cQi G (mQ d (mC_write d x0 x1 x2) (onF (withI (d 611 (3 * cl x0 + cl x1)) (cl x2)) 4) (m_write d (cl x0) (cl x1) (cl x2) v))) 0 0 (gAb G) := by
  refine c_start (own := R_Mo) (by decide +kernel) rfl (Nat.le_of_ble_eq_true rfl) ?_
  intro p e zs zm below meth zc ls C hW hl
  obtain ⟨hx, hb, hr, hml, hown, hts, hlk, hE, hbs⟩ := C
  have hK := hE.1
  have hn3 := hG.1
  have hl : lv_has ls 7 [(0, .ref (gad G (600))), (1, .int (x0)), (2, .int (x1)), (3, .int (x2)), (4, .int (v))] := hl
  refine lv_aload_n hx hb d_Mo_write_0 rfl (lv_at hl 0 rfl) ?_
  refine lv_iconst (v := 0) hx hb d_Mo_write_1 (by decide) ?_
  refine e_put hx hb hts hown hK hW (F_Mo G hG) i_Mo t_Mo t_Mo_ok n_Mo rfl 0 (by decide) (hts _ kw_403) (fun _ h => h) rfl (by decide +kernel) (fun _ => rfl) (fun _ => rfl) d_Mo_write_2 (fun H locs hW => ?_)
  refine lv_aload_n hx hb d_Mo_write_5 rfl (lv_at hl 0 rfl) ?_
  refine lv_iload_n hx hb d_Mo_write_6 rfl (lv_at hl 1 rfl) ?_
  refine lv_bipush (v := 8) hx hb d_Mo_write_7 (by decide) ?_
  refine e_ci (e_runV hx hb hml hown hts hE hbs hW (F_Mo G hG) rfl (c_M_out l G hG (up2 d (600) (0) (0)) (x0) (8)) kw_491 kw_492 kw_493 kw_412 kw_490 rfl rfl hd_Mo_out ⟨Nat.le_of_ble_eq_true rfl, Nat.le_of_ble_eq_true rfl⟩ (As := [.int (x0), .int (8)]) (rest := []) rfl hl.1 rfl (Nat.le_of_ble_eq_true rfl) d_Mo_write_9 ⟨Nat.le_of_ble_eq_true rfl, Nat.le_of_ble_eq_true rfl⟩) hW (fun r d' H locs hp hW => ?_)
  obtain ⟨hp1, hp2⟩ := hp
  have hp1 := hp1.symm; subst hp1
  have hp2 := hp2.symm; subst hp2
  refine lv_if_ne (tgt := 33) hx hb d_Mo_write_12 (by decide) (fun c_1 => ?_) (fun c_1 => ?_)
  · skip
    refine lv_aload_n hx hb d_Mo_write_33 rfl (lv_at hl 0 rfl) ?_
    refine lv_iconst (v := 1) hx hb d_Mo_write_34 (by decide) ?_
    refine e_ci (e_runV hx hb hml hown hts hE hbs hW (F_Mo G hG) rfl (c_M_fail l G hG (up2 d (600) (0) (0)) (1)) kw_487 kw_488 kw_489 kw_412 kw_486 rfl rfl hd_Mo_fail ⟨Nat.le_of_ble_eq_true rfl, Nat.le_of_ble_eq_true rfl⟩ (As := [.int (1)]) (rest := []) rfl hl.1 rfl (Nat.le_of_ble_eq_true rfl) d_Mo_write_35 ⟨Nat.le_of_ble_eq_true rfl, Nat.le_of_ble_eq_true rfl⟩) hW (fun r d' H locs hp hW => ?_)
    obtain ⟨hp1, hp2⟩ := hp
    have hp1 := hp1.symm; subst hp1
    have hp2 := hp2.symm; subst hp2
    exact e_iret hx hb hr hlk hW (mq_no (c := (1)) (by unfold mC_write; rw [if_neg c_1]) (by decide) (by exact rfl)) (Nat.zero_le _) (Nat.zero_le _) d_Mo_write_38
  · skip
    obtain ⟨t, ht, et⟩ := out_nat (B := 8) (by omega) c_1
    subst et
    refine lv_aload_n hx hb d_Mo_write_15 rfl (lv_at hl 0 rfl) ?_
    refine lv_iload_n hx hb d_Mo_write_16 rfl (lv_at hl 2 rfl) ?_
    refine lv_iconst (v := 3) hx hb d_Mo_write_17 (by decide) ?_
    refine e_ci (e_runV hx hb hml hown hts hE hbs hW (F_Mo G hG) rfl (c_M_out l G hG (up2 d (600) (0) (0)) (x1) (3)) kw_491 kw_492 kw_493 kw_412 kw_490 rfl rfl hd_Mo_out ⟨Nat.le_of_ble_eq_true rfl, Nat.le_of_ble_eq_true rfl⟩ (As := [.int (x1), .int (3)]) (rest := []) rfl hl.1 rfl (Nat.le_of_ble_eq_true rfl) d_Mo_write_18 ⟨Nat.le_of_ble_eq_true rfl, Nat.le_of_ble_eq_true rfl⟩) hW (fun r d' H locs hp hW => ?_)
    obtain ⟨hp1, hp2⟩ := hp
    have hp1 := hp1.symm; subst hp1
    have hp2 := hp2.symm; subst hp2
    refine lv_if_ne (tgt := 33) hx hb d_Mo_write_21 (by decide) (fun c_2 => ?_) (fun c_2 => ?_)
    · skip
      refine lv_aload_n hx hb d_Mo_write_33 rfl (lv_at hl 0 rfl) ?_
      refine lv_iconst (v := 1) hx hb d_Mo_write_34 (by decide) ?_
      refine e_ci (e_runV hx hb hml hown hts hE hbs hW (F_Mo G hG) rfl (c_M_fail l G hG (up2 d (600) (0) (0)) (1)) kw_487 kw_488 kw_489 kw_412 kw_486 rfl rfl hd_Mo_fail ⟨Nat.le_of_ble_eq_true rfl, Nat.le_of_ble_eq_true rfl⟩ (As := [.int (1)]) (rest := []) rfl hl.1 rfl (Nat.le_of_ble_eq_true rfl) d_Mo_write_35 ⟨Nat.le_of_ble_eq_true rfl, Nat.le_of_ble_eq_true rfl⟩) hW (fun r d' H locs hp hW => ?_)
      obtain ⟨hp1, hp2⟩ := hp
      have hp1 := hp1.symm; subst hp1
      have hp2 := hp2.symm; subst hp2
      exact e_iret hx hb hr hlk hW (mq_no (c := (1)) (by unfold mC_write; (try simp only [cl_nI (show t < 2147483648 by omega)]); rw [if_pos c_1, if_neg c_2]) (by decide) (by exact rfl)) (Nat.zero_le _) (Nat.zero_le _) d_Mo_write_38
    · skip
      obtain ⟨s, hs, et⟩ := out_nat (B := 3) (by omega) c_2
      subst et
      refine lv_aload_n hx hb d_Mo_write_24 rfl (lv_at hl 0 rfl) ?_
      refine lv_iload_n hx hb d_Mo_write_25 rfl (lv_at hl 3 rfl) ?_
      refine lv_iconst (v := 4) hx hb d_Mo_write_26 (by decide) ?_
      refine e_ci (e_runV hx hb hml hown hts hE hbs hW (F_Mo G hG) rfl (c_M_out l G hG (up2 d (600) (0) (0)) (x2) (4)) kw_491 kw_492 kw_493 kw_412 kw_490 rfl rfl hd_Mo_out ⟨Nat.le_of_ble_eq_true rfl, Nat.le_of_ble_eq_true rfl⟩ (As := [.int (x2), .int (4)]) (rest := []) rfl hl.1 rfl (Nat.le_of_ble_eq_true rfl) d_Mo_write_27 ⟨Nat.le_of_ble_eq_true rfl, Nat.le_of_ble_eq_true rfl⟩) hW (fun r d' H locs hp hW => ?_)
      obtain ⟨hp1, hp2⟩ := hp
      have hp1 := hp1.symm; subst hp1
      have hp2 := hp2.symm; subst hp2
      refine lv_if_eq (tgt := 39) hx hb d_Mo_write_30 (by decide) (fun c_3 => ?_) (fun c_3 => ?_)
      · skip
        obtain ⟨k, hk, et⟩ := out_nat (B := 4) (by omega) c_3
        subst et
        refine lv_iload_n hx hb d_Mo_write_39 rfl (lv_at hl 1 rfl) ?_
        refine lv_aload_n hx hb d_Mo_write_40 rfl (lv_at hl 0 rfl) ?_
        refine e_get (v := .int ((up2 d (600) (0) (0)) (600) (7))) hx hb hts hown hK hW (F_Mo G hG) i_Mo rfl 7 (by decide) (hts _ kw_485) (fun _ h => h) rfl d_Mo_write_41 ?_
        refine e_top (v := d (600) (7)) ((up2_nk (by decide)).trans (rfl)) ?_
        refine lv_icmp_lt (tgt := 53) hx hb d_Mo_write_44 (by decide) (fun c_4 => ?_) (fun c_4 => ?_)
        · skip
          refine lv_aload_n hx hb d_Mo_write_53 rfl (lv_at hl 0 rfl) ?_
          refine e_get (v := .ref (gad G (606))) hx hb hts hown hK hW (F_Mo G hG) i_Mo rfl 6 (by decide) (hts _ kw_409) (fun _ h => h) rfl d_Mo_write_54 ?_
          refine lv_iconst (v := 4) hx hb d_Mo_write_57 (by decide) ?_
          refine lv_iload_n hx hb d_Mo_write_58 rfl (lv_at hl 2 rfl) ?_
          refine lv_imul hx hb d_Mo_write_59 ?_
          refine e_top (v := nI (4 * s)) (pk_mul (4) (s)) ?_
          refine lv_iload_n hx hb d_Mo_write_60 rfl (lv_at hl 3 rfl) ?_
          refine lv_iadd hx hb d_Mo_write_61 ?_
          refine e_top (v := nI (4 * s + k)) (nI_add (4 * s) (k)) ?_
          refine e_iald hx hb hK hW (F_Mlock G hG) (j := 4 * s + k) (by omega) (x := d (606) (4 * s + k)) ((up2_nc (by omega)).trans (rfl)) rfl d_Mo_write_62 ?_
          refine lv_istore (lv' := [(5, .int (d (606) (4 * s + k))), (0, .ref (gad G (600))), (1, .int (nI t)), (2, .int (nI s)), (3, .int (nI k)), (4, .int (v))]) hx hb d_Mo_write_63 hl (by decide) rfl (fun ls hl => ?_)
          refine lv_aload_n hx hb d_Mo_write_65 rfl (lv_at hl 1 rfl) ?_
          refine e_get (v := .ref (gad G (602))) hx hb hts hown hK hW (F_Mo G hG) i_Mo rfl 2 (by decide) (hts _ kw_458) (fun _ h => h) rfl d_Mo_write_66 ?_
          refine lv_iload_n hx hb d_Mo_write_69 rfl (lv_at hl 3 rfl) ?_
          refine e_zald hx hb hK hW (F_MstoreDown G hG) (j := s) hs (x := d (602) (s)) ((up2_nc (by omega)).trans (rfl)) rfl d_Mo_write_70 ?_
          refine lv_if_ne (tgt := 85) hx hb d_Mo_write_71 (by decide) (fun c_5 => ?_) (fun c_5 => ?_)
          · skip
            refine lv_aload_n hx hb d_Mo_write_85 rfl (lv_at hl 1 rfl) ?_
            refine lv_iconst (v := 3) hx hb d_Mo_write_86 (by decide) ?_
            refine e_ci (e_runV hx hb hml hown hts hE hbs hW (F_Mo G hG) rfl (c_M_fail l G hG (up2 d (600) (0) (0)) (3)) kw_487 kw_488 kw_489 kw_412 kw_486 rfl rfl hd_Mo_fail ⟨Nat.le_of_ble_eq_true rfl, Nat.le_of_ble_eq_true rfl⟩ (As := [.int (3)]) (rest := []) rfl hl.1 rfl (Nat.le_of_ble_eq_true rfl) d_Mo_write_87 ⟨Nat.le_of_ble_eq_true rfl, Nat.le_of_ble_eq_true rfl⟩) hW (fun r d' H locs hp hW => ?_)
            obtain ⟨hp1, hp2⟩ := hp
            have hp1 := hp1.symm; subst hp1
            have hp2 := hp2.symm; subst hp2
            exact e_iret hx hb hr hlk hW (mq_no (c := (3)) (by unfold mC_write; (try simp only [cl_nI (show t < 2147483648 by omega), cl_nI (show s < 2147483648 by omega), cl_nI (show k < 2147483648 by omega)]); rw [if_pos c_1, if_pos c_2, if_pos c_3, if_pos c_4, if_neg c_5]) (by decide) (by exact rfl)) (Nat.zero_le _) (Nat.zero_le _) d_Mo_write_90
          · skip
            refine lv_iload hx hb d_Mo_write_74 (lv_at hl 0 rfl) ?_
            refine lv_if_lt (tgt := 91) hx hb d_Mo_write_76 (by decide) (fun c_6 => ?_) (fun c_6 => ?_)
            · skip
              refine lv_iconst (v := 3) hx hb d_Mo_write_91 (by decide) ?_
              refine lv_iload_n hx hb d_Mo_write_92 rfl (lv_at hl 2 rfl) ?_
              refine lv_imul hx hb d_Mo_write_93 ?_
              refine e_top (v := nI (3 * t)) (pk_mul (3) (t)) ?_
              refine lv_iload_n hx hb d_Mo_write_94 rfl (lv_at hl 3 rfl) ?_
              refine lv_iadd hx hb d_Mo_write_95 ?_
              refine e_top (v := nI (3 * t + s)) (nI_add (3 * t) (s)) ?_
              refine lv_istore (lv' := [(6, .int (nI (3 * t + s))), (5, .int (d (606) (4 * s + k))), (0, .ref (gad G (600))), (1, .int (nI t)), (2, .int (nI s)), (3, .int (nI k)), (4, .int (v))]) hx hb d_Mo_write_96 hl (by decide) rfl (fun ls hl => ?_)
              refine lv_aload_n hx hb d_Mo_write_98 rfl (lv_at hl 2 rfl) ?_
              refine e_get (v := .ref (gad G (609))) hx hb hts hown hK hW (F_Mo G hG) i_Mo rfl 9 (by decide) (hts _ kw_494) (fun _ h => h) rfl d_Mo_write_99 ?_
              refine lv_iload_n hx hb d_Mo_write_102 rfl (lv_at hl 3 rfl) ?_
              refine e_zald hx hb hK hW (F_Mclosed G hG) (j := t) ht (x := d (609) (t)) ((up2_nc (by omega)).trans (rfl)) rfl d_Mo_write_103 ?_
              refine lv_if_ne (tgt := 118) hx hb d_Mo_write_104 (by decide) (fun c_7 => ?_) (fun c_7 => ?_)
              · skip
                refine lv_aload_n hx hb d_Mo_write_118 rfl (lv_at hl 2 rfl) ?_
                refine lv_iconst (v := 4) hx hb d_Mo_write_119 (by decide) ?_
                refine e_ci (e_runV hx hb hml hown hts hE hbs hW (F_Mo G hG) rfl (c_M_fail l G hG (up2 d (600) (0) (0)) (4)) kw_487 kw_488 kw_489 kw_412 kw_486 rfl rfl hd_Mo_fail ⟨Nat.le_of_ble_eq_true rfl, Nat.le_of_ble_eq_true rfl⟩ (As := [.int (4)]) (rest := []) rfl hl.1 rfl (Nat.le_of_ble_eq_true rfl) d_Mo_write_120 ⟨Nat.le_of_ble_eq_true rfl, Nat.le_of_ble_eq_true rfl⟩) hW (fun r d' H locs hp hW => ?_)
                obtain ⟨hp1, hp2⟩ := hp
                have hp1 := hp1.symm; subst hp1
                have hp2 := hp2.symm; subst hp2
                exact e_iret hx hb hr hlk hW (mq_no (c := (4)) (by unfold mC_write; (try simp only [cl_nI (show t < 2147483648 by omega), cl_nI (show s < 2147483648 by omega), cl_nI (show k < 2147483648 by omega)]); rw [if_pos c_1, if_pos c_2, if_pos c_3, if_pos c_4, if_pos c_5, if_pos c_6, if_neg c_7]) (by decide) (by exact rfl)) (Nat.zero_le _) (Nat.zero_le _) d_Mo_write_123
              · skip
                refine lv_aload_n hx hb d_Mo_write_107 rfl (lv_at hl 2 rfl) ?_
                refine e_get (v := .ref (gad G (610))) hx hb hts hown hK hW (F_Mo G hG) i_Mo rfl 10 (by decide) (hts _ kw_410) (fun _ h => h) rfl d_Mo_write_108 ?_
                refine lv_iload hx hb d_Mo_write_111 (lv_at hl 0 rfl) ?_
                refine e_iald hx hb hK hW (F_Mstate G hG) (j := 3 * t + s) (by omega) (x := d (610) (3 * t + s)) ((up2_nc (by omega)).trans (rfl)) rfl d_Mo_write_113 ?_
                refine lv_iconst (v := 1) hx hb d_Mo_write_114 (by decide) ?_
                refine lv_icmp_le (tgt := 124) hx hb d_Mo_write_115 (by decide) (fun c_8 => ?_) (fun c_8 => ?_)
                · skip
                  refine lv_aload_n hx hb d_Mo_write_124 rfl (lv_at hl 2 rfl) ?_
                  refine e_get (v := .ref (gad G (610))) hx hb hts hown hK hW (F_Mo G hG) i_Mo rfl 10 (by decide) (hts _ kw_410) (fun _ h => h) rfl d_Mo_write_125 ?_
                  refine lv_iload hx hb d_Mo_write_128 (lv_at hl 0 rfl) ?_
                  refine lv_iconst (v := 1) hx hb d_Mo_write_130 (by decide) ?_
                  refine e_iast hx hb hK hW (F_Mstate G hG) (j := 3 * t + s) (by omega) rfl d_Mo_write_131 (fun H locs hW => ?_)
                  refine lv_aload_n hx hb d_Mo_write_132 rfl (lv_at hl 2 rfl) ?_
                  refine e_get (v := .ref (gad G (608))) hx hb hts hown hK hW (F_Mo G hG) i_Mo rfl 8 (by decide) (hts _ kw_405) (fun _ h => h) rfl d_Mo_write_133 ?_
                  refine lv_iload_n hx hb d_Mo_write_136 rfl (lv_at hl 3 rfl) ?_
                  refine lv_dup2_11 hx hb d_Mo_write_137 rfl rfl ?_
                  refine e_iald hx hb hK hW (F_Mmembers G hG) (j := t) ht (x := d (608) (t)) ((up2_nc (by omega)).trans ((up2_nc (by omega)).trans (rfl))) rfl d_Mo_write_138 ?_
                  refine lv_iconst (v := 1) hx hb d_Mo_write_139 (by decide) ?_
                  refine lv_iload_n hx hb d_Mo_write_140 rfl (lv_at hl 4 rfl) ?_
                  refine lv_ishl hx hb d_Mo_write_141 ?_
                  refine lv_ior hx hb d_Mo_write_142 ?_
                  refine e_iast hx hb hK hW (F_Mmembers G hG) (j := t) ht rfl d_Mo_write_143 (fun H locs hW => ?_)
                  refine lv_aload_n hx hb d_Mo_write_144 rfl (lv_at hl 2 rfl) ?_
                  refine e_get (v := .ref (gad G (606))) hx hb hts hown hK hW (F_Mo G hG) i_Mo rfl 6 (by decide) (hts _ kw_409) (fun _ h => h) rfl d_Mo_write_145 ?_
                  refine lv_iconst (v := 4) hx hb d_Mo_write_148 (by decide) ?_
                  refine lv_iload_n hx hb d_Mo_write_149 rfl (lv_at hl 4 rfl) ?_
                  refine lv_imul hx hb d_Mo_write_150 ?_
                  refine e_top (v := nI (4 * s)) (pk_mul (4) (s)) ?_
                  refine lv_iload_n hx hb d_Mo_write_151 rfl (lv_at hl 5 rfl) ?_
                  refine lv_iadd hx hb d_Mo_write_152 ?_
                  refine e_top (v := nI (4 * s + k)) (nI_add (4 * s) (k)) ?_
                  refine lv_iload_n hx hb d_Mo_write_153 rfl (lv_at hl 3 rfl) ?_
                  refine e_iast hx hb hK hW (F_Mlock G hG) (j := 4 * s + k) (by omega) rfl d_Mo_write_154 (fun H locs hW => ?_)
                  refine lv_aload_n hx hb d_Mo_write_155 rfl (lv_at hl 2 rfl) ?_
                  refine e_get (v := .ref (gad G (611))) hx hb hts hown hK hW (F_Mo G hG) i_Mo rfl 11 (by decide) (hts _ kw_455) (fun _ h => h) rfl d_Mo_write_156 ?_
                  refine lv_iload hx hb d_Mo_write_159 (lv_at hl 0 rfl) ?_
                  refine lv_dup2_11 hx hb d_Mo_write_161 rfl rfl ?_
                  refine e_iald hx hb hK hW (F_Mwrites G hG) (j := 3 * t + s) (by omega) (x := d (611) (3 * t + s)) ((up2_nc (by omega)).trans ((up2_nc (by omega)).trans ((up2_nc (by omega)).trans ((up2_nc (by omega)).trans (rfl))))) rfl d_Mo_write_162 ?_
                  refine lv_iconst (v := 1) hx hb d_Mo_write_163 (by decide) ?_
                  refine lv_iload_n hx hb d_Mo_write_164 rfl (lv_at hl 5 rfl) ?_
                  refine lv_ishl hx hb d_Mo_write_165 ?_
                  refine lv_ior hx hb d_Mo_write_166 ?_
                  refine e_iast hx hb hK hW (F_Mwrites G hG) (j := 3 * t + s) (by omega) rfl d_Mo_write_167 (fun H locs hW => ?_)
                  refine lv_aload_n hx hb d_Mo_write_168 rfl (lv_at hl 2 rfl) ?_
                  refine e_get (v := .ref (gad G (612))) hx hb hts hown hK hW (F_Mo G hG) i_Mo rfl 12 (by decide) (hts _ kw_457) (fun _ h => h) rfl d_Mo_write_169 ?_
                  refine lv_iconst (v := 4) hx hb d_Mo_write_172 (by decide) ?_
                  refine lv_iload hx hb d_Mo_write_173 (lv_at hl 0 rfl) ?_
                  refine lv_imul hx hb d_Mo_write_175 ?_
                  refine e_top (v := nI (4 * (3 * t + s))) (pk_mul (4) (3 * t + s)) ?_
                  refine lv_iload_n hx hb d_Mo_write_176 rfl (lv_at hl 5 rfl) ?_
                  refine lv_iadd hx hb d_Mo_write_177 ?_
                  refine e_top (v := nI (4 * (3 * t + s) + k)) (nI_add (4 * (3 * t + s)) (k)) ?_
                  refine lv_iload hx hb d_Mo_write_178 (lv_at hl 6 rfl) ?_
                  refine e_iast hx hb hK hW (F_Mwritten G hG) (j := 4 * (3 * t + s) + k) (by omega) rfl d_Mo_write_180 (fun H locs hW => ?_)
                  refine lv_aload_n hx hb d_Mo_write_181 rfl (lv_at hl 2 rfl) ?_
                  refine lv_aload_n hx hb d_Mo_write_182 rfl (lv_at hl 2 rfl) ?_
                  refine e_get (v := .ref (gad G (611))) hx hb hts hown hK hW (F_Mo G hG) i_Mo rfl 11 (by decide) (hts _ kw_455) (fun _ h => h) rfl d_Mo_write_183 ?_
                  refine lv_iload hx hb d_Mo_write_186 (lv_at hl 0 rfl) ?_
                  refine e_iald hx hb hK hW (F_Mwrites G hG) (j := 3 * t + s) (by omega) (x := (d (611) (3 * t + s)) ||| ((1) <<< ((nI k) &&& 31))) ((up2_nc (by omega)).trans up2_self) rfl d_Mo_write_188 ?_
                  refine e_ci (e_runV hx hb hml hown hts hE hbs hW (F_Mo G hG) rfl (c_M_ones l G hG (up2 (up2 (up2 (up2 (up2 (up2 d (600) (0) (0)) (610) (3 * t + s) (1)) (608) (t) ((d (608) (t)) ||| ((1) <<< ((nI s) &&& 31)))) (606) (4 * s + k) (nI t)) (611) (3 * t + s) ((d (611) (3 * t + s)) ||| ((1) <<< ((nI k) &&& 31)))) (612) (4 * (3 * t + s) + k) (v)) ((d (611) (3 * t + s)) ||| ((1) <<< ((nI k) &&& 31)))) kw_496 kw_497 kw_498 kw_412 kw_495 rfl rfl hd_Mo_ones ⟨Nat.le_of_ble_eq_true rfl, Nat.le_of_ble_eq_true rfl⟩ (As := [.int ((d (611) (3 * t + s)) ||| ((1) <<< ((nI k) &&& 31)))]) (rest := []) rfl hl.1 rfl (Nat.le_of_ble_eq_true rfl) d_Mo_write_189 ⟨Nat.le_of_ble_eq_true rfl, Nat.le_of_ble_eq_true rfl⟩) hW (fun r d' H locs hp hW => ?_)
                  obtain ⟨hp1, hp2⟩ := hp
                  have hp1 := hp1.symm; subst hp1
                  have hp2 := hp2.symm; subst hp2
                  exact e_iret hx hb hr hlk hW (mq_ok (by unfold mC_write; (try simp only [cl_nI (show t < 2147483648 by omega), cl_nI (show s < 2147483648 by omega), cl_nI (show k < 2147483648 by omega)]); rw [if_pos c_1, if_pos c_2, if_pos c_3, if_pos c_4, if_pos c_5, if_pos c_6, if_pos c_7, if_pos c_8]) (by first | (simp only [cl_nI (show t < 2147483648 by omega), cl_nI (show s < 2147483648 by omega), cl_nI (show k < 2147483648 by omega)]; done) | (simp only [cl_nI (show t < 2147483648 by omega), cl_nI (show s < 2147483648 by omega), cl_nI (show k < 2147483648 by omega)]; exact rfl; done) | (exact rfl; done)) (by first | (simp only [cl_nI (show t < 2147483648 by omega), cl_nI (show s < 2147483648 by omega), cl_nI (show k < 2147483648 by omega)]; done) | (simp only [cl_nI (show t < 2147483648 by omega), cl_nI (show s < 2147483648 by omega), cl_nI (show k < 2147483648 by omega)]; exact rfl; done) | (exact rfl; done))) (Nat.zero_le _) (Nat.zero_le _) d_Mo_write_192
                · skip
                  refine lv_aload_n hx hb d_Mo_write_118 rfl (lv_at hl 2 rfl) ?_
                  refine lv_iconst (v := 4) hx hb d_Mo_write_119 (by decide) ?_
                  refine e_ci (e_runV hx hb hml hown hts hE hbs hW (F_Mo G hG) rfl (c_M_fail l G hG (up2 d (600) (0) (0)) (4)) kw_487 kw_488 kw_489 kw_412 kw_486 rfl rfl hd_Mo_fail ⟨Nat.le_of_ble_eq_true rfl, Nat.le_of_ble_eq_true rfl⟩ (As := [.int (4)]) (rest := []) rfl hl.1 rfl (Nat.le_of_ble_eq_true rfl) d_Mo_write_120 ⟨Nat.le_of_ble_eq_true rfl, Nat.le_of_ble_eq_true rfl⟩) hW (fun r d' H locs hp hW => ?_)
                  obtain ⟨hp1, hp2⟩ := hp
                  have hp1 := hp1.symm; subst hp1
                  have hp2 := hp2.symm; subst hp2
                  exact e_iret hx hb hr hlk hW (mq_no (c := (4)) (by unfold mC_write; (try simp only [cl_nI (show t < 2147483648 by omega), cl_nI (show s < 2147483648 by omega), cl_nI (show k < 2147483648 by omega)]); rw [if_pos c_1, if_pos c_2, if_pos c_3, if_pos c_4, if_pos c_5, if_pos c_6, if_pos c_7, if_neg c_8]) (by decide) (by exact rfl)) (Nat.zero_le _) (Nat.zero_le _) d_Mo_write_123
            · skip
              refine lv_iload hx hb d_Mo_write_79 (lv_at hl 0 rfl) ?_
              refine lv_iload_n hx hb d_Mo_write_81 rfl (lv_at hl 2 rfl) ?_
              refine lv_icmp_eq (tgt := 91) hx hb d_Mo_write_82 (by decide) (fun c_9 => ?_) (fun c_9 => ?_)
              · skip
                refine lv_iconst (v := 3) hx hb d_Mo_write_91 (by decide) ?_
                refine lv_iload_n hx hb d_Mo_write_92 rfl (lv_at hl 2 rfl) ?_
                refine lv_imul hx hb d_Mo_write_93 ?_
                refine e_top (v := nI (3 * t)) (pk_mul (3) (t)) ?_
                refine lv_iload_n hx hb d_Mo_write_94 rfl (lv_at hl 3 rfl) ?_
                refine lv_iadd hx hb d_Mo_write_95 ?_
                refine e_top (v := nI (3 * t + s)) (nI_add (3 * t) (s)) ?_
                refine lv_istore (lv' := [(6, .int (nI (3 * t + s))), (5, .int (d (606) (4 * s + k))), (0, .ref (gad G (600))), (1, .int (nI t)), (2, .int (nI s)), (3, .int (nI k)), (4, .int (v))]) hx hb d_Mo_write_96 hl (by decide) rfl (fun ls hl => ?_)
                refine lv_aload_n hx hb d_Mo_write_98 rfl (lv_at hl 2 rfl) ?_
                refine e_get (v := .ref (gad G (609))) hx hb hts hown hK hW (F_Mo G hG) i_Mo rfl 9 (by decide) (hts _ kw_494) (fun _ h => h) rfl d_Mo_write_99 ?_
                refine lv_iload_n hx hb d_Mo_write_102 rfl (lv_at hl 3 rfl) ?_
                refine e_zald hx hb hK hW (F_Mclosed G hG) (j := t) ht (x := d (609) (t)) ((up2_nc (by omega)).trans (rfl)) rfl d_Mo_write_103 ?_
                refine lv_if_ne (tgt := 118) hx hb d_Mo_write_104 (by decide) (fun c_10 => ?_) (fun c_10 => ?_)
                · skip
                  refine lv_aload_n hx hb d_Mo_write_118 rfl (lv_at hl 2 rfl) ?_
                  refine lv_iconst (v := 4) hx hb d_Mo_write_119 (by decide) ?_
                  refine e_ci (e_runV hx hb hml hown hts hE hbs hW (F_Mo G hG) rfl (c_M_fail l G hG (up2 d (600) (0) (0)) (4)) kw_487 kw_488 kw_489 kw_412 kw_486 rfl rfl hd_Mo_fail ⟨Nat.le_of_ble_eq_true rfl, Nat.le_of_ble_eq_true rfl⟩ (As := [.int (4)]) (rest := []) rfl hl.1 rfl (Nat.le_of_ble_eq_true rfl) d_Mo_write_120 ⟨Nat.le_of_ble_eq_true rfl, Nat.le_of_ble_eq_true rfl⟩) hW (fun r d' H locs hp hW => ?_)
                  obtain ⟨hp1, hp2⟩ := hp
                  have hp1 := hp1.symm; subst hp1
                  have hp2 := hp2.symm; subst hp2
                  exact e_iret hx hb hr hlk hW (mq_no (c := (4)) (by unfold mC_write; (try simp only [cl_nI (show t < 2147483648 by omega), cl_nI (show s < 2147483648 by omega), cl_nI (show k < 2147483648 by omega)]); rw [if_pos c_1, if_pos c_2, if_pos c_3, if_pos c_4, if_pos c_5, if_neg c_6, if_pos c_9, if_neg c_10]) (by decide) (by exact rfl)) (Nat.zero_le _) (Nat.zero_le _) d_Mo_write_123
                · skip
                  refine lv_aload_n hx hb d_Mo_write_107 rfl (lv_at hl 2 rfl) ?_
                  refine e_get (v := .ref (gad G (610))) hx hb hts hown hK hW (F_Mo G hG) i_Mo rfl 10 (by decide) (hts _ kw_410) (fun _ h => h) rfl d_Mo_write_108 ?_
                  refine lv_iload hx hb d_Mo_write_111 (lv_at hl 0 rfl) ?_
                  refine e_iald hx hb hK hW (F_Mstate G hG) (j := 3 * t + s) (by omega) (x := d (610) (3 * t + s)) ((up2_nc (by omega)).trans (rfl)) rfl d_Mo_write_113 ?_
                  refine lv_iconst (v := 1) hx hb d_Mo_write_114 (by decide) ?_
                  refine lv_icmp_le (tgt := 124) hx hb d_Mo_write_115 (by decide) (fun c_11 => ?_) (fun c_11 => ?_)
                  · skip
                    refine lv_aload_n hx hb d_Mo_write_124 rfl (lv_at hl 2 rfl) ?_
                    refine e_get (v := .ref (gad G (610))) hx hb hts hown hK hW (F_Mo G hG) i_Mo rfl 10 (by decide) (hts _ kw_410) (fun _ h => h) rfl d_Mo_write_125 ?_
                    refine lv_iload hx hb d_Mo_write_128 (lv_at hl 0 rfl) ?_
                    refine lv_iconst (v := 1) hx hb d_Mo_write_130 (by decide) ?_
                    refine e_iast hx hb hK hW (F_Mstate G hG) (j := 3 * t + s) (by omega) rfl d_Mo_write_131 (fun H locs hW => ?_)
                    refine lv_aload_n hx hb d_Mo_write_132 rfl (lv_at hl 2 rfl) ?_
                    refine e_get (v := .ref (gad G (608))) hx hb hts hown hK hW (F_Mo G hG) i_Mo rfl 8 (by decide) (hts _ kw_405) (fun _ h => h) rfl d_Mo_write_133 ?_
                    refine lv_iload_n hx hb d_Mo_write_136 rfl (lv_at hl 3 rfl) ?_
                    refine lv_dup2_11 hx hb d_Mo_write_137 rfl rfl ?_
                    refine e_iald hx hb hK hW (F_Mmembers G hG) (j := t) ht (x := d (608) (t)) ((up2_nc (by omega)).trans ((up2_nc (by omega)).trans (rfl))) rfl d_Mo_write_138 ?_
                    refine lv_iconst (v := 1) hx hb d_Mo_write_139 (by decide) ?_
                    refine lv_iload_n hx hb d_Mo_write_140 rfl (lv_at hl 4 rfl) ?_
                    refine lv_ishl hx hb d_Mo_write_141 ?_
                    refine lv_ior hx hb d_Mo_write_142 ?_
                    refine e_iast hx hb hK hW (F_Mmembers G hG) (j := t) ht rfl d_Mo_write_143 (fun H locs hW => ?_)
                    refine lv_aload_n hx hb d_Mo_write_144 rfl (lv_at hl 2 rfl) ?_
                    refine e_get (v := .ref (gad G (606))) hx hb hts hown hK hW (F_Mo G hG) i_Mo rfl 6 (by decide) (hts _ kw_409) (fun _ h => h) rfl d_Mo_write_145 ?_
                    refine lv_iconst (v := 4) hx hb d_Mo_write_148 (by decide) ?_
                    refine lv_iload_n hx hb d_Mo_write_149 rfl (lv_at hl 4 rfl) ?_
                    refine lv_imul hx hb d_Mo_write_150 ?_
                    refine e_top (v := nI (4 * s)) (pk_mul (4) (s)) ?_
                    refine lv_iload_n hx hb d_Mo_write_151 rfl (lv_at hl 5 rfl) ?_
                    refine lv_iadd hx hb d_Mo_write_152 ?_
                    refine e_top (v := nI (4 * s + k)) (nI_add (4 * s) (k)) ?_
                    refine lv_iload_n hx hb d_Mo_write_153 rfl (lv_at hl 3 rfl) ?_
                    refine e_iast hx hb hK hW (F_Mlock G hG) (j := 4 * s + k) (by omega) rfl d_Mo_write_154 (fun H locs hW => ?_)
                    refine lv_aload_n hx hb d_Mo_write_155 rfl (lv_at hl 2 rfl) ?_
                    refine e_get (v := .ref (gad G (611))) hx hb hts hown hK hW (F_Mo G hG) i_Mo rfl 11 (by decide) (hts _ kw_455) (fun _ h => h) rfl d_Mo_write_156 ?_
                    refine lv_iload hx hb d_Mo_write_159 (lv_at hl 0 rfl) ?_
                    refine lv_dup2_11 hx hb d_Mo_write_161 rfl rfl ?_
                    refine e_iald hx hb hK hW (F_Mwrites G hG) (j := 3 * t + s) (by omega) (x := d (611) (3 * t + s)) ((up2_nc (by omega)).trans ((up2_nc (by omega)).trans ((up2_nc (by omega)).trans ((up2_nc (by omega)).trans (rfl))))) rfl d_Mo_write_162 ?_
                    refine lv_iconst (v := 1) hx hb d_Mo_write_163 (by decide) ?_
                    refine lv_iload_n hx hb d_Mo_write_164 rfl (lv_at hl 5 rfl) ?_
                    refine lv_ishl hx hb d_Mo_write_165 ?_
                    refine lv_ior hx hb d_Mo_write_166 ?_
                    refine e_iast hx hb hK hW (F_Mwrites G hG) (j := 3 * t + s) (by omega) rfl d_Mo_write_167 (fun H locs hW => ?_)
                    refine lv_aload_n hx hb d_Mo_write_168 rfl (lv_at hl 2 rfl) ?_
                    refine e_get (v := .ref (gad G (612))) hx hb hts hown hK hW (F_Mo G hG) i_Mo rfl 12 (by decide) (hts _ kw_457) (fun _ h => h) rfl d_Mo_write_169 ?_
                    refine lv_iconst (v := 4) hx hb d_Mo_write_172 (by decide) ?_
                    refine lv_iload hx hb d_Mo_write_173 (lv_at hl 0 rfl) ?_
                    refine lv_imul hx hb d_Mo_write_175 ?_
                    refine e_top (v := nI (4 * (3 * t + s))) (pk_mul (4) (3 * t + s)) ?_
                    refine lv_iload_n hx hb d_Mo_write_176 rfl (lv_at hl 5 rfl) ?_
                    refine lv_iadd hx hb d_Mo_write_177 ?_
                    refine e_top (v := nI (4 * (3 * t + s) + k)) (nI_add (4 * (3 * t + s)) (k)) ?_
                    refine lv_iload hx hb d_Mo_write_178 (lv_at hl 6 rfl) ?_
                    refine e_iast hx hb hK hW (F_Mwritten G hG) (j := 4 * (3 * t + s) + k) (by omega) rfl d_Mo_write_180 (fun H locs hW => ?_)
                    refine lv_aload_n hx hb d_Mo_write_181 rfl (lv_at hl 2 rfl) ?_
                    refine lv_aload_n hx hb d_Mo_write_182 rfl (lv_at hl 2 rfl) ?_
                    refine e_get (v := .ref (gad G (611))) hx hb hts hown hK hW (F_Mo G hG) i_Mo rfl 11 (by decide) (hts _ kw_455) (fun _ h => h) rfl d_Mo_write_183 ?_
                    refine lv_iload hx hb d_Mo_write_186 (lv_at hl 0 rfl) ?_
                    refine e_iald hx hb hK hW (F_Mwrites G hG) (j := 3 * t + s) (by omega) (x := (d (611) (3 * t + s)) ||| ((1) <<< ((nI k) &&& 31))) ((up2_nc (by omega)).trans up2_self) rfl d_Mo_write_188 ?_
                    refine e_ci (e_runV hx hb hml hown hts hE hbs hW (F_Mo G hG) rfl (c_M_ones l G hG (up2 (up2 (up2 (up2 (up2 (up2 d (600) (0) (0)) (610) (3 * t + s) (1)) (608) (t) ((d (608) (t)) ||| ((1) <<< ((nI s) &&& 31)))) (606) (4 * s + k) (nI t)) (611) (3 * t + s) ((d (611) (3 * t + s)) ||| ((1) <<< ((nI k) &&& 31)))) (612) (4 * (3 * t + s) + k) (v)) ((d (611) (3 * t + s)) ||| ((1) <<< ((nI k) &&& 31)))) kw_496 kw_497 kw_498 kw_412 kw_495 rfl rfl hd_Mo_ones ⟨Nat.le_of_ble_eq_true rfl, Nat.le_of_ble_eq_true rfl⟩ (As := [.int ((d (611) (3 * t + s)) ||| ((1) <<< ((nI k) &&& 31)))]) (rest := []) rfl hl.1 rfl (Nat.le_of_ble_eq_true rfl) d_Mo_write_189 ⟨Nat.le_of_ble_eq_true rfl, Nat.le_of_ble_eq_true rfl⟩) hW (fun r d' H locs hp hW => ?_)
                    obtain ⟨hp1, hp2⟩ := hp
                    have hp1 := hp1.symm; subst hp1
                    have hp2 := hp2.symm; subst hp2
                    exact e_iret hx hb hr hlk hW (mq_ok (by unfold mC_write; (try simp only [cl_nI (show t < 2147483648 by omega), cl_nI (show s < 2147483648 by omega), cl_nI (show k < 2147483648 by omega)]); rw [if_pos c_1, if_pos c_2, if_pos c_3, if_pos c_4, if_pos c_5, if_neg c_6, if_pos c_9, if_pos c_10, if_pos c_11]) (by first | (simp only [cl_nI (show t < 2147483648 by omega), cl_nI (show s < 2147483648 by omega), cl_nI (show k < 2147483648 by omega)]; done) | (simp only [cl_nI (show t < 2147483648 by omega), cl_nI (show s < 2147483648 by omega), cl_nI (show k < 2147483648 by omega)]; exact rfl; done) | (exact rfl; done)) (by first | (simp only [cl_nI (show t < 2147483648 by omega), cl_nI (show s < 2147483648 by omega), cl_nI (show k < 2147483648 by omega)]; done) | (simp only [cl_nI (show t < 2147483648 by omega), cl_nI (show s < 2147483648 by omega), cl_nI (show k < 2147483648 by omega)]; exact rfl; done) | (exact rfl; done))) (Nat.zero_le _) (Nat.zero_le _) d_Mo_write_192
                  · skip
                    refine lv_aload_n hx hb d_Mo_write_118 rfl (lv_at hl 2 rfl) ?_
                    refine lv_iconst (v := 4) hx hb d_Mo_write_119 (by decide) ?_
                    refine e_ci (e_runV hx hb hml hown hts hE hbs hW (F_Mo G hG) rfl (c_M_fail l G hG (up2 d (600) (0) (0)) (4)) kw_487 kw_488 kw_489 kw_412 kw_486 rfl rfl hd_Mo_fail ⟨Nat.le_of_ble_eq_true rfl, Nat.le_of_ble_eq_true rfl⟩ (As := [.int (4)]) (rest := []) rfl hl.1 rfl (Nat.le_of_ble_eq_true rfl) d_Mo_write_120 ⟨Nat.le_of_ble_eq_true rfl, Nat.le_of_ble_eq_true rfl⟩) hW (fun r d' H locs hp hW => ?_)
                    obtain ⟨hp1, hp2⟩ := hp
                    have hp1 := hp1.symm; subst hp1
                    have hp2 := hp2.symm; subst hp2
                    exact e_iret hx hb hr hlk hW (mq_no (c := (4)) (by unfold mC_write; (try simp only [cl_nI (show t < 2147483648 by omega), cl_nI (show s < 2147483648 by omega), cl_nI (show k < 2147483648 by omega)]); rw [if_pos c_1, if_pos c_2, if_pos c_3, if_pos c_4, if_pos c_5, if_neg c_6, if_pos c_9, if_pos c_10, if_neg c_11]) (by decide) (by exact rfl)) (Nat.zero_le _) (Nat.zero_le _) d_Mo_write_123
              · skip
                refine lv_aload_n hx hb d_Mo_write_85 rfl (lv_at hl 1 rfl) ?_
                refine lv_iconst (v := 3) hx hb d_Mo_write_86 (by decide) ?_
                refine e_ci (e_runV hx hb hml hown hts hE hbs hW (F_Mo G hG) rfl (c_M_fail l G hG (up2 d (600) (0) (0)) (3)) kw_487 kw_488 kw_489 kw_412 kw_486 rfl rfl hd_Mo_fail ⟨Nat.le_of_ble_eq_true rfl, Nat.le_of_ble_eq_true rfl⟩ (As := [.int (3)]) (rest := []) rfl hl.1 rfl (Nat.le_of_ble_eq_true rfl) d_Mo_write_87 ⟨Nat.le_of_ble_eq_true rfl, Nat.le_of_ble_eq_true rfl⟩) hW (fun r d' H locs hp hW => ?_)
                obtain ⟨hp1, hp2⟩ := hp
                have hp1 := hp1.symm; subst hp1
                have hp2 := hp2.symm; subst hp2
                exact e_iret hx hb hr hlk hW (mq_no (c := (3)) (by unfold mC_write; (try simp only [cl_nI (show t < 2147483648 by omega), cl_nI (show s < 2147483648 by omega), cl_nI (show k < 2147483648 by omega)]); rw [if_pos c_1, if_pos c_2, if_pos c_3, if_pos c_4, if_pos c_5, if_neg c_6, if_neg c_9]) (by decide) (by exact rfl)) (Nat.zero_le _) (Nat.zero_le _) d_Mo_write_90
        · skip
          refine lv_aload_n hx hb d_Mo_write_47 rfl (lv_at hl 0 rfl) ?_
          refine lv_iconst (v := 2) hx hb d_Mo_write_48 (by decide) ?_
          refine e_ci (e_runV hx hb hml hown hts hE hbs hW (F_Mo G hG) rfl (c_M_fail l G hG (up2 d (600) (0) (0)) (2)) kw_487 kw_488 kw_489 kw_412 kw_486 rfl rfl hd_Mo_fail ⟨Nat.le_of_ble_eq_true rfl, Nat.le_of_ble_eq_true rfl⟩ (As := [.int (2)]) (rest := []) rfl hl.1 rfl (Nat.le_of_ble_eq_true rfl) d_Mo_write_49 ⟨Nat.le_of_ble_eq_true rfl, Nat.le_of_ble_eq_true rfl⟩) hW (fun r d' H locs hp hW => ?_)
          obtain ⟨hp1, hp2⟩ := hp
          have hp1 := hp1.symm; subst hp1
          have hp2 := hp2.symm; subst hp2
          exact e_iret hx hb hr hlk hW (mq_no (c := (2)) (by unfold mC_write; (try simp only [cl_nI (show t < 2147483648 by omega), cl_nI (show s < 2147483648 by omega), cl_nI (show k < 2147483648 by omega)]); rw [if_pos c_1, if_pos c_2, if_pos c_3, if_neg c_4]) (by decide) (by exact rfl)) (Nat.zero_le _) (Nat.zero_le _) d_Mo_write_52
      · skip
        refine lv_aload_n hx hb d_Mo_write_33 rfl (lv_at hl 0 rfl) ?_
        refine lv_iconst (v := 1) hx hb d_Mo_write_34 (by decide) ?_
        refine e_ci (e_runV hx hb hml hown hts hE hbs hW (F_Mo G hG) rfl (c_M_fail l G hG (up2 d (600) (0) (0)) (1)) kw_487 kw_488 kw_489 kw_412 kw_486 rfl rfl hd_Mo_fail ⟨Nat.le_of_ble_eq_true rfl, Nat.le_of_ble_eq_true rfl⟩ (As := [.int (1)]) (rest := []) rfl hl.1 rfl (Nat.le_of_ble_eq_true rfl) d_Mo_write_35 ⟨Nat.le_of_ble_eq_true rfl, Nat.le_of_ble_eq_true rfl⟩) hW (fun r d' H locs hp hW => ?_)
        obtain ⟨hp1, hp2⟩ := hp
        have hp1 := hp1.symm; subst hp1
        have hp2 := hp2.symm; subst hp2
        exact e_iret hx hb hr hlk hW (mq_no (c := (1)) (by unfold mC_write; (try simp only [cl_nI (show t < 2147483648 by omega), cl_nI (show s < 2147483648 by omega)]); rw [if_pos c_1, if_pos c_2, if_neg c_3]) (by decide) (by exact rfl)) (Nat.zero_le _) (Nat.zero_le _) d_Mo_write_38
set_option maxHeartbeats 4000000 in
set_option maxRecDepth 100000 in
theorem c_M_value (l : Launch) (G : GT) (hG : GOK G) (d : DD) (x0 x1 : Int32) : Met l y_Mo_value (.code y_Mo_value b_Mo_value 3 (some .int) :: WS) { frames := 1, cells := 0, slots := 0, locals := 22 } (cPre G [.ref (gad G (600)), .int (x0), .int (x1)] d) (cQi G (mQ d (mC_vl x0 x1) (d 605 (4 * cl x0 + cl x1)) ((up2 d 600 0 0)))) 0 0 (gAb G) := by
  refine c_start (own := R_Mo) (by decide +kernel) rfl (Nat.le_of_ble_eq_true rfl) ?_
  intro p e zs zm below meth zc ls C hW hl
  obtain ⟨hx, hb, hr, hml, hown, hts, hlk, hE, hbs⟩ := C
  have hK := hE.1
  have hn3 := hG.1
  have hl : lv_has ls 3 [(0, .ref (gad G (600))), (1, .int (x0)), (2, .int (x1))] := hl
  refine lv_aload_n hx hb d_Mo_value_0 rfl (lv_at hl 0 rfl) ?_
  refine lv_iconst (v := 0) hx hb d_Mo_value_1 (by decide) ?_
  refine e_put hx hb hts hown hK hW (F_Mo G hG) i_Mo t_Mo t_Mo_ok n_Mo rfl 0 (by decide) (hts _ kw_403) (fun _ h => h) rfl (by decide +kernel) (fun _ => rfl) (fun _ => rfl) d_Mo_value_2 (fun H locs hW => ?_)
  refine lv_aload_n hx hb d_Mo_value_5 rfl (lv_at hl 0 rfl) ?_
  refine lv_iload_n hx hb d_Mo_value_6 rfl (lv_at hl 1 rfl) ?_
  refine lv_iconst (v := 3) hx hb d_Mo_value_7 (by decide) ?_
  refine e_ci (e_runV hx hb hml hown hts hE hbs hW (F_Mo G hG) rfl (c_M_out l G hG (up2 d (600) (0) (0)) (x0) (3)) kw_491 kw_492 kw_493 kw_412 kw_490 rfl rfl hd_Mo_out ⟨Nat.le_of_ble_eq_true rfl, Nat.le_of_ble_eq_true rfl⟩ (As := [.int (x0), .int (3)]) (rest := []) rfl hl.1 rfl (Nat.le_of_ble_eq_true rfl) d_Mo_value_8 ⟨Nat.le_of_ble_eq_true rfl, Nat.le_of_ble_eq_true rfl⟩) hW (fun r d' H locs hp hW => ?_)
  obtain ⟨hp1, hp2⟩ := hp
  have hp1 := hp1.symm; subst hp1
  have hp2 := hp2.symm; subst hp2
  refine lv_if_ne (tgt := 23) hx hb d_Mo_value_11 (by decide) (fun c_1 => ?_) (fun c_1 => ?_)
  · skip
    refine lv_aload_n hx hb d_Mo_value_23 rfl (lv_at hl 0 rfl) ?_
    refine lv_iconst (v := 1) hx hb d_Mo_value_24 (by decide) ?_
    refine e_ci (e_runV hx hb hml hown hts hE hbs hW (F_Mo G hG) rfl (c_M_fail l G hG (up2 d (600) (0) (0)) (1)) kw_487 kw_488 kw_489 kw_412 kw_486 rfl rfl hd_Mo_fail ⟨Nat.le_of_ble_eq_true rfl, Nat.le_of_ble_eq_true rfl⟩ (As := [.int (1)]) (rest := []) rfl hl.1 rfl (Nat.le_of_ble_eq_true rfl) d_Mo_value_25 ⟨Nat.le_of_ble_eq_true rfl, Nat.le_of_ble_eq_true rfl⟩) hW (fun r d' H locs hp hW => ?_)
    obtain ⟨hp1, hp2⟩ := hp
    have hp1 := hp1.symm; subst hp1
    have hp2 := hp2.symm; subst hp2
    refine lv_goto (tgt := 41) hx hb d_Mo_value_28 (by decide) ?_
    exact e_iret hx hb hr hlk hW (mq_no (c := (1)) (by unfold mC_vl; rw [if_neg c_1]) (by decide) (by exact rfl)) (Nat.zero_le _) (Nat.zero_le _) d_Mo_value_41
  · skip
    obtain ⟨s, hs, et⟩ := out_nat (B := 3) (by omega) c_1
    subst et
    refine lv_aload_n hx hb d_Mo_value_14 rfl (lv_at hl 0 rfl) ?_
    refine lv_iload_n hx hb d_Mo_value_15 rfl (lv_at hl 2 rfl) ?_
    refine lv_iconst (v := 4) hx hb d_Mo_value_16 (by decide) ?_
    refine e_ci (e_runV hx hb hml hown hts hE hbs hW (F_Mo G hG) rfl (c_M_out l G hG (up2 d (600) (0) (0)) (x1) (4)) kw_491 kw_492 kw_493 kw_412 kw_490 rfl rfl hd_Mo_out ⟨Nat.le_of_ble_eq_true rfl, Nat.le_of_ble_eq_true rfl⟩ (As := [.int (x1), .int (4)]) (rest := []) rfl hl.1 rfl (Nat.le_of_ble_eq_true rfl) d_Mo_value_17 ⟨Nat.le_of_ble_eq_true rfl, Nat.le_of_ble_eq_true rfl⟩) hW (fun r d' H locs hp hW => ?_)
    obtain ⟨hp1, hp2⟩ := hp
    have hp1 := hp1.symm; subst hp1
    have hp2 := hp2.symm; subst hp2
    refine lv_if_eq (tgt := 31) hx hb d_Mo_value_20 (by decide) (fun c_2 => ?_) (fun c_2 => ?_)
    · skip
      obtain ⟨k, hk, et⟩ := out_nat (B := 4) (by omega) c_2
      subst et
      refine lv_aload_n hx hb d_Mo_value_31 rfl (lv_at hl 0 rfl) ?_
      refine e_get (v := .ref (gad G (605))) hx hb hts hown hK hW (F_Mo G hG) i_Mo rfl 5 (by decide) (hts _ kw_456) (fun _ h => h) rfl d_Mo_value_32 ?_
      refine lv_iconst (v := 4) hx hb d_Mo_value_35 (by decide) ?_
      refine lv_iload_n hx hb d_Mo_value_36 rfl (lv_at hl 1 rfl) ?_
      refine lv_imul hx hb d_Mo_value_37 ?_
      refine e_top (v := nI (4 * s)) (pk_mul (4) (s)) ?_
      refine lv_iload_n hx hb d_Mo_value_38 rfl (lv_at hl 2 rfl) ?_
      refine lv_iadd hx hb d_Mo_value_39 ?_
      refine e_top (v := nI (4 * s + k)) (nI_add (4 * s) (k)) ?_
      refine e_iald hx hb hK hW (F_Mvalue G hG) (j := 4 * s + k) (by omega) (x := d (605) (4 * s + k)) ((up2_nc (by omega)).trans (rfl)) rfl d_Mo_value_40 ?_
      exact e_iret hx hb hr hlk hW (mq_ok (by unfold mC_vl; (try simp only [cl_nI (show s < 2147483648 by omega), cl_nI (show k < 2147483648 by omega)]); rw [if_pos c_1, if_pos c_2]) (by first | (simp only [cl_nI (show s < 2147483648 by omega), cl_nI (show k < 2147483648 by omega)]; done) | (simp only [cl_nI (show s < 2147483648 by omega), cl_nI (show k < 2147483648 by omega)]; exact rfl; done) | (exact rfl; done)) (by first | (simp only [cl_nI (show s < 2147483648 by omega), cl_nI (show k < 2147483648 by omega)]; done) | (simp only [cl_nI (show s < 2147483648 by omega), cl_nI (show k < 2147483648 by omega)]; exact rfl; done) | (exact rfl; done))) (Nat.zero_le _) (Nat.zero_le _) d_Mo_value_41
    · skip
      refine lv_aload_n hx hb d_Mo_value_23 rfl (lv_at hl 0 rfl) ?_
      refine lv_iconst (v := 1) hx hb d_Mo_value_24 (by decide) ?_
      refine e_ci (e_runV hx hb hml hown hts hE hbs hW (F_Mo G hG) rfl (c_M_fail l G hG (up2 d (600) (0) (0)) (1)) kw_487 kw_488 kw_489 kw_412 kw_486 rfl rfl hd_Mo_fail ⟨Nat.le_of_ble_eq_true rfl, Nat.le_of_ble_eq_true rfl⟩ (As := [.int (1)]) (rest := []) rfl hl.1 rfl (Nat.le_of_ble_eq_true rfl) d_Mo_value_25 ⟨Nat.le_of_ble_eq_true rfl, Nat.le_of_ble_eq_true rfl⟩) hW (fun r d' H locs hp hW => ?_)
      obtain ⟨hp1, hp2⟩ := hp
      have hp1 := hp1.symm; subst hp1
      have hp2 := hp2.symm; subst hp2
      refine lv_goto (tgt := 41) hx hb d_Mo_value_28 (by decide) ?_
      exact e_iret hx hb hr hlk hW (mq_no (c := (1)) (by unfold mC_vl; (try simp only [cl_nI (show s < 2147483648 by omega)]); rw [if_pos c_1, if_neg c_2]) (by decide) (by exact rfl)) (Nat.zero_le _) (Nat.zero_le _) d_Mo_value_41
set_option maxHeartbeats 4000000 in
set_option maxRecDepth 100000 in
theorem c_M_lock (l : Launch) (G : GT) (hG : GOK G) (d : DD) (x0 x1 : Int32) : Met l y_Mo_lock (.code y_Mo_lock b_Mo_lock 3 (some .int) :: WS) { frames := 1, cells := 0, slots := 0, locals := 22 } (cPre G [.ref (gad G (600)), .int (x0), .int (x1)] d) (cQi G (mQ d (mC_vl x0 x1) (d 606 (4 * cl x0 + cl x1)) ((up2 d 600 0 0)))) 0 0 (gAb G) := by
  refine c_start (own := R_Mo) (by decide +kernel) rfl (Nat.le_of_ble_eq_true rfl) ?_
  intro p e zs zm below meth zc ls C hW hl
  obtain ⟨hx, hb, hr, hml, hown, hts, hlk, hE, hbs⟩ := C
  have hK := hE.1
  have hn3 := hG.1
  have hl : lv_has ls 3 [(0, .ref (gad G (600))), (1, .int (x0)), (2, .int (x1))] := hl
  refine lv_aload_n hx hb d_Mo_lock_0 rfl (lv_at hl 0 rfl) ?_
  refine lv_iconst (v := 0) hx hb d_Mo_lock_1 (by decide) ?_
  refine e_put hx hb hts hown hK hW (F_Mo G hG) i_Mo t_Mo t_Mo_ok n_Mo rfl 0 (by decide) (hts _ kw_403) (fun _ h => h) rfl (by decide +kernel) (fun _ => rfl) (fun _ => rfl) d_Mo_lock_2 (fun H locs hW => ?_)
  refine lv_aload_n hx hb d_Mo_lock_5 rfl (lv_at hl 0 rfl) ?_
  refine lv_iload_n hx hb d_Mo_lock_6 rfl (lv_at hl 1 rfl) ?_
  refine lv_iconst (v := 3) hx hb d_Mo_lock_7 (by decide) ?_
  refine e_ci (e_runV hx hb hml hown hts hE hbs hW (F_Mo G hG) rfl (c_M_out l G hG (up2 d (600) (0) (0)) (x0) (3)) kw_491 kw_492 kw_493 kw_412 kw_490 rfl rfl hd_Mo_out ⟨Nat.le_of_ble_eq_true rfl, Nat.le_of_ble_eq_true rfl⟩ (As := [.int (x0), .int (3)]) (rest := []) rfl hl.1 rfl (Nat.le_of_ble_eq_true rfl) d_Mo_lock_8 ⟨Nat.le_of_ble_eq_true rfl, Nat.le_of_ble_eq_true rfl⟩) hW (fun r d' H locs hp hW => ?_)
  obtain ⟨hp1, hp2⟩ := hp
  have hp1 := hp1.symm; subst hp1
  have hp2 := hp2.symm; subst hp2
  refine lv_if_ne (tgt := 23) hx hb d_Mo_lock_11 (by decide) (fun c_1 => ?_) (fun c_1 => ?_)
  · skip
    refine lv_aload_n hx hb d_Mo_lock_23 rfl (lv_at hl 0 rfl) ?_
    refine lv_iconst (v := 1) hx hb d_Mo_lock_24 (by decide) ?_
    refine e_ci (e_runV hx hb hml hown hts hE hbs hW (F_Mo G hG) rfl (c_M_fail l G hG (up2 d (600) (0) (0)) (1)) kw_487 kw_488 kw_489 kw_412 kw_486 rfl rfl hd_Mo_fail ⟨Nat.le_of_ble_eq_true rfl, Nat.le_of_ble_eq_true rfl⟩ (As := [.int (1)]) (rest := []) rfl hl.1 rfl (Nat.le_of_ble_eq_true rfl) d_Mo_lock_25 ⟨Nat.le_of_ble_eq_true rfl, Nat.le_of_ble_eq_true rfl⟩) hW (fun r d' H locs hp hW => ?_)
    obtain ⟨hp1, hp2⟩ := hp
    have hp1 := hp1.symm; subst hp1
    have hp2 := hp2.symm; subst hp2
    refine lv_goto (tgt := 41) hx hb d_Mo_lock_28 (by decide) ?_
    exact e_iret hx hb hr hlk hW (mq_no (c := (1)) (by unfold mC_vl; rw [if_neg c_1]) (by decide) (by exact rfl)) (Nat.zero_le _) (Nat.zero_le _) d_Mo_lock_41
  · skip
    obtain ⟨s, hs, et⟩ := out_nat (B := 3) (by omega) c_1
    subst et
    refine lv_aload_n hx hb d_Mo_lock_14 rfl (lv_at hl 0 rfl) ?_
    refine lv_iload_n hx hb d_Mo_lock_15 rfl (lv_at hl 2 rfl) ?_
    refine lv_iconst (v := 4) hx hb d_Mo_lock_16 (by decide) ?_
    refine e_ci (e_runV hx hb hml hown hts hE hbs hW (F_Mo G hG) rfl (c_M_out l G hG (up2 d (600) (0) (0)) (x1) (4)) kw_491 kw_492 kw_493 kw_412 kw_490 rfl rfl hd_Mo_out ⟨Nat.le_of_ble_eq_true rfl, Nat.le_of_ble_eq_true rfl⟩ (As := [.int (x1), .int (4)]) (rest := []) rfl hl.1 rfl (Nat.le_of_ble_eq_true rfl) d_Mo_lock_17 ⟨Nat.le_of_ble_eq_true rfl, Nat.le_of_ble_eq_true rfl⟩) hW (fun r d' H locs hp hW => ?_)
    obtain ⟨hp1, hp2⟩ := hp
    have hp1 := hp1.symm; subst hp1
    have hp2 := hp2.symm; subst hp2
    refine lv_if_eq (tgt := 31) hx hb d_Mo_lock_20 (by decide) (fun c_2 => ?_) (fun c_2 => ?_)
    · skip
      obtain ⟨k, hk, et⟩ := out_nat (B := 4) (by omega) c_2
      subst et
      refine lv_aload_n hx hb d_Mo_lock_31 rfl (lv_at hl 0 rfl) ?_
      refine e_get (v := .ref (gad G (606))) hx hb hts hown hK hW (F_Mo G hG) i_Mo rfl 6 (by decide) (hts _ kw_409) (fun _ h => h) rfl d_Mo_lock_32 ?_
      refine lv_iconst (v := 4) hx hb d_Mo_lock_35 (by decide) ?_
      refine lv_iload_n hx hb d_Mo_lock_36 rfl (lv_at hl 1 rfl) ?_
      refine lv_imul hx hb d_Mo_lock_37 ?_
      refine e_top (v := nI (4 * s)) (pk_mul (4) (s)) ?_
      refine lv_iload_n hx hb d_Mo_lock_38 rfl (lv_at hl 2 rfl) ?_
      refine lv_iadd hx hb d_Mo_lock_39 ?_
      refine e_top (v := nI (4 * s + k)) (nI_add (4 * s) (k)) ?_
      refine e_iald hx hb hK hW (F_Mlock G hG) (j := 4 * s + k) (by omega) (x := d (606) (4 * s + k)) ((up2_nc (by omega)).trans (rfl)) rfl d_Mo_lock_40 ?_
      exact e_iret hx hb hr hlk hW (mq_ok (by unfold mC_vl; (try simp only [cl_nI (show s < 2147483648 by omega), cl_nI (show k < 2147483648 by omega)]); rw [if_pos c_1, if_pos c_2]) (by first | (simp only [cl_nI (show s < 2147483648 by omega), cl_nI (show k < 2147483648 by omega)]; done) | (simp only [cl_nI (show s < 2147483648 by omega), cl_nI (show k < 2147483648 by omega)]; exact rfl; done) | (exact rfl; done)) (by first | (simp only [cl_nI (show s < 2147483648 by omega), cl_nI (show k < 2147483648 by omega)]; done) | (simp only [cl_nI (show s < 2147483648 by omega), cl_nI (show k < 2147483648 by omega)]; exact rfl; done) | (exact rfl; done))) (Nat.zero_le _) (Nat.zero_le _) d_Mo_lock_41
    · skip
      refine lv_aload_n hx hb d_Mo_lock_23 rfl (lv_at hl 0 rfl) ?_
      refine lv_iconst (v := 1) hx hb d_Mo_lock_24 (by decide) ?_
      refine e_ci (e_runV hx hb hml hown hts hE hbs hW (F_Mo G hG) rfl (c_M_fail l G hG (up2 d (600) (0) (0)) (1)) kw_487 kw_488 kw_489 kw_412 kw_486 rfl rfl hd_Mo_fail ⟨Nat.le_of_ble_eq_true rfl, Nat.le_of_ble_eq_true rfl⟩ (As := [.int (1)]) (rest := []) rfl hl.1 rfl (Nat.le_of_ble_eq_true rfl) d_Mo_lock_25 ⟨Nat.le_of_ble_eq_true rfl, Nat.le_of_ble_eq_true rfl⟩) hW (fun r d' H locs hp hW => ?_)
      obtain ⟨hp1, hp2⟩ := hp
      have hp1 := hp1.symm; subst hp1
      have hp2 := hp2.symm; subst hp2
      refine lv_goto (tgt := 41) hx hb d_Mo_lock_28 (by decide) ?_
      exact e_iret hx hb hr hlk hW (mq_no (c := (1)) (by unfold mC_vl; (try simp only [cl_nI (show s < 2147483648 by omega)]); rw [if_pos c_1, if_neg c_2]) (by decide) (by exact rfl)) (Nat.zero_le _) (Nat.zero_le _) d_Mo_lock_41
set_option maxHeartbeats 4000000 in
set_option maxRecDepth 100000 in
theorem c_M_state (l : Launch) (G : GT) (hG : GOK G) (d : DD) (x0 x1 : Int32) : Met l y_Mo_state (.code y_Mo_state b_Mo_state 3 (some .int) :: WS) { frames := 1, cells := 0, slots := 0, locals := 22 } (cPre G [.ref (gad G (600)), .int (x0), .int (x1)] d) (cQi G (mQ d (mC_state d x0 x1) (d 610 (3 * cl x0 + cl x1)) ((up2 d 600 0 0)))) 0 0 (gAb G) := by
  refine c_start (own := R_Mo) (by decide +kernel) rfl (Nat.le_of_ble_eq_true rfl) ?_
  intro p e zs zm below meth zc ls C hW hl
  obtain ⟨hx, hb, hr, hml, hown, hts, hlk, hE, hbs⟩ := C
  have hK := hE.1
  have hn3 := hG.1
  have hl : lv_has ls 3 [(0, .ref (gad G (600))), (1, .int (x0)), (2, .int (x1))] := hl
  refine lv_aload_n hx hb d_Mo_state_0 rfl (lv_at hl 0 rfl) ?_
  refine lv_iconst (v := 0) hx hb d_Mo_state_1 (by decide) ?_
  refine e_put hx hb hts hown hK hW (F_Mo G hG) i_Mo t_Mo t_Mo_ok n_Mo rfl 0 (by decide) (hts _ kw_403) (fun _ h => h) rfl (by decide +kernel) (fun _ => rfl) (fun _ => rfl) d_Mo_state_2 (fun H locs hW => ?_)
  refine lv_aload_n hx hb d_Mo_state_5 rfl (lv_at hl 0 rfl) ?_
  refine lv_iload_n hx hb d_Mo_state_6 rfl (lv_at hl 1 rfl) ?_
  refine lv_bipush (v := 8) hx hb d_Mo_state_7 (by decide) ?_
  refine e_ci (e_runV hx hb hml hown hts hE hbs hW (F_Mo G hG) rfl (c_M_out l G hG (up2 d (600) (0) (0)) (x0) (8)) kw_491 kw_492 kw_493 kw_412 kw_490 rfl rfl hd_Mo_out ⟨Nat.le_of_ble_eq_true rfl, Nat.le_of_ble_eq_true rfl⟩ (As := [.int (x0), .int (8)]) (rest := []) rfl hl.1 rfl (Nat.le_of_ble_eq_true rfl) d_Mo_state_9 ⟨Nat.le_of_ble_eq_true rfl, Nat.le_of_ble_eq_true rfl⟩) hW (fun r d' H locs hp hW => ?_)
  obtain ⟨hp1, hp2⟩ := hp
  have hp1 := hp1.symm; subst hp1
  have hp2 := hp2.symm; subst hp2
  refine lv_if_ne (tgt := 24) hx hb d_Mo_state_12 (by decide) (fun c_1 => ?_) (fun c_1 => ?_)
  · skip
    refine lv_aload_n hx hb d_Mo_state_24 rfl (lv_at hl 0 rfl) ?_
    refine lv_iconst (v := 1) hx hb d_Mo_state_25 (by decide) ?_
    refine e_ci (e_runV hx hb hml hown hts hE hbs hW (F_Mo G hG) rfl (c_M_fail l G hG (up2 d (600) (0) (0)) (1)) kw_487 kw_488 kw_489 kw_412 kw_486 rfl rfl hd_Mo_fail ⟨Nat.le_of_ble_eq_true rfl, Nat.le_of_ble_eq_true rfl⟩ (As := [.int (1)]) (rest := []) rfl hl.1 rfl (Nat.le_of_ble_eq_true rfl) d_Mo_state_26 ⟨Nat.le_of_ble_eq_true rfl, Nat.le_of_ble_eq_true rfl⟩) hW (fun r d' H locs hp hW => ?_)
    obtain ⟨hp1, hp2⟩ := hp
    have hp1 := hp1.symm; subst hp1
    have hp2 := hp2.symm; subst hp2
    exact e_iret hx hb hr hlk hW (mq_no (c := (1)) (by unfold mC_state; rw [if_neg c_1]) (by decide) (by exact rfl)) (Nat.zero_le _) (Nat.zero_le _) d_Mo_state_29
  · skip
    obtain ⟨t, ht, et⟩ := out_nat (B := 8) (by omega) c_1
    subst et
    refine lv_aload_n hx hb d_Mo_state_15 rfl (lv_at hl 0 rfl) ?_
    refine lv_iload_n hx hb d_Mo_state_16 rfl (lv_at hl 2 rfl) ?_
    refine lv_iconst (v := 3) hx hb d_Mo_state_17 (by decide) ?_
    refine e_ci (e_runV hx hb hml hown hts hE hbs hW (F_Mo G hG) rfl (c_M_out l G hG (up2 d (600) (0) (0)) (x1) (3)) kw_491 kw_492 kw_493 kw_412 kw_490 rfl rfl hd_Mo_out ⟨Nat.le_of_ble_eq_true rfl, Nat.le_of_ble_eq_true rfl⟩ (As := [.int (x1), .int (3)]) (rest := []) rfl hl.1 rfl (Nat.le_of_ble_eq_true rfl) d_Mo_state_18 ⟨Nat.le_of_ble_eq_true rfl, Nat.le_of_ble_eq_true rfl⟩) hW (fun r d' H locs hp hW => ?_)
    obtain ⟨hp1, hp2⟩ := hp
    have hp1 := hp1.symm; subst hp1
    have hp2 := hp2.symm; subst hp2
    refine lv_if_eq (tgt := 30) hx hb d_Mo_state_21 (by decide) (fun c_2 => ?_) (fun c_2 => ?_)
    · skip
      obtain ⟨s, hs, et⟩ := out_nat (B := 3) (by omega) c_2
      subst et
      refine lv_iload_n hx hb d_Mo_state_30 rfl (lv_at hl 1 rfl) ?_
      refine lv_aload_n hx hb d_Mo_state_31 rfl (lv_at hl 0 rfl) ?_
      refine e_get (v := .int ((up2 d (600) (0) (0)) (600) (7))) hx hb hts hown hK hW (F_Mo G hG) i_Mo rfl 7 (by decide) (hts _ kw_485) (fun _ h => h) rfl d_Mo_state_32 ?_
      refine e_top (v := d (600) (7)) ((up2_nk (by decide)).trans (rfl)) ?_
      refine lv_icmp_lt (tgt := 46) hx hb d_Mo_state_35 (by decide) (fun c_3 => ?_) (fun c_3 => ?_)
      · skip
        refine lv_aload_n hx hb d_Mo_state_46 rfl (lv_at hl 0 rfl) ?_
        refine e_get (v := .ref (gad G (610))) hx hb hts hown hK hW (F_Mo G hG) i_Mo rfl 10 (by decide) (hts _ kw_410) (fun _ h => h) rfl d_Mo_state_47 ?_
        refine lv_iconst (v := 3) hx hb d_Mo_state_50 (by decide) ?_
        refine lv_iload_n hx hb d_Mo_state_51 rfl (lv_at hl 1 rfl) ?_
        refine lv_imul hx hb d_Mo_state_52 ?_
        refine e_top (v := nI (3 * t)) (pk_mul (3) (t)) ?_
        refine lv_iload_n hx hb d_Mo_state_53 rfl (lv_at hl 2 rfl) ?_
        refine lv_iadd hx hb d_Mo_state_54 ?_
        refine e_top (v := nI (3 * t + s)) (nI_add (3 * t) (s)) ?_
        refine e_iald hx hb hK hW (F_Mstate G hG) (j := 3 * t + s) (by omega) (x := d (610) (3 * t + s)) ((up2_nc (by omega)).trans (rfl)) rfl d_Mo_state_55 ?_
        exact e_iret hx hb hr hlk hW (mq_ok (by unfold mC_state; (try simp only [cl_nI (show t < 2147483648 by omega), cl_nI (show s < 2147483648 by omega)]); rw [if_pos c_1, if_pos c_2, if_pos c_3]) (by first | (simp only [cl_nI (show t < 2147483648 by omega), cl_nI (show s < 2147483648 by omega)]; done) | (simp only [cl_nI (show t < 2147483648 by omega), cl_nI (show s < 2147483648 by omega)]; exact rfl; done) | (exact rfl; done)) (by first | (simp only [cl_nI (show t < 2147483648 by omega), cl_nI (show s < 2147483648 by omega)]; done) | (simp only [cl_nI (show t < 2147483648 by omega), cl_nI (show s < 2147483648 by omega)]; exact rfl; done) | (exact rfl; done))) (Nat.zero_le _) (Nat.zero_le _) d_Mo_state_56
      · skip
        refine lv_aload_n hx hb d_Mo_state_38 rfl (lv_at hl 0 rfl) ?_
        refine lv_iconst (v := 2) hx hb d_Mo_state_39 (by decide) ?_
        refine e_ci (e_runV hx hb hml hown hts hE hbs hW (F_Mo G hG) rfl (c_M_fail l G hG (up2 d (600) (0) (0)) (2)) kw_487 kw_488 kw_489 kw_412 kw_486 rfl rfl hd_Mo_fail ⟨Nat.le_of_ble_eq_true rfl, Nat.le_of_ble_eq_true rfl⟩ (As := [.int (2)]) (rest := []) rfl hl.1 rfl (Nat.le_of_ble_eq_true rfl) d_Mo_state_40 ⟨Nat.le_of_ble_eq_true rfl, Nat.le_of_ble_eq_true rfl⟩) hW (fun r d' H locs hp hW => ?_)
        obtain ⟨hp1, hp2⟩ := hp
        have hp1 := hp1.symm; subst hp1
        have hp2 := hp2.symm; subst hp2
        refine lv_goto (tgt := 56) hx hb d_Mo_state_43 (by decide) ?_
        exact e_iret hx hb hr hlk hW (mq_no (c := (2)) (by unfold mC_state; (try simp only [cl_nI (show t < 2147483648 by omega), cl_nI (show s < 2147483648 by omega)]); rw [if_pos c_1, if_pos c_2, if_neg c_3]) (by decide) (by exact rfl)) (Nat.zero_le _) (Nat.zero_le _) d_Mo_state_56
    · skip
      refine lv_aload_n hx hb d_Mo_state_24 rfl (lv_at hl 0 rfl) ?_
      refine lv_iconst (v := 1) hx hb d_Mo_state_25 (by decide) ?_
      refine e_ci (e_runV hx hb hml hown hts hE hbs hW (F_Mo G hG) rfl (c_M_fail l G hG (up2 d (600) (0) (0)) (1)) kw_487 kw_488 kw_489 kw_412 kw_486 rfl rfl hd_Mo_fail ⟨Nat.le_of_ble_eq_true rfl, Nat.le_of_ble_eq_true rfl⟩ (As := [.int (1)]) (rest := []) rfl hl.1 rfl (Nat.le_of_ble_eq_true rfl) d_Mo_state_26 ⟨Nat.le_of_ble_eq_true rfl, Nat.le_of_ble_eq_true rfl⟩) hW (fun r d' H locs hp hW => ?_)
      obtain ⟨hp1, hp2⟩ := hp
      have hp1 := hp1.symm; subst hp1
      have hp2 := hp2.symm; subst hp2
      exact e_iret hx hb hr hlk hW (mq_no (c := (1)) (by unfold mC_state; (try simp only [cl_nI (show t < 2147483648 by omega)]); rw [if_pos c_1, if_neg c_2]) (by decide) (by exact rfl)) (Nat.zero_le _) (Nat.zero_le _) d_Mo_state_29
set_option maxHeartbeats 4000000 in
set_option maxRecDepth 100000 in
theorem c_M_outcome (l : Launch) (G : GT) (hG : GOK G) (d : DD) (x0 x1 : Int32) : Met l y_Mo_outcome (.code y_Mo_outcome b_Mo_outcome 4 (some .int) :: WS) { frames := 1, cells := 0, slots := 0, locals := 22 } (cPre G [.ref (gad G (600)), .int (x0), .int (x1)] d) (cQi G (mQ d (mC_oc d x0 x1) (d 618 (8 * cl x0 + cl x1)) ((up2 d 600 0 0)))) 0 0 (gAb G) := by
  refine c_start (own := R_Mo) (by decide +kernel) rfl (Nat.le_of_ble_eq_true rfl) ?_
  intro p e zs zm below meth zc ls C hW hl
  obtain ⟨hx, hb, hr, hml, hown, hts, hlk, hE, hbs⟩ := C
  have hK := hE.1
  have hn3 := hG.1
  have hl : lv_has ls 4 [(0, .ref (gad G (600))), (1, .int (x0)), (2, .int (x1))] := hl
  refine lv_aload_n hx hb d_Mo_outcome_0 rfl (lv_at hl 0 rfl) ?_
  refine lv_iconst (v := 0) hx hb d_Mo_outcome_1 (by decide) ?_
  refine e_put hx hb hts hown hK hW (F_Mo G hG) i_Mo t_Mo t_Mo_ok n_Mo rfl 0 (by decide) (hts _ kw_403) (fun _ h => h) rfl (by decide +kernel) (fun _ => rfl) (fun _ => rfl) d_Mo_outcome_2 (fun H locs hW => ?_)
  refine lv_aload_n hx hb d_Mo_outcome_5 rfl (lv_at hl 0 rfl) ?_
  refine lv_iload_n hx hb d_Mo_outcome_6 rfl (lv_at hl 1 rfl) ?_
  refine lv_iconst (v := 2) hx hb d_Mo_outcome_7 (by decide) ?_
  refine e_ci (e_runV hx hb hml hown hts hE hbs hW (F_Mo G hG) rfl (c_M_out l G hG (up2 d (600) (0) (0)) (x0) (2)) kw_491 kw_492 kw_493 kw_412 kw_490 rfl rfl hd_Mo_out ⟨Nat.le_of_ble_eq_true rfl, Nat.le_of_ble_eq_true rfl⟩ (As := [.int (x0), .int (2)]) (rest := []) rfl hl.1 rfl (Nat.le_of_ble_eq_true rfl) d_Mo_outcome_8 ⟨Nat.le_of_ble_eq_true rfl, Nat.le_of_ble_eq_true rfl⟩) hW (fun r d' H locs hp hW => ?_)
  obtain ⟨hp1, hp2⟩ := hp
  have hp1 := hp1.symm; subst hp1
  have hp2 := hp2.symm; subst hp2
  refine lv_if_ne (tgt := 24) hx hb d_Mo_outcome_11 (by decide) (fun c_1 => ?_) (fun c_1 => ?_)
  · skip
    refine lv_aload_n hx hb d_Mo_outcome_24 rfl (lv_at hl 0 rfl) ?_
    refine lv_iconst (v := 1) hx hb d_Mo_outcome_25 (by decide) ?_
    refine e_ci (e_runV hx hb hml hown hts hE hbs hW (F_Mo G hG) rfl (c_M_fail l G hG (up2 d (600) (0) (0)) (1)) kw_487 kw_488 kw_489 kw_412 kw_486 rfl rfl hd_Mo_fail ⟨Nat.le_of_ble_eq_true rfl, Nat.le_of_ble_eq_true rfl⟩ (As := [.int (1)]) (rest := []) rfl hl.1 rfl (Nat.le_of_ble_eq_true rfl) d_Mo_outcome_26 ⟨Nat.le_of_ble_eq_true rfl, Nat.le_of_ble_eq_true rfl⟩) hW (fun r d' H locs hp hW => ?_)
    obtain ⟨hp1, hp2⟩ := hp
    have hp1 := hp1.symm; subst hp1
    have hp2 := hp2.symm; subst hp2
    exact e_iret hx hb hr hlk hW (mq_no (c := (1)) (by unfold mC_oc; rw [if_neg c_1]) (by decide) (by exact rfl)) (Nat.zero_le _) (Nat.zero_le _) d_Mo_outcome_29
  · skip
    obtain ⟨ld, hld, et⟩ := out_nat (B := 2) (by omega) c_1
    subst et
    refine lv_aload_n hx hb d_Mo_outcome_14 rfl (lv_at hl 0 rfl) ?_
    refine lv_iload_n hx hb d_Mo_outcome_15 rfl (lv_at hl 2 rfl) ?_
    refine lv_bipush (v := 8) hx hb d_Mo_outcome_16 (by decide) ?_
    refine e_ci (e_runV hx hb hml hown hts hE hbs hW (F_Mo G hG) rfl (c_M_out l G hG (up2 d (600) (0) (0)) (x1) (8)) kw_491 kw_492 kw_493 kw_412 kw_490 rfl rfl hd_Mo_out ⟨Nat.le_of_ble_eq_true rfl, Nat.le_of_ble_eq_true rfl⟩ (As := [.int (x1), .int (8)]) (rest := []) rfl hl.1 rfl (Nat.le_of_ble_eq_true rfl) d_Mo_outcome_18 ⟨Nat.le_of_ble_eq_true rfl, Nat.le_of_ble_eq_true rfl⟩) hW (fun r d' H locs hp hW => ?_)
    obtain ⟨hp1, hp2⟩ := hp
    have hp1 := hp1.symm; subst hp1
    have hp2 := hp2.symm; subst hp2
    refine lv_if_eq (tgt := 30) hx hb d_Mo_outcome_21 (by decide) (fun c_2 => ?_) (fun c_2 => ?_)
    · skip
      obtain ⟨t, ht, et⟩ := out_nat (B := 8) (by omega) c_2
      subst et
      refine lv_iload_n hx hb d_Mo_outcome_30 rfl (lv_at hl 2 rfl) ?_
      refine lv_aload_n hx hb d_Mo_outcome_31 rfl (lv_at hl 0 rfl) ?_
      refine e_get (v := .int ((up2 d (600) (0) (0)) (600) (7))) hx hb hts hown hK hW (F_Mo G hG) i_Mo rfl 7 (by decide) (hts _ kw_485) (fun _ h => h) rfl d_Mo_outcome_32 ?_
      refine e_top (v := d (600) (7)) ((up2_nk (by decide)).trans (rfl)) ?_
      refine lv_icmp_lt (tgt := 44) hx hb d_Mo_outcome_35 (by decide) (fun c_3 => ?_) (fun c_3 => ?_)
      · skip
        refine lv_aload_n hx hb d_Mo_outcome_44 rfl (lv_at hl 0 rfl) ?_
        refine e_get (v := .ref (gad G (618))) hx hb hts hown hK hW (F_Mo G hG) i_Mo rfl 18 (by decide) (hts _ kw_450) (fun _ h => h) rfl d_Mo_outcome_45 ?_
        refine lv_bipush (v := 8) hx hb d_Mo_outcome_48 (by decide) ?_
        refine lv_iload_n hx hb d_Mo_outcome_50 rfl (lv_at hl 1 rfl) ?_
        refine lv_imul hx hb d_Mo_outcome_51 ?_
        refine e_top (v := nI (8 * ld)) (pk_mul (8) (ld)) ?_
        refine lv_iload_n hx hb d_Mo_outcome_52 rfl (lv_at hl 2 rfl) ?_
        refine lv_iadd hx hb d_Mo_outcome_53 ?_
        refine e_top (v := nI (8 * ld + t)) (nI_add (8 * ld) (t)) ?_
        refine e_iald hx hb hK hW (F_Mknown G hG) (j := 8 * ld + t) (by omega) (x := d (618) (8 * ld + t)) ((up2_nc (by omega)).trans (rfl)) rfl d_Mo_outcome_54 ?_
        refine lv_istore_n (lv' := [(3, .int (d (618) (8 * ld + t))), (0, .ref (gad G (600))), (1, .int (nI ld)), (2, .int (nI t))]) hx hb d_Mo_outcome_55 rfl hl (by decide) rfl (fun ls hl => ?_)
        refine lv_iload_n hx hb d_Mo_outcome_56 rfl (lv_at hl 0 rfl) ?_
        refine lv_if_ge (tgt := 68) hx hb d_Mo_outcome_57 (by decide) (fun c_4 => ?_) (fun c_4 => ?_)
        · skip
          refine lv_iload_n hx hb d_Mo_outcome_68 rfl (lv_at hl 0 rfl) ?_
          exact e_iret hx hb hr hlk hW (mq_ok (by unfold mC_oc; (try simp only [cl_nI (show ld < 2147483648 by omega), cl_nI (show t < 2147483648 by omega)]); rw [if_pos c_1, if_pos c_2, if_pos c_3, if_pos c_4]) (by first | (simp only [cl_nI (show ld < 2147483648 by omega), cl_nI (show t < 2147483648 by omega)]; done) | (simp only [cl_nI (show ld < 2147483648 by omega), cl_nI (show t < 2147483648 by omega)]; exact rfl; done) | (exact rfl; done)) (by first | (simp only [cl_nI (show ld < 2147483648 by omega), cl_nI (show t < 2147483648 by omega)]; done) | (simp only [cl_nI (show ld < 2147483648 by omega), cl_nI (show t < 2147483648 by omega)]; exact rfl; done) | (exact rfl; done))) (Nat.zero_le _) (Nat.zero_le _) d_Mo_outcome_69
        · skip
          refine lv_aload_n hx hb d_Mo_outcome_60 rfl (lv_at hl 1 rfl) ?_
          refine lv_iconst (v := 3) hx hb d_Mo_outcome_61 (by decide) ?_
          refine e_ci (e_runV hx hb hml hown hts hE hbs hW (F_Mo G hG) rfl (c_M_fail l G hG (up2 d (600) (0) (0)) (3)) kw_487 kw_488 kw_489 kw_412 kw_486 rfl rfl hd_Mo_fail ⟨Nat.le_of_ble_eq_true rfl, Nat.le_of_ble_eq_true rfl⟩ (As := [.int (3)]) (rest := []) rfl hl.1 rfl (Nat.le_of_ble_eq_true rfl) d_Mo_outcome_62 ⟨Nat.le_of_ble_eq_true rfl, Nat.le_of_ble_eq_true rfl⟩) hW (fun r d' H locs hp hW => ?_)
          obtain ⟨hp1, hp2⟩ := hp
          have hp1 := hp1.symm; subst hp1
          have hp2 := hp2.symm; subst hp2
          refine lv_goto (tgt := 69) hx hb d_Mo_outcome_65 (by decide) ?_
          exact e_iret hx hb hr hlk hW (mq_no (c := (3)) (by unfold mC_oc; (try simp only [cl_nI (show ld < 2147483648 by omega), cl_nI (show t < 2147483648 by omega)]); rw [if_pos c_1, if_pos c_2, if_pos c_3, if_neg c_4]) (by decide) (by exact rfl)) (Nat.zero_le _) (Nat.zero_le _) d_Mo_outcome_69
      · skip
        refine lv_aload_n hx hb d_Mo_outcome_38 rfl (lv_at hl 0 rfl) ?_
        refine lv_iconst (v := 2) hx hb d_Mo_outcome_39 (by decide) ?_
        refine e_ci (e_runV hx hb hml hown hts hE hbs hW (F_Mo G hG) rfl (c_M_fail l G hG (up2 d (600) (0) (0)) (2)) kw_487 kw_488 kw_489 kw_412 kw_486 rfl rfl hd_Mo_fail ⟨Nat.le_of_ble_eq_true rfl, Nat.le_of_ble_eq_true rfl⟩ (As := [.int (2)]) (rest := []) rfl hl.1 rfl (Nat.le_of_ble_eq_true rfl) d_Mo_outcome_40 ⟨Nat.le_of_ble_eq_true rfl, Nat.le_of_ble_eq_true rfl⟩) hW (fun r d' H locs hp hW => ?_)
        obtain ⟨hp1, hp2⟩ := hp
        have hp1 := hp1.symm; subst hp1
        have hp2 := hp2.symm; subst hp2
        exact e_iret hx hb hr hlk hW (mq_no (c := (2)) (by unfold mC_oc; (try simp only [cl_nI (show ld < 2147483648 by omega), cl_nI (show t < 2147483648 by omega)]); rw [if_pos c_1, if_pos c_2, if_neg c_3]) (by decide) (by exact rfl)) (Nat.zero_le _) (Nat.zero_le _) d_Mo_outcome_43
    · skip
      refine lv_aload_n hx hb d_Mo_outcome_24 rfl (lv_at hl 0 rfl) ?_
      refine lv_iconst (v := 1) hx hb d_Mo_outcome_25 (by decide) ?_
      refine e_ci (e_runV hx hb hml hown hts hE hbs hW (F_Mo G hG) rfl (c_M_fail l G hG (up2 d (600) (0) (0)) (1)) kw_487 kw_488 kw_489 kw_412 kw_486 rfl rfl hd_Mo_fail ⟨Nat.le_of_ble_eq_true rfl, Nat.le_of_ble_eq_true rfl⟩ (As := [.int (1)]) (rest := []) rfl hl.1 rfl (Nat.le_of_ble_eq_true rfl) d_Mo_outcome_26 ⟨Nat.le_of_ble_eq_true rfl, Nat.le_of_ble_eq_true rfl⟩) hW (fun r d' H locs hp hW => ?_)
      obtain ⟨hp1, hp2⟩ := hp
      have hp1 := hp1.symm; subst hp1
      have hp2 := hp2.symm; subst hp2
      exact e_iret hx hb hr hlk hW (mq_no (c := (1)) (by unfold mC_oc; (try simp only [cl_nI (show ld < 2147483648 by omega)]); rw [if_pos c_1, if_neg c_2]) (by decide) (by exact rfl)) (Nat.zero_le _) (Nat.zero_le _) d_Mo_outcome_29
set_option maxHeartbeats 4000000 in
set_option maxRecDepth 100000 in
theorem c_M_taken (l : Launch) (G : GT) (hG : GOK G) (d : DD) (x0 x1 x2 x3 : Int32) (fn : d 600 1 = nI (gn G)) : Met l y_Mo_taken (.code y_Mo_taken b_Mo_taken 6 (some .int) :: WS) { frames := 1, cells := 0, slots := 0, locals := 22 } (cPre G [.ref (gad G (600)), .int (x0), .int (x1), .int (x2), .int (x3)] d) (cQi G (mQ d (mC_tn d (gn G) x0 x1 x2) (mR_tn d (cl x0) (cl x1) (cl x2) x3) ((up2 d 600 0 0)))) 0 0 (gAb G) := by
  refine c_start (own := R_Mo) (by decide +kernel) rfl (Nat.le_of_ble_eq_true rfl) ?_
  intro p e zs zm below meth zc ls C hW hl
  obtain ⟨hx, hb, hr, hml, hown, hts, hlk, hE, hbs⟩ := C
  have hK := hE.1
  have hn3 := hG.1
  have hl : lv_has ls 6 [(0, .ref (gad G (600))), (1, .int (x0)), (2, .int (x1)), (3, .int (x2)), (4, .int (x3))] := hl
  refine lv_aload_n hx hb d_Mo_taken_0 rfl (lv_at hl 0 rfl) ?_
  refine lv_iconst (v := 0) hx hb d_Mo_taken_1 (by decide) ?_
  refine e_put hx hb hts hown hK hW (F_Mo G hG) i_Mo t_Mo t_Mo_ok n_Mo rfl 0 (by decide) (hts _ kw_403) (fun _ h => h) rfl (by decide +kernel) (fun _ => rfl) (fun _ => rfl) d_Mo_taken_2 (fun H locs hW => ?_)
  refine lv_aload_n hx hb d_Mo_taken_5 rfl (lv_at hl 0 rfl) ?_
  refine lv_iload_n hx hb d_Mo_taken_6 rfl (lv_at hl 1 rfl) ?_
  refine lv_aload_n hx hb d_Mo_taken_7 rfl (lv_at hl 0 rfl) ?_
  refine e_get (v := .int ((up2 d (600) (0) (0)) (600) (1))) hx hb hts hown hK hW (F_Mo G hG) i_Mo rfl 1 (by decide) (hts _ kw_404) (fun _ h => h) rfl d_Mo_taken_8 ?_
  refine e_top (v := nI (gn G)) ((up2_nk (by decide)).trans (fn)) ?_
  refine e_ci (e_runV hx hb hml hown hts hE hbs hW (F_Mo G hG) rfl (c_M_out l G hG (up2 d (600) (0) (0)) (x0) (nI (gn G))) kw_491 kw_492 kw_493 kw_412 kw_490 rfl rfl hd_Mo_out ⟨Nat.le_of_ble_eq_true rfl, Nat.le_of_ble_eq_true rfl⟩ (As := [.int (x0), .int (nI (gn G))]) (rest := []) rfl hl.1 rfl (Nat.le_of_ble_eq_true rfl) d_Mo_taken_11 ⟨Nat.le_of_ble_eq_true rfl, Nat.le_of_ble_eq_true rfl⟩) hW (fun r d' H locs hp hW => ?_)
  obtain ⟨hp1, hp2⟩ := hp
  have hp1 := hp1.symm; subst hp1
  have hp2 := hp2.symm; subst hp2
  refine lv_if_ne (tgt := 36) hx hb d_Mo_taken_14 (by decide) (fun c_1 => ?_) (fun c_1 => ?_)
  · skip
    refine lv_aload_n hx hb d_Mo_taken_36 rfl (lv_at hl 0 rfl) ?_
    refine lv_iconst (v := 1) hx hb d_Mo_taken_37 (by decide) ?_
    refine e_ci (e_runV hx hb hml hown hts hE hbs hW (F_Mo G hG) rfl (c_M_fail l G hG (up2 d (600) (0) (0)) (1)) kw_487 kw_488 kw_489 kw_412 kw_486 rfl rfl hd_Mo_fail ⟨Nat.le_of_ble_eq_true rfl, Nat.le_of_ble_eq_true rfl⟩ (As := [.int (1)]) (rest := []) rfl hl.1 rfl (Nat.le_of_ble_eq_true rfl) d_Mo_taken_38 ⟨Nat.le_of_ble_eq_true rfl, Nat.le_of_ble_eq_true rfl⟩) hW (fun r d' H locs hp hW => ?_)
    obtain ⟨hp1, hp2⟩ := hp
    have hp1 := hp1.symm; subst hp1
    have hp2 := hp2.symm; subst hp2
    exact e_iret hx hb hr hlk hW (mq_no (c := (1)) (by unfold mC_tn; rw [if_neg c_1]) (by decide) (by exact rfl)) (Nat.zero_le _) (Nat.zero_le _) d_Mo_taken_41
  · skip
    obtain ⟨a, ha, et⟩ := out_nat (B := gn G) (by omega) c_1
    subst et
    refine lv_aload_n hx hb d_Mo_taken_17 rfl (lv_at hl 0 rfl) ?_
    refine lv_iload_n hx hb d_Mo_taken_18 rfl (lv_at hl 2 rfl) ?_
    refine lv_bipush (v := 8) hx hb d_Mo_taken_19 (by decide) ?_
    refine e_ci (e_runV hx hb hml hown hts hE hbs hW (F_Mo G hG) rfl (c_M_out l G hG (up2 d (600) (0) (0)) (x1) (8)) kw_491 kw_492 kw_493 kw_412 kw_490 rfl rfl hd_Mo_out ⟨Nat.le_of_ble_eq_true rfl, Nat.le_of_ble_eq_true rfl⟩ (As := [.int (x1), .int (8)]) (rest := []) rfl hl.1 rfl (Nat.le_of_ble_eq_true rfl) d_Mo_taken_21 ⟨Nat.le_of_ble_eq_true rfl, Nat.le_of_ble_eq_true rfl⟩) hW (fun r d' H locs hp hW => ?_)
    obtain ⟨hp1, hp2⟩ := hp
    have hp1 := hp1.symm; subst hp1
    have hp2 := hp2.symm; subst hp2
    refine lv_if_ne (tgt := 36) hx hb d_Mo_taken_24 (by decide) (fun c_2 => ?_) (fun c_2 => ?_)
    · skip
      refine lv_aload_n hx hb d_Mo_taken_36 rfl (lv_at hl 0 rfl) ?_
      refine lv_iconst (v := 1) hx hb d_Mo_taken_37 (by decide) ?_
      refine e_ci (e_runV hx hb hml hown hts hE hbs hW (F_Mo G hG) rfl (c_M_fail l G hG (up2 d (600) (0) (0)) (1)) kw_487 kw_488 kw_489 kw_412 kw_486 rfl rfl hd_Mo_fail ⟨Nat.le_of_ble_eq_true rfl, Nat.le_of_ble_eq_true rfl⟩ (As := [.int (1)]) (rest := []) rfl hl.1 rfl (Nat.le_of_ble_eq_true rfl) d_Mo_taken_38 ⟨Nat.le_of_ble_eq_true rfl, Nat.le_of_ble_eq_true rfl⟩) hW (fun r d' H locs hp hW => ?_)
      obtain ⟨hp1, hp2⟩ := hp
      have hp1 := hp1.symm; subst hp1
      have hp2 := hp2.symm; subst hp2
      exact e_iret hx hb hr hlk hW (mq_no (c := (1)) (by unfold mC_tn; (try simp only [cl_nI (show a < 2147483648 by omega)]); rw [if_pos c_1, if_neg c_2]) (by decide) (by exact rfl)) (Nat.zero_le _) (Nat.zero_le _) d_Mo_taken_41
    · skip
      obtain ⟨t, ht, et⟩ := out_nat (B := 8) (by omega) c_2
      subst et
      refine lv_aload_n hx hb d_Mo_taken_27 rfl (lv_at hl 0 rfl) ?_
      refine lv_iload_n hx hb d_Mo_taken_28 rfl (lv_at hl 3 rfl) ?_
      refine lv_iconst (v := 3) hx hb d_Mo_taken_29 (by decide) ?_
      refine e_ci (e_runV hx hb hml hown hts hE hbs hW (F_Mo G hG) rfl (c_M_out l G hG (up2 d (600) (0) (0)) (x2) (3)) kw_491 kw_492 kw_493 kw_412 kw_490 rfl rfl hd_Mo_out ⟨Nat.le_of_ble_eq_true rfl, Nat.le_of_ble_eq_true rfl⟩ (As := [.int (x2), .int (3)]) (rest := []) rfl hl.1 rfl (Nat.le_of_ble_eq_true rfl) d_Mo_taken_30 ⟨Nat.le_of_ble_eq_true rfl, Nat.le_of_ble_eq_true rfl⟩) hW (fun r d' H locs hp hW => ?_)
      obtain ⟨hp1, hp2⟩ := hp
      have hp1 := hp1.symm; subst hp1
      have hp2 := hp2.symm; subst hp2
      refine lv_if_eq (tgt := 42) hx hb d_Mo_taken_33 (by decide) (fun c_3 => ?_) (fun c_3 => ?_)
      · skip
        obtain ⟨s, hs, et⟩ := out_nat (B := 3) (by omega) c_3
        subst et
        refine lv_iload_n hx hb d_Mo_taken_42 rfl (lv_at hl 2 rfl) ?_
        refine lv_aload_n hx hb d_Mo_taken_43 rfl (lv_at hl 0 rfl) ?_
        refine e_get (v := .int ((up2 d (600) (0) (0)) (600) (7))) hx hb hts hown hK hW (F_Mo G hG) i_Mo rfl 7 (by decide) (hts _ kw_485) (fun _ h => h) rfl d_Mo_taken_44 ?_
        refine e_top (v := d (600) (7)) ((up2_nk (by decide)).trans (rfl)) ?_
        refine lv_icmp_lt (tgt := 56) hx hb d_Mo_taken_47 (by decide) (fun c_4 => ?_) (fun c_4 => ?_)
        · skip
          refine lv_bipush (v := 24) hx hb d_Mo_taken_56 (by decide) ?_
          refine lv_iload_n hx hb d_Mo_taken_58 rfl (lv_at hl 1 rfl) ?_
          refine lv_imul hx hb d_Mo_taken_59 ?_
          refine e_top (v := nI (24 * a)) (pk_mul (24) (a)) ?_
          refine lv_iconst (v := 3) hx hb d_Mo_taken_60 (by decide) ?_
          refine lv_iload_n hx hb d_Mo_taken_61 rfl (lv_at hl 2 rfl) ?_
          refine lv_imul hx hb d_Mo_taken_62 ?_
          refine e_top (v := nI (3 * t)) (pk_mul (3) (t)) ?_
          refine lv_iadd hx hb d_Mo_taken_63 ?_
          refine e_top (v := nI (24 * a + 3 * t)) (nI_add (24 * a) (3 * t)) ?_
          refine lv_iload_n hx hb d_Mo_taken_64 rfl (lv_at hl 3 rfl) ?_
          refine lv_iadd hx hb d_Mo_taken_65 ?_
          refine e_top (v := nI (24 * a + 3 * t + s)) (nI_add (24 * a + 3 * t) (s)) ?_
          refine lv_istore (lv' := [(5, .int (nI (24 * a + 3 * t + s))), (0, .ref (gad G (600))), (1, .int (nI a)), (2, .int (nI t)), (3, .int (nI s)), (4, .int (x3))]) hx hb d_Mo_taken_66 hl (by decide) rfl (fun ls hl => ?_)
          refine lv_iload hx hb d_Mo_taken_68 (lv_at hl 5 rfl) ?_
          refine lv_if_eq (tgt := 81) hx hb d_Mo_taken_70 (by decide) (fun c_5 => ?_) (fun c_5 => ?_)
          · skip
            refine lv_aload_n hx hb d_Mo_taken_81 rfl (lv_at hl 1 rfl) ?_
            refine e_get (v := .ref (gad G (614))) hx hb hts hown hK hW (F_Mo G hG) i_Mo rfl 14 (by decide) (hts _ kw_442) (fun _ h => h) rfl d_Mo_taken_82 ?_
            refine lv_iload hx hb d_Mo_taken_85 (lv_at hl 0 rfl) ?_
            refine e_iald hx hb hK hW (F_MtakenBallot G hG) (j := 24 * a + 3 * t + s) (by omega) (x := d (614) (24 * a + 3 * t + s)) ((up2_nc (by omega)).trans (rfl)) rfl d_Mo_taken_87 ?_
            refine lv_if_ge (tgt := 95) hx hb d_Mo_taken_88 (by decide) (fun c_6 => ?_) (fun c_6 => ?_)
            · skip
              refine lv_iconst (v := 2) hx hb d_Mo_taken_95 (by decide) ?_
              refine lv_aload_n hx hb d_Mo_taken_96 rfl (lv_at hl 1 rfl) ?_
              refine e_get (v := .ref (gad G (614))) hx hb hts hown hK hW (F_Mo G hG) i_Mo rfl 14 (by decide) (hts _ kw_442) (fun _ h => h) rfl d_Mo_taken_97 ?_
              refine lv_iload hx hb d_Mo_taken_100 (lv_at hl 0 rfl) ?_
              refine e_iald hx hb hK hW (F_MtakenBallot G hG) (j := 24 * a + 3 * t + s) (by omega) (x := d (614) (24 * a + 3 * t + s)) ((up2_nc (by omega)).trans (rfl)) rfl d_Mo_taken_102 ?_
              refine lv_imul hx hb d_Mo_taken_103 ?_
              refine lv_aload_n hx hb d_Mo_taken_104 rfl (lv_at hl 1 rfl) ?_
              refine e_get (v := .ref (gad G (615))) hx hb hts hown hK hW (F_Mo G hG) i_Mo rfl 15 (by decide) (hts _ kw_441) (fun _ h => h) rfl d_Mo_taken_105 ?_
              refine lv_iload hx hb d_Mo_taken_108 (lv_at hl 0 rfl) ?_
              refine e_iald hx hb hK hW (F_MtakenVote G hG) (j := 24 * a + 3 * t + s) (by omega) (x := d (615) (24 * a + 3 * t + s)) ((up2_nc (by omega)).trans (rfl)) rfl d_Mo_taken_110 ?_
              refine lv_iadd hx hb d_Mo_taken_111 ?_
              exact e_iret hx hb hr hlk hW (mq_ok (by unfold mC_tn; (try simp only [cl_nI (show a < 2147483648 by omega), cl_nI (show t < 2147483648 by omega), cl_nI (show s < 2147483648 by omega)]); rw [if_pos c_1, if_pos c_2, if_pos c_3, if_pos c_4]) (by first | (simp only [cl_nI (show a < 2147483648 by omega), cl_nI (show t < 2147483648 by omega), cl_nI (show s < 2147483648 by omega)]; done) | (simp only [cl_nI (show a < 2147483648 by omega), cl_nI (show t < 2147483648 by omega), cl_nI (show s < 2147483648 by omega)]; unfold mR_tn; rw [if_pos c_5, if_pos c_6]; done) | (unfold mR_tn; rw [if_pos c_5, if_pos c_6]; done)) (by first | (simp only [cl_nI (show a < 2147483648 by omega), cl_nI (show t < 2147483648 by omega), cl_nI (show s < 2147483648 by omega)]; done) | (simp only [cl_nI (show a < 2147483648 by omega), cl_nI (show t < 2147483648 by omega), cl_nI (show s < 2147483648 by omega)]; exact rfl; done) | (exact rfl; done))) (Nat.zero_le _) (Nat.zero_le _) d_Mo_taken_112
            · skip
              refine lv_iconst (v := -1) hx hb d_Mo_taken_91 (by decide) ?_
              refine lv_goto (tgt := 112) hx hb d_Mo_taken_92 (by decide) ?_
              exact e_iret hx hb hr hlk hW (mq_ok (by unfold mC_tn; (try simp only [cl_nI (show a < 2147483648 by omega), cl_nI (show t < 2147483648 by omega), cl_nI (show s < 2147483648 by omega)]); rw [if_pos c_1, if_pos c_2, if_pos c_3, if_pos c_4]) (by first | (simp only [cl_nI (show a < 2147483648 by omega), cl_nI (show t < 2147483648 by omega), cl_nI (show s < 2147483648 by omega)]; done) | (simp only [cl_nI (show a < 2147483648 by omega), cl_nI (show t < 2147483648 by omega), cl_nI (show s < 2147483648 by omega)]; unfold mR_tn; rw [if_pos c_5, if_neg c_6]; done) | (unfold mR_tn; rw [if_pos c_5, if_neg c_6]; done)) (by first | (simp only [cl_nI (show a < 2147483648 by omega), cl_nI (show t < 2147483648 by omega), cl_nI (show s < 2147483648 by omega)]; done) | (simp only [cl_nI (show a < 2147483648 by omega), cl_nI (show t < 2147483648 by omega), cl_nI (show s < 2147483648 by omega)]; exact rfl; done) | (exact rfl; done))) (Nat.zero_le _) (Nat.zero_le _) d_Mo_taken_112
          · skip
            refine lv_aload_n hx hb d_Mo_taken_73 rfl (lv_at hl 1 rfl) ?_
            refine e_get (v := .ref (gad G (613))) hx hb hts hown hK hW (F_Mo G hG) i_Mo rfl 13 (by decide) (hts _ kw_443) (fun _ h => h) rfl d_Mo_taken_74 ?_
            refine lv_iload hx hb d_Mo_taken_77 (lv_at hl 0 rfl) ?_
            refine e_iald hx hb hK hW (F_Mpromised G hG) (j := 24 * a + 3 * t + s) (by omega) (x := d (613) (24 * a + 3 * t + s)) ((up2_nc (by omega)).trans (rfl)) rfl d_Mo_taken_79 ?_
            exact e_iret hx hb hr hlk hW (mq_ok (by unfold mC_tn; (try simp only [cl_nI (show a < 2147483648 by omega), cl_nI (show t < 2147483648 by omega), cl_nI (show s < 2147483648 by omega)]); rw [if_pos c_1, if_pos c_2, if_pos c_3, if_pos c_4]) (by first | (simp only [cl_nI (show a < 2147483648 by omega), cl_nI (show t < 2147483648 by omega), cl_nI (show s < 2147483648 by omega)]; done) | (simp only [cl_nI (show a < 2147483648 by omega), cl_nI (show t < 2147483648 by omega), cl_nI (show s < 2147483648 by omega)]; unfold mR_tn; rw [if_neg c_5]; done) | (unfold mR_tn; rw [if_neg c_5]; done)) (by first | (simp only [cl_nI (show a < 2147483648 by omega), cl_nI (show t < 2147483648 by omega), cl_nI (show s < 2147483648 by omega)]; done) | (simp only [cl_nI (show a < 2147483648 by omega), cl_nI (show t < 2147483648 by omega), cl_nI (show s < 2147483648 by omega)]; exact rfl; done) | (exact rfl; done))) (Nat.zero_le _) (Nat.zero_le _) d_Mo_taken_80
        · skip
          refine lv_aload_n hx hb d_Mo_taken_50 rfl (lv_at hl 0 rfl) ?_
          refine lv_iconst (v := 2) hx hb d_Mo_taken_51 (by decide) ?_
          refine e_ci (e_runV hx hb hml hown hts hE hbs hW (F_Mo G hG) rfl (c_M_fail l G hG (up2 d (600) (0) (0)) (2)) kw_487 kw_488 kw_489 kw_412 kw_486 rfl rfl hd_Mo_fail ⟨Nat.le_of_ble_eq_true rfl, Nat.le_of_ble_eq_true rfl⟩ (As := [.int (2)]) (rest := []) rfl hl.1 rfl (Nat.le_of_ble_eq_true rfl) d_Mo_taken_52 ⟨Nat.le_of_ble_eq_true rfl, Nat.le_of_ble_eq_true rfl⟩) hW (fun r d' H locs hp hW => ?_)
          obtain ⟨hp1, hp2⟩ := hp
          have hp1 := hp1.symm; subst hp1
          have hp2 := hp2.symm; subst hp2
          exact e_iret hx hb hr hlk hW (mq_no (c := (2)) (by unfold mC_tn; (try simp only [cl_nI (show a < 2147483648 by omega), cl_nI (show t < 2147483648 by omega), cl_nI (show s < 2147483648 by omega)]); rw [if_pos c_1, if_pos c_2, if_pos c_3, if_neg c_4]) (by decide) (by exact rfl)) (Nat.zero_le _) (Nat.zero_le _) d_Mo_taken_55
      · skip
        refine lv_aload_n hx hb d_Mo_taken_36 rfl (lv_at hl 0 rfl) ?_
        refine lv_iconst (v := 1) hx hb d_Mo_taken_37 (by decide) ?_
        refine e_ci (e_runV hx hb hml hown hts hE hbs hW (F_Mo G hG) rfl (c_M_fail l G hG (up2 d (600) (0) (0)) (1)) kw_487 kw_488 kw_489 kw_412 kw_486 rfl rfl hd_Mo_fail ⟨Nat.le_of_ble_eq_true rfl, Nat.le_of_ble_eq_true rfl⟩ (As := [.int (1)]) (rest := []) rfl hl.1 rfl (Nat.le_of_ble_eq_true rfl) d_Mo_taken_38 ⟨Nat.le_of_ble_eq_true rfl, Nat.le_of_ble_eq_true rfl⟩) hW (fun r d' H locs hp hW => ?_)
        obtain ⟨hp1, hp2⟩ := hp
        have hp1 := hp1.symm; subst hp1
        have hp2 := hp2.symm; subst hp2
        exact e_iret hx hb hr hlk hW (mq_no (c := (1)) (by unfold mC_tn; (try simp only [cl_nI (show a < 2147483648 by omega), cl_nI (show t < 2147483648 by omega)]); rw [if_pos c_1, if_pos c_2, if_neg c_3]) (by decide) (by exact rfl)) (Nat.zero_le _) (Nat.zero_le _) d_Mo_taken_41
set_option maxHeartbeats 4000000 in
set_option maxRecDepth 100000 in
theorem c_M_upSet (l : Launch) (G : GT) (hG : GOK G) (d : DD) (cn n mn : Nat) (hF : ZA G cn n) (hmn : mn ≤ n) : Met l y_Mo_upSet (.code y_Mo_upSet b_Mo_upSet 5 (some .int) :: WS) { frames := 0, cells := 0, slots := 0, locals := 0 } (cPre G [.ref (gad G (600)), .ref (gad G (cn)), .int (nI mn)] d) (cQi G (fun r9 u9 => r9 = usF d cn mn ∧ u9 = d)) 0 0 (gAb G) := by
  refine c_start (own := R_Mo) (by decide +kernel) rfl (Nat.le_of_ble_eq_true rfl) ?_
  intro p e zs zm below meth zc ls C hW hl
  obtain ⟨hx, hb, hr, hml, hown, hts, hlk, hE, hbs⟩ := C
  have hK := hE.1
  have hn3 := hG.1
  have hl : lv_has ls 5 [(0, .ref (gad G (600))), (1, .ref (gad G (cn))), (2, .int (nI mn))] := hl
  have hn31 := hF.2.1
  refine lv_iconst (v := 0) hx hb d_Mo_upSet_0 (by decide) ?_
  refine lv_istore_n (lv' := [(3, .int (0)), (0, .ref (gad G (600))), (1, .ref (gad G (cn))), (2, .int (nI mn))]) hx hb d_Mo_upSet_1 rfl hl (by decide) rfl (fun ls hl => ?_)
  refine lv_iconst (v := 0) hx hb d_Mo_upSet_2 (by decide) ?_
  refine lv_istore (lv' := [(4, .int (0)), (3, .int (0)), (0, .ref (gad G (600))), (1, .ref (gad G (cn))), (2, .int (nI mn))]) hx hb d_Mo_upSet_3 hl (by decide) rfl (fun ls hl => ?_)
  have L_5 : ∀ (N k : Nat), k ≤ mn → mn + 1 ≤ k + N → ∀ (H : Heap) (locs : List Loc) (ls : Array Slot), WD G zs.heap (d) H locs → lv_has ls 5 [(4, .int (nI k)), (3, .int (usF d cn k)), (0, .ref (gad G (600))), (1, .ref (gad G (cn))), (2, .int (nI mn))] → W p l e { frames := 0, cells := 0, slots := 0, locals := 0 } zs zm [.ref (gad G (600)), .ref (gad G (cn)), .int (nI mn)].toArray below meth zc H locs 0 0 (MQ below (cQi G (fun r9 u9 => r9 = usF d cn mn ∧ u9 = d)) [.ref (gad G (600)), .ref (gad G (cn)), .int (nI mn)].toArray zs 0 0 (gAb G)) (F0 zm 5 ls []) := by
    intro N
    induction N with
    | zero => intro k h1 h2; exact absurd h2 (by omega)
    | succ N ih_k =>
      intro k hi_k hN_k H locs ls hW hl
      refine lv_iload hx hb d_Mo_upSet_5 (lv_at hl 0 rfl) ?_
      refine lv_iload_n hx hb d_Mo_upSet_7 rfl (lv_at hl 4 rfl) ?_
      refine lv_icmp_ge (tgt := 35) hx hb d_Mo_upSet_8 (by decide) (fun c_1 => ?_) (fun c_1 => ?_)
      · skip
        have e_k : mn = k := (lp_out rfl (by omega) hi_k c_1).symm
        subst e_k
        refine lv_iload_n hx hb d_Mo_upSet_35 rfl (lv_at hl 1 rfl) ?_
        exact e_iret hx hb hr hlk hW ⟨by exact rfl, by exact rfl⟩ (Nat.zero_le _) (Nat.zero_le _) d_Mo_upSet_36
      · skip
        have lt_k : k < mn := lp_in rfl (by omega) hi_k c_1
        refine lv_iload_n hx hb d_Mo_upSet_11 rfl (lv_at hl 1 rfl) ?_
        refine lv_aload_n hx hb d_Mo_upSet_12 rfl (lv_at hl 3 rfl) ?_
        refine lv_iload hx hb d_Mo_upSet_13 (lv_at hl 0 rfl) ?_
        refine e_zald hx hb hK hW hF (j := k) (by omega) (x := d (cn) (k)) (rfl) rfl d_Mo_upSet_15 ?_
        refine lv_if_eq (tgt := 23) hx hb d_Mo_upSet_16 (by decide) (fun c_2 => ?_) (fun c_2 => ?_)
        · skip
          refine lv_iconst (v := 1) hx hb d_Mo_upSet_23 (by decide) ?_
          refine lv_iload hx hb d_Mo_upSet_24 (lv_at hl 0 rfl) ?_
          refine lv_ishl hx hb d_Mo_upSet_26 ?_
          refine lv_ior hx hb d_Mo_upSet_27 ?_
          refine lv_istore_n (lv' := [(3, .int ((usF d cn k) ||| ((1) <<< ((nI k) &&& 31)))), (4, .int (nI k)), (0, .ref (gad G (600))), (1, .ref (gad G (cn))), (2, .int (nI mn))]) hx hb d_Mo_upSet_28 rfl hl (by decide) rfl (fun ls hl => ?_)
          refine lv_iinc (v := nI (k + 1)) (lv' := [(4, .int (nI (k + 1))), (3, .int ((usF d cn k) ||| ((1) <<< ((nI k) &&& 31)))), (0, .ref (gad G (600))), (1, .ref (gad G (cn))), (2, .int (nI mn))]) hx hb d_Mo_upSet_29 hl (k := 1) rfl (nI_1 (k)) (by decide) rfl (fun ls hl => ?_)
          refine lv_goto (tgt := 5) hx hb d_Mo_upSet_32 (by decide) ?_
          exact ih_k (k + 1) (by omega) (by omega) _ _ _ hW (by rw [show usF d cn (k + 1) = (usF d cn k) ||| ((1) <<< ((nI k) &&& 31)) from congrArg (usF d cn k ||| ·) (if_pos c_2)]; exact lv_sub hl [0, 1, 2, 3, 4] rfl)
        · skip
          refine lv_iconst (v := 0) hx hb d_Mo_upSet_19 (by decide) ?_
          refine lv_goto (tgt := 27) hx hb d_Mo_upSet_20 (by decide) ?_
          refine lv_ior hx hb d_Mo_upSet_27 ?_
          refine lv_istore_n (lv' := [(3, .int ((usF d cn k) ||| (0))), (4, .int (nI k)), (0, .ref (gad G (600))), (1, .ref (gad G (cn))), (2, .int (nI mn))]) hx hb d_Mo_upSet_28 rfl hl (by decide) rfl (fun ls hl => ?_)
          refine lv_iinc (v := nI (k + 1)) (lv' := [(4, .int (nI (k + 1))), (3, .int ((usF d cn k) ||| (0))), (0, .ref (gad G (600))), (1, .ref (gad G (cn))), (2, .int (nI mn))]) hx hb d_Mo_upSet_29 hl (k := 1) rfl (nI_1 (k)) (by decide) rfl (fun ls hl => ?_)
          refine lv_goto (tgt := 5) hx hb d_Mo_upSet_32 (by decide) ?_
          exact ih_k (k + 1) (by omega) (by omega) _ _ _ hW (by rw [show usF d cn (k + 1) = (usF d cn k) ||| (0) from congrArg (usF d cn k ||| ·) (if_neg c_2)]; exact lv_sub hl [0, 1, 2, 3, 4] rfl)
  exact L_5 (mn + 1) 0 (by omega) (by omega) _ _ _ hW (lv_sub hl [0, 1, 2, 3, 4] rfl)
set_option maxHeartbeats 4000000 in
set_option maxRecDepth 100000 in
theorem c_M_count (l : Launch) (G : GT) (hG : GOK G) (d : DD) (x0 : Int32) (fn : d 600 1 = nI (gn G)) : Met l y_Mo_count (.code y_Mo_count b_Mo_count 2 (some .int) :: WS) { frames := 1, cells := 0, slots := 0, locals := 24 } (cPre G [.ref (gad G (600)), .int (x0)] d) (cQi G (mQ d (mC_ct x0) (mR_ct d (gn G) x0) ((up2 d 600 0 0)))) 0 0 (gAb G) := by
  refine c_start (own := R_Mo) (by decide +kernel) rfl (Nat.le_of_ble_eq_true rfl) ?_
  intro p e zs zm below meth zc ls C hW hl
  obtain ⟨hx, hb, hr, hml, hown, hts, hlk, hE, hbs⟩ := C
  have hK := hE.1
  have hn3 := hG.1
  have hl : lv_has ls 2 [(0, .ref (gad G (600))), (1, .int (x0))] := hl
  refine lv_aload_n hx hb d_Mo_count_0 rfl (lv_at hl 0 rfl) ?_
  refine lv_iconst (v := 0) hx hb d_Mo_count_1 (by decide) ?_
  refine e_put hx hb hts hown hK hW (F_Mo G hG) i_Mo t_Mo t_Mo_ok n_Mo rfl 0 (by decide) (hts _ kw_403) (fun _ h => h) rfl (by decide +kernel) (fun _ => rfl) (fun _ => rfl) d_Mo_count_2 (fun H locs hW => ?_)
  refine lv_iload_n hx hb d_Mo_count_5 rfl (lv_at hl 1 rfl) ?_
  by_cases c_1 : (x0) = 0
  · skip
    refine lv_tableIn (off := 42) (tgt := 48) hx hb d_Mo_count_6 (by rw [c_1]; decide) (by rw [c_1]; decide) (by rw [c_1]; decide) (by decide) ?_
    refine lv_aload_n hx hb d_Mo_count_48 rfl (lv_at hl 0 rfl) ?_
    refine e_get (v := .int ((up2 d (600) (0) (0)) (600) (25))) hx hb hts hown hK hW (F_Mo G hG) i_Mo rfl 25 (by decide) (hts _ kw_406) (fun _ h => h) rfl d_Mo_count_49 ?_
    refine e_top (v := d (600) (25)) ((up2_nk (by decide)).trans (rfl)) ?_
    exact e_iret hx hb hr hlk hW (mq_ok (by unfold mC_ct; rw [if_pos c_1]) (by unfold mR_ct; rw [if_pos c_1]) (by exact rfl)) (Nat.zero_le _) (Nat.zero_le _) d_Mo_count_52
  · skip
    by_cases c_2 : (x0) = 1
    · skip
      refine lv_tableIn (off := 47) (tgt := 53) hx hb d_Mo_count_6 (by rw [c_2]; decide) (by rw [c_2]; decide) (by rw [c_2]; decide) (by decide) ?_
      refine lv_aload_n hx hb d_Mo_count_53 rfl (lv_at hl 0 rfl) ?_
      refine e_get (v := .int ((up2 d (600) (0) (0)) (600) (26))) hx hb hts hown hK hW (F_Mo G hG) i_Mo rfl 26 (by decide) (hts _ kw_408) (fun _ h => h) rfl d_Mo_count_54 ?_
      refine e_top (v := d (600) (26)) ((up2_nk (by decide)).trans (rfl)) ?_
      exact e_iret hx hb hr hlk hW (mq_ok (by unfold mC_ct; rw [if_neg c_1, if_pos c_2]) (by unfold mR_ct; rw [if_neg c_1, if_pos c_2]) (by exact rfl)) (Nat.zero_le _) (Nat.zero_le _) d_Mo_count_57
    · skip
      by_cases c_3 : (x0) = 2
      · skip
        refine lv_tableIn (off := 52) (tgt := 58) hx hb d_Mo_count_6 (by rw [c_3]; decide) (by rw [c_3]; decide) (by rw [c_3]; decide) (by decide) ?_
        refine lv_aload_n hx hb d_Mo_count_58 rfl (lv_at hl 0 rfl) ?_
        refine e_get (v := .int ((up2 d (600) (0) (0)) (600) (7))) hx hb hts hown hK hW (F_Mo G hG) i_Mo rfl 7 (by decide) (hts _ kw_485) (fun _ h => h) rfl d_Mo_count_59 ?_
        refine e_top (v := d (600) (7)) ((up2_nk (by decide)).trans (rfl)) ?_
        exact e_iret hx hb hr hlk hW (mq_ok (by unfold mC_ct; rw [if_neg c_1, if_neg c_2, if_pos c_3]) (by unfold mR_ct; rw [if_neg c_1, if_neg c_2, if_pos c_3]) (by exact rfl)) (Nat.zero_le _) (Nat.zero_le _) d_Mo_count_62
      · skip
        by_cases c_4 : (x0) = 3
        · skip
          refine lv_tableIn (off := 57) (tgt := 63) hx hb d_Mo_count_6 (by rw [c_4]; decide) (by rw [c_4]; decide) (by rw [c_4]; decide) (by decide) ?_
          refine lv_aload_n hx hb d_Mo_count_63 rfl (lv_at hl 0 rfl) ?_
          refine e_get (v := .int ((up2 d (600) (0) (0)) (600) (1))) hx hb hts hown hK hW (F_Mo G hG) i_Mo rfl 1 (by decide) (hts _ kw_404) (fun _ h => h) rfl d_Mo_count_64 ?_
          refine e_top (v := nI (gn G)) ((up2_nk (by decide)).trans (fn)) ?_
          exact e_iret hx hb hr hlk hW (mq_ok (by unfold mC_ct; rw [if_neg c_1, if_neg c_2, if_neg c_3, if_pos c_4]) (by unfold mR_ct; rw [if_neg c_1, if_neg c_2, if_neg c_3, if_pos c_4]) (by exact rfl)) (Nat.zero_le _) (Nat.zero_le _) d_Mo_count_67
        · skip
          by_cases c_5 : (x0) = 4
          · skip
            refine lv_tableIn (off := 62) (tgt := 68) hx hb d_Mo_count_6 (by rw [c_5]; decide) (by rw [c_5]; decide) (by rw [c_5]; decide) (by decide) ?_
            refine lv_aload_n hx hb d_Mo_count_68 rfl (lv_at hl 0 rfl) ?_
            refine lv_aload_n hx hb d_Mo_count_69 rfl (lv_at hl 0 rfl) ?_
            refine e_get (v := .ref (gad G (602))) hx hb hts hown hK hW (F_Mo G hG) i_Mo rfl 2 (by decide) (hts _ kw_458) (fun _ h => h) rfl d_Mo_count_70 ?_
            refine lv_iconst (v := 3) hx hb d_Mo_count_73 (by decide) ?_
            refine e_ci (e_runV hx hb hml hown hts hE hbs hW (F_Mo G hG) rfl (c_M_upSet l G hG (up2 d (600) (0) (0)) (602) (3) 3 (F_MstoreDown G hG) (by decide)) kw_500 kw_501 kw_502 kw_412 kw_499 rfl rfl hd_Mo_upSet ⟨Nat.le_of_ble_eq_true rfl, Nat.le_of_ble_eq_true rfl⟩ (As := [.ref (gad G (602)), .int (3)]) (rest := []) rfl hl.1 rfl (Nat.le_of_ble_eq_true rfl) d_Mo_count_74 ⟨Nat.le_of_ble_eq_true rfl, Nat.le_of_ble_eq_true rfl⟩) hW (fun r d' H locs hp hW => ?_)
            obtain ⟨hp1, hp2⟩ := hp
            have hp1 := hp1.symm; subst hp1
            have hp2 := hp2.symm; subst hp2
            exact e_iret hx hb hr hlk hW (mq_ok (by unfold mC_ct; rw [if_neg c_1, if_neg c_2, if_neg c_3, if_neg c_4, if_pos c_5]) (by unfold mR_ct; rw [if_neg c_1, if_neg c_2, if_neg c_3, if_neg c_4, if_pos c_5]) (by exact rfl)) (Nat.zero_le _) (Nat.zero_le _) d_Mo_count_77
          · skip
            by_cases c_6 : (x0) = 5
            · skip
              refine lv_tableIn (off := 72) (tgt := 78) hx hb d_Mo_count_6 (by rw [c_6]; decide) (by rw [c_6]; decide) (by rw [c_6]; decide) (by decide) ?_
              refine lv_aload_n hx hb d_Mo_count_78 rfl (lv_at hl 0 rfl) ?_
              refine lv_aload_n hx hb d_Mo_count_79 rfl (lv_at hl 0 rfl) ?_
              refine e_get (v := .ref (gad G (603))) hx hb hts hown hK hW (F_Mo G hG) i_Mo rfl 3 (by decide) (hts _ kw_463) (fun _ h => h) rfl d_Mo_count_80 ?_
              refine lv_aload_n hx hb d_Mo_count_83 rfl (lv_at hl 0 rfl) ?_
              refine e_get (v := .int ((up2 d (600) (0) (0)) (600) (1))) hx hb hts hown hK hW (F_Mo G hG) i_Mo rfl 1 (by decide) (hts _ kw_404) (fun _ h => h) rfl d_Mo_count_84 ?_
              refine e_top (v := nI (gn G)) ((up2_nk (by decide)).trans (fn)) ?_
              refine e_ci (e_runV hx hb hml hown hts hE hbs hW (F_Mo G hG) rfl (c_M_upSet l G hG (up2 d (600) (0) (0)) (603) (3) (gn G) (F_MacceptorDown G hG) (by omega)) kw_500 kw_501 kw_502 kw_412 kw_499 rfl rfl hd_Mo_upSet ⟨Nat.le_of_ble_eq_true rfl, Nat.le_of_ble_eq_true rfl⟩ (As := [.ref (gad G (603)), .int (nI (gn G))]) (rest := []) rfl hl.1 rfl (Nat.le_of_ble_eq_true rfl) d_Mo_count_87 ⟨Nat.le_of_ble_eq_true rfl, Nat.le_of_ble_eq_true rfl⟩) hW (fun r d' H locs hp hW => ?_)
              obtain ⟨hp1, hp2⟩ := hp
              have hp1 := hp1.symm; subst hp1
              have hp2 := hp2.symm; subst hp2
              exact e_iret hx hb hr hlk hW (mq_ok (by unfold mC_ct; rw [if_neg c_1, if_neg c_2, if_neg c_3, if_neg c_4, if_neg c_5, if_pos c_6]) (by unfold mR_ct; rw [if_neg c_1, if_neg c_2, if_neg c_3, if_neg c_4, if_neg c_5, if_pos c_6]) (by exact rfl)) (Nat.zero_le _) (Nat.zero_le _) d_Mo_count_90
            · skip
              by_cases c_7 : (x0) = 6
              · skip
                refine lv_tableIn (off := 85) (tgt := 91) hx hb d_Mo_count_6 (by rw [c_7]; decide) (by rw [c_7]; decide) (by rw [c_7]; decide) (by decide) ?_
                refine lv_aload_n hx hb d_Mo_count_91 rfl (lv_at hl 0 rfl) ?_
                refine lv_aload_n hx hb d_Mo_count_92 rfl (lv_at hl 0 rfl) ?_
                refine e_get (v := .ref (gad G (604))) hx hb hts hown hK hW (F_Mo G hG) i_Mo rfl 4 (by decide) (hts _ kw_468) (fun _ h => h) rfl d_Mo_count_93 ?_
                refine lv_iconst (v := 2) hx hb d_Mo_count_96 (by decide) ?_
                refine e_ci (e_runV hx hb hml hown hts hE hbs hW (F_Mo G hG) rfl (c_M_upSet l G hG (up2 d (600) (0) (0)) (604) (2) 2 (F_MleaderDown G hG) (by decide)) kw_500 kw_501 kw_502 kw_412 kw_499 rfl rfl hd_Mo_upSet ⟨Nat.le_of_ble_eq_true rfl, Nat.le_of_ble_eq_true rfl⟩ (As := [.ref (gad G (604)), .int (2)]) (rest := []) rfl hl.1 rfl (Nat.le_of_ble_eq_true rfl) d_Mo_count_97 ⟨Nat.le_of_ble_eq_true rfl, Nat.le_of_ble_eq_true rfl⟩) hW (fun r d' H locs hp hW => ?_)
                obtain ⟨hp1, hp2⟩ := hp
                have hp1 := hp1.symm; subst hp1
                have hp2 := hp2.symm; subst hp2
                exact e_iret hx hb hr hlk hW (mq_ok (by unfold mC_ct; rw [if_neg c_1, if_neg c_2, if_neg c_3, if_neg c_4, if_neg c_5, if_neg c_6, if_pos c_7]) (by unfold mR_ct; rw [if_neg c_1, if_neg c_2, if_neg c_3, if_neg c_4, if_neg c_5, if_neg c_6]) (by exact rfl)) (Nat.zero_le _) (Nat.zero_le _) d_Mo_count_100
              · skip
                refine lv_tableOut (tgt := 101) hx hb d_Mo_count_6 (by have q0 := lv_neT c_1 (a := 0) (by decide); have q1 := lv_neT c_2 (a := 1) (by decide); have q2 := lv_neT c_3 (a := 2) (by decide); have q3 := lv_neT c_4 (a := 3) (by decide); have q4 := lv_neT c_5 (a := 4) (by decide); have q5 := lv_neT c_6 (a := 5) (by decide); have q6 := lv_neT c_7 (a := 6) (by decide); omega) (by decide) ?_
                refine lv_aload_n hx hb d_Mo_count_101 rfl (lv_at hl 0 rfl) ?_
                refine lv_iconst (v := 1) hx hb d_Mo_count_102 (by decide) ?_
                refine e_ci (e_runV hx hb hml hown hts hE hbs hW (F_Mo G hG) rfl (c_M_fail l G hG (up2 d (600) (0) (0)) (1)) kw_487 kw_488 kw_489 kw_412 kw_486 rfl rfl hd_Mo_fail ⟨Nat.le_of_ble_eq_true rfl, Nat.le_of_ble_eq_true rfl⟩ (As := [.int (1)]) (rest := []) rfl hl.1 rfl (Nat.le_of_ble_eq_true rfl) d_Mo_count_103 ⟨Nat.le_of_ble_eq_true rfl, Nat.le_of_ble_eq_true rfl⟩) hW (fun r d' H locs hp hW => ?_)
                obtain ⟨hp1, hp2⟩ := hp
                have hp1 := hp1.symm; subst hp1
                have hp2 := hp2.symm; subst hp2
                exact e_iret hx hb hr hlk hW (mq_no (c := (1)) (by unfold mC_ct; rw [if_neg c_1, if_neg c_2, if_neg c_3, if_neg c_4, if_neg c_5, if_neg c_6, if_neg c_7]) (by decide) (by exact rfl)) (Nat.zero_le _) (Nat.zero_le _) d_Mo_count_106
