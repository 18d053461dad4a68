theorem kw_507 : .code y_Mo_arrive b_Mo_arrive 8 none ∈ WS := List.mem_filter.mpr ⟨List.mem_append_right _ (List.mem_of_getElem? (i := 1061) (by decide +kernel)), by decide +kernel⟩
theorem kw_508 : .methodLink R_Mo 162 y_Mo_arrive ∈ WS := List.mem_filter.mpr ⟨List.mem_append_right _ (List.mem_of_getElem? (i := 1058) (by decide +kernel)), by decide +kernel⟩
theorem kw_509 : .instanceMethod y_Mo_arrive ∈ WS := List.mem_filter.mpr ⟨List.mem_append_right _ (List.mem_of_getElem? (i := 1060) (by decide +kernel)), by decide +kernel⟩
theorem kw_510 : .selects R_Mo y_Mo_arrive y_Mo_arrive ∈ WS := List.mem_filter.mpr ⟨List.mem_append_left _ (List.mem_of_getElem? (i := 30) (by decide +kernel)), by decide +kernel⟩
theorem hd_Mo_arrive : y_Mo_arrive.cls ≠ "java/lang/invoke/MethodHandle" ∧ y_Mo_arrive.cls ≠ "java/lang/invoke/VarHandle" ∧ (parseMethodDescriptor y_Mo_arrive.desc).map (fun d => d.parameters.length) = some 1 := by decide +kernel
set_option maxHeartbeats 4000000 in
set_option maxRecDepth 100000 in
theorem c_M_deliver (l : Launch) (G : GT) (hG : GOK G) (d : DD) (x0 x1 : Int32) (hN : MN d) (fn : d 600 1 = nI (gn G)) (hM : ∀ i, i < cl (d 600 25) → MmB d (13 * i)) : Met l y_Mo_deliver (.code y_Mo_deliver b_Mo_deliver 3 (some .int) :: WS) { frames := 9, cells := 0, slots := 0, locals := 287 } (cPre G [.ref (gad G (600)), .int (x0), .int (x1)] d) (cQi G (mQ d (mC_msg d x0) (m_dlv d (gn G) (cl x0) (cl (d 600 25)) x1 600 25) (m_dlv d (gn G) (cl x0) (cl (d 600 25)) x1))) 0 0 (gAb G) := by
  refine c_start (own := R_Mo) (by decide +kernel) rfl (Nat.le_of_ble_eq_true rfl) ?_
  intro p e zs zm below meth zc ls C hW hl
  obtain ⟨hx, hb, hr, hml, hown, hts, hlk, hE, hbs⟩ := C
  have hK := hE.1
  have hn3 := hG.1
  have hl : lv_has ls 3 [(0, .ref (gad G (600))), (1, .int (x0)), (2, .int (x1))] := hl
  obtain ⟨z, hz, fz⟩ := id hN
  refine lv_aload_n hx hb d_Mo_deliver_0 rfl (lv_at hl 0 rfl) ?_
  refine lv_iconst (v := 0) hx hb d_Mo_deliver_1 (by decide) ?_
  refine e_put hx hb hts hown hK hW (F_Mo G hG) i_Mo t_Mo t_Mo_ok n_Mo rfl 0 (by decide) (hts _ kw_403) (fun _ h => h) rfl (by decide +kernel) (fun _ => rfl) (fun _ => rfl) d_Mo_deliver_2 (fun H locs hW => ?_)
  refine lv_aload_n hx hb d_Mo_deliver_5 rfl (lv_at hl 0 rfl) ?_
  refine lv_iload_n hx hb d_Mo_deliver_6 rfl (lv_at hl 1 rfl) ?_
  refine lv_aload_n hx hb d_Mo_deliver_7 rfl (lv_at hl 0 rfl) ?_
  refine e_get (v := .int ((up2 d (600) (0) (0)) (600) (25))) hx hb hts hown hK hW (F_Mo G hG) i_Mo rfl 25 (by decide) (hts _ kw_406) (fun _ h => h) rfl d_Mo_deliver_8 ?_
  refine e_top (v := nI z) ((up2_nk (by decide)).trans (fz)) ?_
  refine e_ci (e_runV hx hb hml hown hts hE hbs hW (F_Mo G hG) rfl (c_M_out l G hG (up2 d (600) (0) (0)) (x0) (nI z)) kw_491 kw_492 kw_493 kw_412 kw_490 rfl rfl hd_Mo_out ⟨Nat.le_of_ble_eq_true rfl, Nat.le_of_ble_eq_true rfl⟩ (As := [.int (x0), .int (nI z)]) (rest := []) rfl hl.1 rfl (Nat.le_of_ble_eq_true rfl) d_Mo_deliver_11 ⟨Nat.le_of_ble_eq_true rfl, Nat.le_of_ble_eq_true rfl⟩) hW (fun r d' H locs hp hW => ?_)
  obtain ⟨hp1, hp2⟩ := hp
  have hp1 := hp1.symm; subst hp1
  have hp2 := hp2.symm; subst hp2
  refine lv_if_eq (tgt := 23) hx hb d_Mo_deliver_14 (by decide) (fun c_1 => ?_) (fun c_1 => ?_)
  · skip
    obtain ⟨i, hiz, et⟩ := out_nat (B := z) (by omega) c_1
    subst et
    refine lv_aload_n hx hb d_Mo_deliver_23 rfl (lv_at hl 0 rfl) ?_
    refine lv_iload_n hx hb d_Mo_deliver_24 rfl (lv_at hl 1 rfl) ?_
    refine lv_iload_n hx hb d_Mo_deliver_25 rfl (lv_at hl 2 rfl) ?_
    refine e_cv (e_runV hx hb hml hown hts hE hbs hW (F_Mo G hG) rfl (c_M_takeOut l G hG (up2 d (600) (0) (0)) i z (x1) (by first | assumption | omega) (by first | assumption | omega) ((up2_nk (by decide)).trans (fz))) kw_504 kw_505 kw_506 kw_412 kw_503 rfl rfl hd_Mo_takeOut ⟨Nat.le_of_ble_eq_true rfl, Nat.le_of_ble_eq_true rfl⟩ (As := [.int (nI i), .int (x1)]) (rest := []) rfl hl.1 rfl (Nat.le_of_ble_eq_true rfl) d_Mo_deliver_26 ⟨Nat.le_of_ble_eq_true rfl, Nat.le_of_ble_eq_true rfl⟩) hW (fun d' H locs hp hW => ?_)
    have hp := hp.symm; subst hp
    refine lv_aload_n hx hb d_Mo_deliver_29 rfl (lv_at hl 0 rfl) ?_
    refine lv_sipush (v := 780) hx hb d_Mo_deliver_30 (by decide) ?_
    refine e_cv (e_runV hx hb hml hown hts hE hbs hW (F_Mo G hG) rfl (c_M_arrive l G hG (m_out (up2 d (600) (0) (0)) i z (x1)) (m_out_sz hz ((up2_nk (by decide)).trans fz)) ((m_out_mo (by decide)).trans ((up2_nk (by decide)).trans fn)) (MmOK_out hiz hz (hM i (by rw [fz, cl_nI (by omega)]; exact hiz)))) kw_508 kw_509 kw_510 kw_412 kw_507 rfl rfl hd_Mo_arrive ⟨Nat.le_of_ble_eq_true rfl, Nat.le_of_ble_eq_true rfl⟩ (As := [.int (780)]) (rest := []) rfl hl.1 rfl (Nat.le_of_ble_eq_true rfl) d_Mo_deliver_33 ⟨Nat.le_of_ble_eq_true rfl, Nat.le_of_ble_eq_true rfl⟩) hW (fun d' H locs hp hW => ?_)
    have hp := hp.symm; subst hp
    refine lv_aload_n hx hb d_Mo_deliver_36 rfl (lv_at hl 0 rfl) ?_
    refine e_get (v := .int ((m_arrive (m_out (up2 d (600) (0) (0)) i z (x1)) (gn G)) (600) (25))) hx hb hts hown hK hW (F_Mo G hG) i_Mo rfl 25 (by decide) (hts _ kw_406) (fun _ h => h) rfl d_Mo_deliver_37 ?_
    exact e_iret hx hb hr hlk hW (mq_ok (by unfold mC_msg; rw [fz, if_pos c_1]) (by simp only [fz, cl_nI (show i < 2147483648 by omega), cl_nI (show z < 2147483648 by omega)]; exact rfl) (by simp only [fz, cl_nI (show i < 2147483648 by omega), cl_nI (show z < 2147483648 by omega)]; exact rfl)) (Nat.zero_le _) (Nat.zero_le _) d_Mo_deliver_40
  · skip
    refine lv_aload_n hx hb d_Mo_deliver_17 rfl (lv_at hl 0 rfl) ?_
    refine lv_iconst (v := 1) hx hb d_Mo_deliver_18 (by decide) ?_
    refine e_ci (e_runV hx hb hml hown hts hE hbs hW (F_Mo G hG) rfl (c_M_fail l G hG (up2 d (600) (0) (0)) (1)) kw_487 kw_488 kw_489 kw_412 kw_486 rfl rfl hd_Mo_fail ⟨Nat.le_of_ble_eq_true rfl, Nat.le_of_ble_eq_true rfl⟩ (As := [.int (1)]) (rest := []) rfl hl.1 rfl (Nat.le_of_ble_eq_true rfl) d_Mo_deliver_19 ⟨Nat.le_of_ble_eq_true rfl, Nat.le_of_ble_eq_true rfl⟩) hW (fun r d' H locs hp hW => ?_)
    obtain ⟨hp1, hp2⟩ := hp
    have hp1 := hp1.symm; subst hp1
    have hp2 := hp2.symm; subst hp2
    exact e_iret hx hb hr hlk hW (mq_no (c := (1)) (by unfold mC_msg; rw [fz, if_neg c_1]) (by decide) (by exact rfl)) (Nat.zero_le _) (Nat.zero_le _) d_Mo_deliver_22
