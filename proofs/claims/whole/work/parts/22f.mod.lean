theorem kw_458 : .fieldLink R_Mo 7 "PaxosCommitModel" "storeDown" "[Z" ∈ WS := List.mem_filter.mpr ⟨List.mem_append_right _ (List.mem_of_getElem? (i := 914) (by decide +kernel)), by decide +kernel⟩
theorem kw_459 : .code y_Mo_prepare b_Mo_prepare 4 none ∈ WS := List.mem_filter.mpr ⟨List.mem_append_right _ (List.mem_of_getElem? (i := 1065) (by decide +kernel)), by decide +kernel⟩
theorem kw_460 : .methodLink R_Mo 137 y_Mo_prepare ∈ WS := List.mem_filter.mpr ⟨List.mem_append_right _ (List.mem_of_getElem? (i := 1062) (by decide +kernel)), by decide +kernel⟩
theorem kw_461 : .instanceMethod y_Mo_prepare ∈ WS := List.mem_filter.mpr ⟨List.mem_append_right _ (List.mem_of_getElem? (i := 1064) (by decide +kernel)), by decide +kernel⟩
theorem kw_462 : .selects R_Mo y_Mo_prepare y_Mo_prepare ∈ WS := List.mem_filter.mpr ⟨List.mem_append_left _ (List.mem_of_getElem? (i := 31) (by decide +kernel)), by decide +kernel⟩
theorem kw_463 : .fieldLink R_Mo 13 "PaxosCommitModel" "acceptorDown" "[Z" ∈ WS := List.mem_filter.mpr ⟨List.mem_append_right _ (List.mem_of_getElem? (i := 915) (by decide +kernel)), by decide +kernel⟩
theorem kw_464 : .code y_Mo_ask b_Mo_ask 6 none ∈ WS := List.mem_filter.mpr ⟨List.mem_append_right _ (List.mem_of_getElem? (i := 1069) (by decide +kernel)), by decide +kernel⟩
theorem kw_465 : .methodLink R_Mo 140 y_Mo_ask ∈ WS := List.mem_filter.mpr ⟨List.mem_append_right _ (List.mem_of_getElem? (i := 1066) (by decide +kernel)), by decide +kernel⟩
theorem kw_466 : .instanceMethod y_Mo_ask ∈ WS := List.mem_filter.mpr ⟨List.mem_append_right _ (List.mem_of_getElem? (i := 1068) (by decide +kernel)), by decide +kernel⟩
theorem kw_467 : .selects R_Mo y_Mo_ask y_Mo_ask ∈ WS := List.mem_filter.mpr ⟨List.mem_append_left _ (List.mem_of_getElem? (i := 32) (by decide +kernel)), by decide +kernel⟩
theorem kw_468 : .fieldLink R_Mo 16 "PaxosCommitModel" "leaderDown" "[Z" ∈ WS := List.mem_filter.mpr ⟨List.mem_append_right _ (List.mem_of_getElem? (i := 916) (by decide +kernel)), by decide +kernel⟩
theorem kw_469 : .code y_Mo_reply b_Mo_reply 9 none ∈ WS := List.mem_filter.mpr ⟨List.mem_append_right _ (List.mem_of_getElem? (i := 1073) (by decide +kernel)), by decide +kernel⟩
theorem kw_470 : .methodLink R_Mo 144 y_Mo_reply ∈ WS := List.mem_filter.mpr ⟨List.mem_append_right _ (List.mem_of_getElem? (i := 1070) (by decide +kernel)), by decide +kernel⟩
theorem kw_471 : .instanceMethod y_Mo_reply ∈ WS := List.mem_filter.mpr ⟨List.mem_append_right _ (List.mem_of_getElem? (i := 1072) (by decide +kernel)), by decide +kernel⟩
theorem kw_472 : .selects R_Mo y_Mo_reply y_Mo_reply ∈ WS := List.mem_filter.mpr ⟨List.mem_append_left _ (List.mem_of_getElem? (i := 33) (by decide +kernel)), by decide +kernel⟩
theorem kw_473 : .code y_Mo_accept b_Mo_accept 9 none ∈ WS := List.mem_filter.mpr ⟨List.mem_append_right _ (List.mem_of_getElem? (i := 1085) (by decide +kernel)), by decide +kernel⟩
theorem kw_474 : .methodLink R_Mo 148 y_Mo_accept ∈ WS := List.mem_filter.mpr ⟨List.mem_append_right _ (List.mem_of_getElem? (i := 1082) (by decide +kernel)), by decide +kernel⟩
theorem kw_475 : .instanceMethod y_Mo_accept ∈ WS := List.mem_filter.mpr ⟨List.mem_append_right _ (List.mem_of_getElem? (i := 1084) (by decide +kernel)), by decide +kernel⟩
theorem kw_476 : .selects R_Mo y_Mo_accept y_Mo_accept ∈ WS := List.mem_filter.mpr ⟨List.mem_append_left _ (List.mem_of_getElem? (i := 36) (by decide +kernel)), by decide +kernel⟩
theorem kw_477 : .code y_Mo_told b_Mo_told 13 none ∈ WS := List.mem_filter.mpr ⟨List.mem_append_right _ (List.mem_of_getElem? (i := 1089) (by decide +kernel)), by decide +kernel⟩
theorem kw_478 : .methodLink R_Mo 151 y_Mo_told ∈ WS := List.mem_filter.mpr ⟨List.mem_append_right _ (List.mem_of_getElem? (i := 1086) (by decide +kernel)), by decide +kernel⟩
theorem kw_479 : .instanceMethod y_Mo_told ∈ WS := List.mem_filter.mpr ⟨List.mem_append_right _ (List.mem_of_getElem? (i := 1088) (by decide +kernel)), by decide +kernel⟩
theorem kw_480 : .selects R_Mo y_Mo_told y_Mo_told ∈ WS := List.mem_filter.mpr ⟨List.mem_append_left _ (List.mem_of_getElem? (i := 37) (by decide +kernel)), by decide +kernel⟩
theorem kw_481 : .code y_Mo_finish b_Mo_finish 7 none ∈ WS := List.mem_filter.mpr ⟨List.mem_append_right _ (List.mem_of_getElem? (i := 1097) (by decide +kernel)), by decide +kernel⟩
theorem kw_482 : .methodLink R_Mo 155 y_Mo_finish ∈ WS := List.mem_filter.mpr ⟨List.mem_append_right _ (List.mem_of_getElem? (i := 1094) (by decide +kernel)), by decide +kernel⟩
theorem kw_483 : .instanceMethod y_Mo_finish ∈ WS := List.mem_filter.mpr ⟨List.mem_append_right _ (List.mem_of_getElem? (i := 1096) (by decide +kernel)), by decide +kernel⟩
theorem kw_484 : .selects R_Mo y_Mo_finish y_Mo_finish ∈ WS := List.mem_filter.mpr ⟨List.mem_append_left _ (List.mem_of_getElem? (i := 39) (by decide +kernel)), by decide +kernel⟩
theorem hd_Mo_prepare : y_Mo_prepare.cls ≠ "java/lang/invoke/MethodHandle" ∧ y_Mo_prepare.cls ≠ "java/lang/invoke/VarHandle" ∧ (parseMethodDescriptor y_Mo_prepare.desc).map (fun d => d.parameters.length) = some 2 := by decide +kernel
theorem hd_Mo_ask : y_Mo_ask.cls ≠ "java/lang/invoke/MethodHandle" ∧ y_Mo_ask.cls ≠ "java/lang/invoke/VarHandle" ∧ (parseMethodDescriptor y_Mo_ask.desc).map (fun d => d.parameters.length) = some 3 := by decide +kernel
theorem hd_Mo_reply : y_Mo_reply.cls ≠ "java/lang/invoke/MethodHandle" ∧ y_Mo_reply.cls ≠ "java/lang/invoke/VarHandle" ∧ (parseMethodDescriptor y_Mo_reply.desc).map (fun d => d.parameters.length) = some 5 := by decide +kernel
theorem hd_Mo_accept : y_Mo_accept.cls ≠ "java/lang/invoke/MethodHandle" ∧ y_Mo_accept.cls ≠ "java/lang/invoke/VarHandle" ∧ (parseMethodDescriptor y_Mo_accept.desc).map (fun d => d.parameters.length) = some 5 := by decide +kernel
theorem hd_Mo_told : y_Mo_told.cls ≠ "java/lang/invoke/MethodHandle" ∧ y_Mo_told.cls ≠ "java/lang/invoke/VarHandle" ∧ (parseMethodDescriptor y_Mo_told.desc).map (fun d => d.parameters.length) = some 6 := by decide +kernel
theorem hd_Mo_finish : y_Mo_finish.cls ≠ "java/lang/invoke/MethodHandle" ∧ y_Mo_finish.cls ≠ "java/lang/invoke/VarHandle" ∧ (parseMethodDescriptor y_Mo_finish.desc).map (fun d => d.parameters.length) = some 3 := by decide +kernel
set_option maxHeartbeats 4000000 in
set_option maxRecDepth 100000 in
theorem c_M_arr0 (l : Launch) (G : GT) (hG : GOK G) (d : DD) (s t : Nat) (hs : s < 3) (ht : t < 8) (hN : MN d) (fn : d 600 1 = nI (gn G)) (f1 : d 624 781 = nI t) (f2 : d 624 782 = nI s) (fk : d 624 780 = 80) : Met l y_Mo_arrive (.code y_Mo_arrive b_Mo_arrive 8 none :: WS) { frames := 8, cells := 0, slots := 0, locals := 260 } (cPre G [.ref (gad G (600)), .int (780)] d) (cQv G (fun u9 => u9 = if d 602 s = 0 then m_prep d (gn G) t s else d)) 0 0 (gAb G) := by
  refine c_start (own := R_Mo) (by decide +kernel) rfl (Nat.le_of_ble_eq_true rfl) ?_
  intro p e zs zm below meth zc ls C hW hl
  obtain ⟨hx, hb, hr, hml, hown, hts, hlk, hE, hbs⟩ := C
  have hK := hE.1
  have hn3 := hG.1
  have hl : lv_has ls 8 [(0, .ref (gad G (600))), (1, .int (780))] := hl
  refine lv_aload_n hx hb d_Mo_arrive_0 rfl (lv_at hl 0 rfl) ?_
  refine e_get (v := .ref (gad G (624))) hx hb hts hown hK hW (F_Mo G hG) i_Mo rfl 24 (by decide) (hts _ kw_407) (fun _ h => h) rfl d_Mo_arrive_1 ?_
  refine lv_iload_n hx hb d_Mo_arrive_4 rfl (lv_at hl 1 rfl) ?_
  refine lv_iconst (v := 1) hx hb d_Mo_arrive_5 (by decide) ?_
  refine lv_iadd hx hb d_Mo_arrive_6 ?_
  refine e_top (v := nI (780 + 1)) (nI_add (780) (1)) ?_
  refine e_iald hx hb hK hW (F_Mnet G hG) (j := 780 + 1) (by omega) (x := nI t) (f1) rfl d_Mo_arrive_7 ?_
  refine lv_istore_n (lv' := [(2, .int (nI t)), (0, .ref (gad G (600))), (1, .int (780))]) hx hb d_Mo_arrive_8 rfl hl (by decide) rfl (fun ls hl => ?_)
  refine lv_aload_n hx hb d_Mo_arrive_9 rfl (lv_at hl 1 rfl) ?_
  refine e_get (v := .ref (gad G (624))) hx hb hts hown hK hW (F_Mo G hG) i_Mo rfl 24 (by decide) (hts _ kw_407) (fun _ h => h) rfl d_Mo_arrive_10 ?_
  refine lv_iload_n hx hb d_Mo_arrive_13 rfl (lv_at hl 2 rfl) ?_
  refine lv_iconst (v := 2) hx hb d_Mo_arrive_14 (by decide) ?_
  refine lv_iadd hx hb d_Mo_arrive_15 ?_
  refine e_top (v := nI (780 + 2)) (nI_add (780) (2)) ?_
  refine e_iald hx hb hK hW (F_Mnet G hG) (j := 780 + 2) (by omega) (x := nI s) (f2) rfl d_Mo_arrive_16 ?_
  refine lv_istore_n (lv' := [(3, .int (nI s)), (2, .int (nI t)), (0, .ref (gad G (600))), (1, .int (780))]) hx hb d_Mo_arrive_17 rfl hl (by decide) rfl (fun ls hl => ?_)
  refine lv_aload_n hx hb d_Mo_arrive_18 rfl (lv_at hl 2 rfl) ?_
  refine e_get (v := .ref (gad G (624))) hx hb hts hown hK hW (F_Mo G hG) i_Mo rfl 24 (by decide) (hts _ kw_407) (fun _ h => h) rfl d_Mo_arrive_19 ?_
  refine lv_iload_n hx hb d_Mo_arrive_22 rfl (lv_at hl 3 rfl) ?_
  refine lv_iconst (v := 3) hx hb d_Mo_arrive_23 (by decide) ?_
  refine lv_iadd hx hb d_Mo_arrive_24 ?_
  refine e_top (v := nI (780 + 3)) (nI_add (780) (3)) ?_
  refine e_iald hx hb hK hW (F_Mnet G hG) (j := 780 + 3) (by omega) (x := d (624) (780 + 3)) (rfl) rfl d_Mo_arrive_25 ?_
  refine lv_istore (lv' := [(4, .int (d (624) (780 + 3))), (3, .int (nI s)), (2, .int (nI t)), (0, .ref (gad G (600))), (1, .int (780))]) hx hb d_Mo_arrive_26 hl (by decide) rfl (fun ls hl => ?_)
  refine lv_aload_n hx hb d_Mo_arrive_28 rfl (lv_at hl 3 rfl) ?_
  refine e_get (v := .ref (gad G (624))) hx hb hts hown hK hW (F_Mo G hG) i_Mo rfl 24 (by decide) (hts _ kw_407) (fun _ h => h) rfl d_Mo_arrive_29 ?_
  refine lv_iload_n hx hb d_Mo_arrive_32 rfl (lv_at hl 4 rfl) ?_
  refine lv_iconst (v := 4) hx hb d_Mo_arrive_33 (by decide) ?_
  refine lv_iadd hx hb d_Mo_arrive_34 ?_
  refine e_top (v := nI (780 + 4)) (nI_add (780) (4)) ?_
  refine e_iald hx hb hK hW (F_Mnet G hG) (j := 780 + 4) (by omega) (x := d (624) (780 + 4)) (rfl) rfl d_Mo_arrive_35 ?_
  refine lv_istore (lv' := [(5, .int (d (624) (780 + 4))), (4, .int (d (624) (780 + 3))), (3, .int (nI s)), (2, .int (nI t)), (0, .ref (gad G (600))), (1, .int (780))]) hx hb d_Mo_arrive_36 hl (by decide) rfl (fun ls hl => ?_)
  refine lv_aload_n hx hb d_Mo_arrive_38 rfl (lv_at hl 4 rfl) ?_
  refine e_get (v := .ref (gad G (624))) hx hb hts hown hK hW (F_Mo G hG) i_Mo rfl 24 (by decide) (hts _ kw_407) (fun _ h => h) rfl d_Mo_arrive_39 ?_
  refine lv_iload_n hx hb d_Mo_arrive_42 rfl (lv_at hl 5 rfl) ?_
  refine lv_iconst (v := 5) hx hb d_Mo_arrive_43 (by decide) ?_
  refine lv_iadd hx hb d_Mo_arrive_44 ?_
  refine e_top (v := nI (780 + 5)) (nI_add (780) (5)) ?_
  refine e_iald hx hb hK hW (F_Mnet G hG) (j := 780 + 5) (by omega) (x := d (624) (780 + 5)) (rfl) rfl d_Mo_arrive_45 ?_
  refine lv_istore (lv' := [(6, .int (d (624) (780 + 5))), (5, .int (d (624) (780 + 4))), (4, .int (d (624) (780 + 3))), (3, .int (nI s)), (2, .int (nI t)), (0, .ref (gad G (600))), (1, .int (780))]) hx hb d_Mo_arrive_46 hl (by decide) rfl (fun ls hl => ?_)
  refine lv_aload_n hx hb d_Mo_arrive_48 rfl (lv_at hl 5 rfl) ?_
  refine e_get (v := .ref (gad G (624))) hx hb hts hown hK hW (F_Mo G hG) i_Mo rfl 24 (by decide) (hts _ kw_407) (fun _ h => h) rfl d_Mo_arrive_49 ?_
  refine lv_iload_n hx hb d_Mo_arrive_52 rfl (lv_at hl 6 rfl) ?_
  refine lv_bipush (v := 6) hx hb d_Mo_arrive_53 (by decide) ?_
  refine lv_iadd hx hb d_Mo_arrive_55 ?_
  refine e_top (v := nI (780 + 6)) (nI_add (780) (6)) ?_
  refine e_iald hx hb hK hW (F_Mnet G hG) (j := 780 + 6) (by omega) (x := d (624) (780 + 6)) (rfl) rfl d_Mo_arrive_56 ?_
  refine lv_istore (lv' := [(7, .int (d (624) (780 + 6))), (6, .int (d (624) (780 + 5))), (5, .int (d (624) (780 + 4))), (4, .int (d (624) (780 + 3))), (3, .int (nI s)), (2, .int (nI t)), (0, .ref (gad G (600))), (1, .int (780))]) hx hb d_Mo_arrive_57 hl (by decide) rfl (fun ls hl => ?_)
  refine lv_aload_n hx hb d_Mo_arrive_59 rfl (lv_at hl 6 rfl) ?_
  refine e_get (v := .ref (gad G (624))) hx hb hts hown hK hW (F_Mo G hG) i_Mo rfl 24 (by decide) (hts _ kw_407) (fun _ h => h) rfl d_Mo_arrive_60 ?_
  refine lv_iload_n hx hb d_Mo_arrive_63 rfl (lv_at hl 7 rfl) ?_
  refine e_iald hx hb hK hW (F_Mnet G hG) (j := 780) (by decide) (x := 80) (fk) rfl d_Mo_arrive_64 ?_
  refine lv_lookup (off := 51) (tgt := 116) hx hb d_Mo_arrive_65 (by decide) (by decide) (by decide) ?_
  refine lv_aload_n hx hb d_Mo_arrive_116 rfl (lv_at hl 6 rfl) ?_
  refine e_get (v := .ref (gad G (602))) hx hb hts hown hK hW (F_Mo G hG) i_Mo rfl 2 (by decide) (hts _ kw_458) (fun _ h => h) rfl d_Mo_arrive_117 ?_
  refine lv_iload_n hx hb d_Mo_arrive_120 rfl (lv_at hl 4 rfl) ?_
  refine e_zald hx hb hK hW (F_MstoreDown G hG) (j := s) hs (x := d (602) (s)) (rfl) rfl d_Mo_arrive_121 ?_
  refine lv_if_ne (tgt := 250) hx hb d_Mo_arrive_122 (by decide) (fun c_1 => ?_) (fun c_1 => ?_)
  · skip
    exact e_vret hx hb hr hlk hW (by rw [if_neg c_1]) (Nat.zero_le _) (Nat.zero_le _) d_Mo_arrive_250
  · skip
    refine lv_aload_n hx hb d_Mo_arrive_125 rfl (lv_at hl 6 rfl) ?_
    refine lv_iload_n hx hb d_Mo_arrive_126 rfl (lv_at hl 5 rfl) ?_
    refine lv_iload_n hx hb d_Mo_arrive_127 rfl (lv_at hl 4 rfl) ?_
    refine e_cv (e_runV hx hb hml hown hts hE hbs hW (F_Mo G hG) rfl (c_M_prep l G hG d t s ht hs hN (fn)) kw_460 kw_461 kw_462 kw_412 kw_459 rfl rfl hd_Mo_prepare ⟨Nat.le_of_ble_eq_true rfl, Nat.le_of_ble_eq_true rfl⟩ (As := [.int (nI t), .int (nI s)]) (rest := []) rfl hl.1 rfl (Nat.le_of_ble_eq_true rfl) d_Mo_arrive_128 ⟨Nat.le_of_ble_eq_true rfl, Nat.le_of_ble_eq_true rfl⟩) hW (fun d' H locs hp hW => ?_)
    have hp := hp.symm; subst hp
    refine lv_goto (tgt := 250) hx hb d_Mo_arrive_131 (by decide) ?_
    exact e_vret hx hb hr hlk hW (by rw [if_pos c_1]) (Nat.zero_le _) (Nat.zero_le _) d_Mo_arrive_250
set_option maxHeartbeats 4000000 in
set_option maxRecDepth 100000 in
theorem c_M_arr1 (l : Launch) (G : GT) (hG : GOK G) (d : DD) (a t : Nat) (ha : a < 3) (ht : t < 8) (b : Int32) (hN : MN d) (fn : d 600 1 = nI (gn G)) (f1 : d 624 781 = nI t) (f3 : d 624 783 = nI a) (f5 : d 624 785 = b) (fk : d 624 780 = 65) : Met l y_Mo_arrive (.code y_Mo_arrive b_Mo_arrive 8 none :: WS) { frames := 8, cells := 0, slots := 0, locals := 260 } (cPre G [.ref (gad G (600)), .int (780)] d) (cQv G (fun u9 => u9 = if d 603 a = 0 then m_ask d a t b else d)) 0 0 (gAb G) := by
  refine c_start (own := R_Mo) (by decide +kernel) rfl (Nat.le_of_ble_eq_true rfl) ?_
  intro p e zs zm below meth zc ls C hW hl
  obtain ⟨hx, hb, hr, hml, hown, hts, hlk, hE, hbs⟩ := C
  have hK := hE.1
  have hn3 := hG.1
  have hl : lv_has ls 8 [(0, .ref (gad G (600))), (1, .int (780))] := hl
  refine lv_aload_n hx hb d_Mo_arrive_0 rfl (lv_at hl 0 rfl) ?_
  refine e_get (v := .ref (gad G (624))) hx hb hts hown hK hW (F_Mo G hG) i_Mo rfl 24 (by decide) (hts _ kw_407) (fun _ h => h) rfl d_Mo_arrive_1 ?_
  refine lv_iload_n hx hb d_Mo_arrive_4 rfl (lv_at hl 1 rfl) ?_
  refine lv_iconst (v := 1) hx hb d_Mo_arrive_5 (by decide) ?_
  refine lv_iadd hx hb d_Mo_arrive_6 ?_
  refine e_top (v := nI (780 + 1)) (nI_add (780) (1)) ?_
  refine e_iald hx hb hK hW (F_Mnet G hG) (j := 780 + 1) (by omega) (x := nI t) (f1) rfl d_Mo_arrive_7 ?_
  refine lv_istore_n (lv' := [(2, .int (nI t)), (0, .ref (gad G (600))), (1, .int (780))]) hx hb d_Mo_arrive_8 rfl hl (by decide) rfl (fun ls hl => ?_)
  refine lv_aload_n hx hb d_Mo_arrive_9 rfl (lv_at hl 1 rfl) ?_
  refine e_get (v := .ref (gad G (624))) hx hb hts hown hK hW (F_Mo G hG) i_Mo rfl 24 (by decide) (hts _ kw_407) (fun _ h => h) rfl d_Mo_arrive_10 ?_
  refine lv_iload_n hx hb d_Mo_arrive_13 rfl (lv_at hl 2 rfl) ?_
  refine lv_iconst (v := 2) hx hb d_Mo_arrive_14 (by decide) ?_
  refine lv_iadd hx hb d_Mo_arrive_15 ?_
  refine e_top (v := nI (780 + 2)) (nI_add (780) (2)) ?_
  refine e_iald hx hb hK hW (F_Mnet G hG) (j := 780 + 2) (by omega) (x := d (624) (780 + 2)) (rfl) rfl d_Mo_arrive_16 ?_
  refine lv_istore_n (lv' := [(3, .int (d (624) (780 + 2))), (2, .int (nI t)), (0, .ref (gad G (600))), (1, .int (780))]) hx hb d_Mo_arrive_17 rfl hl (by decide) rfl (fun ls hl => ?_)
  refine lv_aload_n hx hb d_Mo_arrive_18 rfl (lv_at hl 2 rfl) ?_
  refine e_get (v := .ref (gad G (624))) hx hb hts hown hK hW (F_Mo G hG) i_Mo rfl 24 (by decide) (hts _ kw_407) (fun _ h => h) rfl d_Mo_arrive_19 ?_
  refine lv_iload_n hx hb d_Mo_arrive_22 rfl (lv_at hl 3 rfl) ?_
  refine lv_iconst (v := 3) hx hb d_Mo_arrive_23 (by decide) ?_
  refine lv_iadd hx hb d_Mo_arrive_24 ?_
  refine e_top (v := nI (780 + 3)) (nI_add (780) (3)) ?_
  refine e_iald hx hb hK hW (F_Mnet G hG) (j := 780 + 3) (by omega) (x := nI a) (f3) rfl d_Mo_arrive_25 ?_
  refine lv_istore (lv' := [(4, .int (nI a)), (3, .int (d (624) (780 + 2))), (2, .int (nI t)), (0, .ref (gad G (600))), (1, .int (780))]) hx hb d_Mo_arrive_26 hl (by decide) rfl (fun ls hl => ?_)
  refine lv_aload_n hx hb d_Mo_arrive_28 rfl (lv_at hl 3 rfl) ?_
  refine e_get (v := .ref (gad G (624))) hx hb hts hown hK hW (F_Mo G hG) i_Mo rfl 24 (by decide) (hts _ kw_407) (fun _ h => h) rfl d_Mo_arrive_29 ?_
  refine lv_iload_n hx hb d_Mo_arrive_32 rfl (lv_at hl 4 rfl) ?_
  refine lv_iconst (v := 4) hx hb d_Mo_arrive_33 (by decide) ?_
  refine lv_iadd hx hb d_Mo_arrive_34 ?_
  refine e_top (v := nI (780 + 4)) (nI_add (780) (4)) ?_
  refine e_iald hx hb hK hW (F_Mnet G hG) (j := 780 + 4) (by omega) (x := d (624) (780 + 4)) (rfl) rfl d_Mo_arrive_35 ?_
  refine lv_istore (lv' := [(5, .int (d (624) (780 + 4))), (4, .int (nI a)), (3, .int (d (624) (780 + 2))), (2, .int (nI t)), (0, .ref (gad G (600))), (1, .int (780))]) hx hb d_Mo_arrive_36 hl (by decide) rfl (fun ls hl => ?_)
  refine lv_aload_n hx hb d_Mo_arrive_38 rfl (lv_at hl 4 rfl) ?_
  refine e_get (v := .ref (gad G (624))) hx hb hts hown hK hW (F_Mo G hG) i_Mo rfl 24 (by decide) (hts _ kw_407) (fun _ h => h) rfl d_Mo_arrive_39 ?_
  refine lv_iload_n hx hb d_Mo_arrive_42 rfl (lv_at hl 5 rfl) ?_
  refine lv_iconst (v := 5) hx hb d_Mo_arrive_43 (by decide) ?_
  refine lv_iadd hx hb d_Mo_arrive_44 ?_
  refine e_top (v := nI (780 + 5)) (nI_add (780) (5)) ?_
  refine e_iald hx hb hK hW (F_Mnet G hG) (j := 780 + 5) (by omega) (x := b) (f5) rfl d_Mo_arrive_45 ?_
  refine lv_istore (lv' := [(6, .int (b)), (5, .int (d (624) (780 + 4))), (4, .int (nI a)), (3, .int (d (624) (780 + 2))), (2, .int (nI t)), (0, .ref (gad G (600))), (1, .int (780))]) hx hb d_Mo_arrive_46 hl (by decide) rfl (fun ls hl => ?_)
  refine lv_aload_n hx hb d_Mo_arrive_48 rfl (lv_at hl 5 rfl) ?_
  refine e_get (v := .ref (gad G (624))) hx hb hts hown hK hW (F_Mo G hG) i_Mo rfl 24 (by decide) (hts _ kw_407) (fun _ h => h) rfl d_Mo_arrive_49 ?_
  refine lv_iload_n hx hb d_Mo_arrive_52 rfl (lv_at hl 6 rfl) ?_
  refine lv_bipush (v := 6) hx hb d_Mo_arrive_53 (by decide) ?_
  refine lv_iadd hx hb d_Mo_arrive_55 ?_
  refine e_top (v := nI (780 + 6)) (nI_add (780) (6)) ?_
  refine e_iald hx hb hK hW (F_Mnet G hG) (j := 780 + 6) (by omega) (x := d (624) (780 + 6)) (rfl) rfl d_Mo_arrive_56 ?_
  refine lv_istore (lv' := [(7, .int (d (624) (780 + 6))), (6, .int (b)), (5, .int (d (624) (780 + 4))), (4, .int (nI a)), (3, .int (d (624) (780 + 2))), (2, .int (nI t)), (0, .ref (gad G (600))), (1, .int (780))]) hx hb d_Mo_arrive_57 hl (by decide) rfl (fun ls hl => ?_)
  refine lv_aload_n hx hb d_Mo_arrive_59 rfl (lv_at hl 6 rfl) ?_
  refine e_get (v := .ref (gad G (624))) hx hb hts hown hK hW (F_Mo G hG) i_Mo rfl 24 (by decide) (hts _ kw_407) (fun _ h => h) rfl d_Mo_arrive_60 ?_
  refine lv_iload_n hx hb d_Mo_arrive_63 rfl (lv_at hl 7 rfl) ?_
  refine e_iald hx hb hK hW (F_Mnet G hG) (j := 780) (by decide) (x := 65) (fk) rfl d_Mo_arrive_64 ?_
  refine lv_lookup (off := 69) (tgt := 134) hx hb d_Mo_arrive_65 (by decide) (by decide) (by decide) ?_
  refine lv_aload_n hx hb d_Mo_arrive_134 rfl (lv_at hl 6 rfl) ?_
  refine e_get (v := .ref (gad G (603))) hx hb hts hown hK hW (F_Mo G hG) i_Mo rfl 3 (by decide) (hts _ kw_463) (fun _ h => h) rfl d_Mo_arrive_135 ?_
  refine lv_iload hx hb d_Mo_arrive_138 (lv_at hl 3 rfl) ?_
  refine e_zald hx hb hK hW (F_MacceptorDown G hG) (j := a) ha (x := d (603) (a)) (rfl) rfl d_Mo_arrive_140 ?_
  refine lv_if_ne (tgt := 250) hx hb d_Mo_arrive_141 (by decide) (fun c_1 => ?_) (fun c_1 => ?_)
  · skip
    exact e_vret hx hb hr hlk hW (by rw [if_neg c_1]) (Nat.zero_le _) (Nat.zero_le _) d_Mo_arrive_250
  · skip
    refine lv_aload_n hx hb d_Mo_arrive_144 rfl (lv_at hl 6 rfl) ?_
    refine lv_iload_n hx hb d_Mo_arrive_145 rfl (lv_at hl 5 rfl) ?_
    refine lv_iload hx hb d_Mo_arrive_146 (lv_at hl 3 rfl) ?_
    refine lv_iload hx hb d_Mo_arrive_148 (lv_at hl 1 rfl) ?_
    refine e_cv (e_runV hx hb hml hown hts hE hbs hW (F_Mo G hG) rfl (c_M_ask l G hG d t a ht ha (b) hN) kw_465 kw_466 kw_467 kw_412 kw_464 rfl rfl hd_Mo_ask ⟨Nat.le_of_ble_eq_true rfl, Nat.le_of_ble_eq_true rfl⟩ (As := [.int (nI t), .int (nI a), .int (b)]) (rest := []) rfl hl.1 rfl (Nat.le_of_ble_eq_true rfl) d_Mo_arrive_150 ⟨Nat.le_of_ble_eq_true rfl, Nat.le_of_ble_eq_true rfl⟩) hW (fun d' H locs hp hW => ?_)
    have hp := hp.symm; subst hp
    refine lv_goto (tgt := 250) hx hb d_Mo_arrive_153 (by decide) ?_
    exact e_vret hx hb hr hlk hW (by rw [if_pos c_1]) (Nat.zero_le _) (Nat.zero_le _) d_Mo_arrive_250
set_option maxHeartbeats 4000000 in
set_option maxRecDepth 100000 in
theorem c_M_arr2 (l : Launch) (G : GT) (hG : GOK G) (d : DD) (ld t a : Nat) (hld : ld < 2) (ht : t < 8) (ha : a < 3) (b : Int32) (hN : MN d) (fn : d 600 1 = nI (gn G)) (f1 : d 624 781 = nI t) (f3 : d 624 783 = nI a) (f4 : d 624 784 = nI ld) (f5 : d 624 785 = b) (fk : d 624 780 = 82) : Met l y_Mo_arrive (.code y_Mo_arrive b_Mo_arrive 8 none :: WS) { frames := 8, cells := 0, slots := 0, locals := 260 } (cPre G [.ref (gad G (600)), .int (780)] d) (cQv G (fun u9 => u9 = if d 604 ld = 0 then m_rep d (gn G) (8 * ld + t) a t b else d)) 0 0 (gAb G) := by
  refine c_start (own := R_Mo) (by decide +kernel) rfl (Nat.le_of_ble_eq_true rfl) ?_
  intro p e zs zm below meth zc ls C hW hl
  obtain ⟨hx, hb, hr, hml, hown, hts, hlk, hE, hbs⟩ := C
  have hK := hE.1
  have hn3 := hG.1
  have hl : lv_has ls 8 [(0, .ref (gad G (600))), (1, .int (780))] := hl
  refine lv_aload_n hx hb d_Mo_arrive_0 rfl (lv_at hl 0 rfl) ?_
  refine e_get (v := .ref (gad G (624))) hx hb hts hown hK hW (F_Mo G hG) i_Mo rfl 24 (by decide) (hts _ kw_407) (fun _ h => h) rfl d_Mo_arrive_1 ?_
  refine lv_iload_n hx hb d_Mo_arrive_4 rfl (lv_at hl 1 rfl) ?_
  refine lv_iconst (v := 1) hx hb d_Mo_arrive_5 (by decide) ?_
  refine lv_iadd hx hb d_Mo_arrive_6 ?_
  refine e_top (v := nI (780 + 1)) (nI_add (780) (1)) ?_
  refine e_iald hx hb hK hW (F_Mnet G hG) (j := 780 + 1) (by omega) (x := nI t) (f1) rfl d_Mo_arrive_7 ?_
  refine lv_istore_n (lv' := [(2, .int (nI t)), (0, .ref (gad G (600))), (1, .int (780))]) hx hb d_Mo_arrive_8 rfl hl (by decide) rfl (fun ls hl => ?_)
  refine lv_aload_n hx hb d_Mo_arrive_9 rfl (lv_at hl 1 rfl) ?_
  refine e_get (v := .ref (gad G (624))) hx hb hts hown hK hW (F_Mo G hG) i_Mo rfl 24 (by decide) (hts _ kw_407) (fun _ h => h) rfl d_Mo_arrive_10 ?_
  refine lv_iload_n hx hb d_Mo_arrive_13 rfl (lv_at hl 2 rfl) ?_
  refine lv_iconst (v := 2) hx hb d_Mo_arrive_14 (by decide) ?_
  refine lv_iadd hx hb d_Mo_arrive_15 ?_
  refine e_top (v := nI (780 + 2)) (nI_add (780) (2)) ?_
  refine e_iald hx hb hK hW (F_Mnet G hG) (j := 780 + 2) (by omega) (x := d (624) (780 + 2)) (rfl) rfl d_Mo_arrive_16 ?_
  refine lv_istore_n (lv' := [(3, .int (d (624) (780 + 2))), (2, .int (nI t)), (0, .ref (gad G (600))), (1, .int (780))]) hx hb d_Mo_arrive_17 rfl hl (by decide) rfl (fun ls hl => ?_)
  refine lv_aload_n hx hb d_Mo_arrive_18 rfl (lv_at hl 2 rfl) ?_
  refine e_get (v := .ref (gad G (624))) hx hb hts hown hK hW (F_Mo G hG) i_Mo rfl 24 (by decide) (hts _ kw_407) (fun _ h => h) rfl d_Mo_arrive_19 ?_
  refine lv_iload_n hx hb d_Mo_arrive_22 rfl (lv_at hl 3 rfl) ?_
  refine lv_iconst (v := 3) hx hb d_Mo_arrive_23 (by decide) ?_
  refine lv_iadd hx hb d_Mo_arrive_24 ?_
  refine e_top (v := nI (780 + 3)) (nI_add (780) (3)) ?_
  refine e_iald hx hb hK hW (F_Mnet G hG) (j := 780 + 3) (by omega) (x := nI a) (f3) rfl d_Mo_arrive_25 ?_
  refine lv_istore (lv' := [(4, .int (nI a)), (3, .int (d (624) (780 + 2))), (2, .int (nI t)), (0, .ref (gad G (600))), (1, .int (780))]) hx hb d_Mo_arrive_26 hl (by decide) rfl (fun ls hl => ?_)
  refine lv_aload_n hx hb d_Mo_arrive_28 rfl (lv_at hl 3 rfl) ?_
  refine e_get (v := .ref (gad G (624))) hx hb hts hown hK hW (F_Mo G hG) i_Mo rfl 24 (by decide) (hts _ kw_407) (fun _ h => h) rfl d_Mo_arrive_29 ?_
  refine lv_iload_n hx hb d_Mo_arrive_32 rfl (lv_at hl 4 rfl) ?_
  refine lv_iconst (v := 4) hx hb d_Mo_arrive_33 (by decide) ?_
  refine lv_iadd hx hb d_Mo_arrive_34 ?_
  refine e_top (v := nI (780 + 4)) (nI_add (780) (4)) ?_
  refine e_iald hx hb hK hW (F_Mnet G hG) (j := 780 + 4) (by omega) (x := nI ld) (f4) rfl d_Mo_arrive_35 ?_
  refine lv_istore (lv' := [(5, .int (nI ld)), (4, .int (nI a)), (3, .int (d (624) (780 + 2))), (2, .int (nI t)), (0, .ref (gad G (600))), (1, .int (780))]) hx hb d_Mo_arrive_36 hl (by decide) rfl (fun ls hl => ?_)
  refine lv_aload_n hx hb d_Mo_arrive_38 rfl (lv_at hl 4 rfl) ?_
  refine e_get (v := .ref (gad G (624))) hx hb hts hown hK hW (F_Mo G hG) i_Mo rfl 24 (by decide) (hts _ kw_407) (fun _ h => h) rfl d_Mo_arrive_39 ?_
  refine lv_iload_n hx hb d_Mo_arrive_42 rfl (lv_at hl 5 rfl) ?_
  refine lv_iconst (v := 5) hx hb d_Mo_arrive_43 (by decide) ?_
  refine lv_iadd hx hb d_Mo_arrive_44 ?_
  refine e_top (v := nI (780 + 5)) (nI_add (780) (5)) ?_
  refine e_iald hx hb hK hW (F_Mnet G hG) (j := 780 + 5) (by omega) (x := b) (f5) rfl d_Mo_arrive_45 ?_
  refine lv_istore (lv' := [(6, .int (b)), (5, .int (nI ld)), (4, .int (nI a)), (3, .int (d (624) (780 + 2))), (2, .int (nI t)), (0, .ref (gad G (600))), (1, .int (780))]) hx hb d_Mo_arrive_46 hl (by decide) rfl (fun ls hl => ?_)
  refine lv_aload_n hx hb d_Mo_arrive_48 rfl (lv_at hl 5 rfl) ?_
  refine e_get (v := .ref (gad G (624))) hx hb hts hown hK hW (F_Mo G hG) i_Mo rfl 24 (by decide) (hts _ kw_407) (fun _ h => h) rfl d_Mo_arrive_49 ?_
  refine lv_iload_n hx hb d_Mo_arrive_52 rfl (lv_at hl 6 rfl) ?_
  refine lv_bipush (v := 6) hx hb d_Mo_arrive_53 (by decide) ?_
  refine lv_iadd hx hb d_Mo_arrive_55 ?_
  refine e_top (v := nI (780 + 6)) (nI_add (780) (6)) ?_
  refine e_iald hx hb hK hW (F_Mnet G hG) (j := 780 + 6) (by omega) (x := d (624) (780 + 6)) (rfl) rfl d_Mo_arrive_56 ?_
  refine lv_istore (lv' := [(7, .int (d (624) (780 + 6))), (6, .int (b)), (5, .int (nI ld)), (4, .int (nI a)), (3, .int (d (624) (780 + 2))), (2, .int (nI t)), (0, .ref (gad G (600))), (1, .int (780))]) hx hb d_Mo_arrive_57 hl (by decide) rfl (fun ls hl => ?_)
  refine lv_aload_n hx hb d_Mo_arrive_59 rfl (lv_at hl 6 rfl) ?_
  refine e_get (v := .ref (gad G (624))) hx hb hts hown hK hW (F_Mo G hG) i_Mo rfl 24 (by decide) (hts _ kw_407) (fun _ h => h) rfl d_Mo_arrive_60 ?_
  refine lv_iload_n hx hb d_Mo_arrive_63 rfl (lv_at hl 7 rfl) ?_
  refine e_iald hx hb hK hW (F_Mnet G hG) (j := 780) (by decide) (x := 82) (fk) rfl d_Mo_arrive_64 ?_
  refine lv_lookup (off := 91) (tgt := 156) hx hb d_Mo_arrive_65 (by decide) (by decide) (by decide) ?_
  refine lv_aload_n hx hb d_Mo_arrive_156 rfl (lv_at hl 6 rfl) ?_
  refine e_get (v := .ref (gad G (604))) hx hb hts hown hK hW (F_Mo G hG) i_Mo rfl 4 (by decide) (hts _ kw_468) (fun _ h => h) rfl d_Mo_arrive_157 ?_
  refine lv_iload hx hb d_Mo_arrive_160 (lv_at hl 2 rfl) ?_
  refine e_zald hx hb hK hW (F_MleaderDown G hG) (j := ld) hld (x := d (604) (ld)) (rfl) rfl d_Mo_arrive_162 ?_
  refine lv_if_ne (tgt := 250) hx hb d_Mo_arrive_163 (by decide) (fun c_1 => ?_) (fun c_1 => ?_)
  · skip
    exact e_vret hx hb hr hlk hW (by rw [if_neg c_1]) (Nat.zero_le _) (Nat.zero_le _) d_Mo_arrive_250
  · skip
    refine lv_aload_n hx hb d_Mo_arrive_166 rfl (lv_at hl 6 rfl) ?_
    refine lv_iload hx hb d_Mo_arrive_167 (lv_at hl 2 rfl) ?_
    refine lv_iload_n hx hb d_Mo_arrive_169 rfl (lv_at hl 5 rfl) ?_
    refine lv_iload hx hb d_Mo_arrive_170 (lv_at hl 3 rfl) ?_
    refine lv_iload hx hb d_Mo_arrive_172 (lv_at hl 1 rfl) ?_
    refine lv_iload_n hx hb d_Mo_arrive_174 rfl (lv_at hl 7 rfl) ?_
    refine e_cv (e_runV hx hb hml hown hts hE hbs hW (F_Mo G hG) rfl (c_M_reply l G hG d ld t a hld ht ha (b) hN (fn)) kw_470 kw_471 kw_472 kw_412 kw_469 rfl rfl hd_Mo_reply ⟨Nat.le_of_ble_eq_true rfl, Nat.le_of_ble_eq_true rfl⟩ (As := [.int (nI ld), .int (nI t), .int (nI a), .int (b), .int (780)]) (rest := []) rfl hl.1 rfl (Nat.le_of_ble_eq_true rfl) d_Mo_arrive_175 ⟨Nat.le_of_ble_eq_true rfl, Nat.le_of_ble_eq_true rfl⟩) hW (fun d' H locs hp hW => ?_)
    have hp := hp.symm; subst hp
    refine lv_goto (tgt := 250) hx hb d_Mo_arrive_178 (by decide) ?_
    exact e_vret hx hb hr hlk hW (by rw [if_pos c_1]) (Nat.zero_le _) (Nat.zero_le _) d_Mo_arrive_250
set_option maxHeartbeats 4000000 in
set_option maxRecDepth 100000 in
theorem c_M_arr3 (l : Launch) (G : GT) (hG : GOK G) (d : DD) (a t s : Nat) (ha : a < 3) (ht : t < 8) (hs : s < 3) (b v : Int32) (hN : MN d) (fn : d 600 1 = nI (gn G)) (f1 : d 624 781 = nI t) (f2 : d 624 782 = nI s) (f3 : d 624 783 = nI a) (f5 : d 624 785 = b) (f6 : d 624 786 = v) (fk : d 624 780 = 86) : Met l y_Mo_arrive (.code y_Mo_arrive b_Mo_arrive 8 none :: WS) { frames := 8, cells := 0, slots := 0, locals := 260 } (cPre G [.ref (gad G (600)), .int (780)] d) (cQv G (fun u9 => u9 = if d 603 a = 0 then m_acc d a t s b v else d)) 0 0 (gAb G) := by
  refine c_start (own := R_Mo) (by decide +kernel) rfl (Nat.le_of_ble_eq_true rfl) ?_
  intro p e zs zm below meth zc ls C hW hl
  obtain ⟨hx, hb, hr, hml, hown, hts, hlk, hE, hbs⟩ := C
  have hK := hE.1
  have hn3 := hG.1
  have hl : lv_has ls 8 [(0, .ref (gad G (600))), (1, .int (780))] := hl
  refine lv_aload_n hx hb d_Mo_arrive_0 rfl (lv_at hl 0 rfl) ?_
  refine e_get (v := .ref (gad G (624))) hx hb hts hown hK hW (F_Mo G hG) i_Mo rfl 24 (by decide) (hts _ kw_407) (fun _ h => h) rfl d_Mo_arrive_1 ?_
  refine lv_iload_n hx hb d_Mo_arrive_4 rfl (lv_at hl 1 rfl) ?_
  refine lv_iconst (v := 1) hx hb d_Mo_arrive_5 (by decide) ?_
  refine lv_iadd hx hb d_Mo_arrive_6 ?_
  refine e_top (v := nI (780 + 1)) (nI_add (780) (1)) ?_
  refine e_iald hx hb hK hW (F_Mnet G hG) (j := 780 + 1) (by omega) (x := nI t) (f1) rfl d_Mo_arrive_7 ?_
  refine lv_istore_n (lv' := [(2, .int (nI t)), (0, .ref (gad G (600))), (1, .int (780))]) hx hb d_Mo_arrive_8 rfl hl (by decide) rfl (fun ls hl => ?_)
  refine lv_aload_n hx hb d_Mo_arrive_9 rfl (lv_at hl 1 rfl) ?_
  refine e_get (v := .ref (gad G (624))) hx hb hts hown hK hW (F_Mo G hG) i_Mo rfl 24 (by decide) (hts _ kw_407) (fun _ h => h) rfl d_Mo_arrive_10 ?_
  refine lv_iload_n hx hb d_Mo_arrive_13 rfl (lv_at hl 2 rfl) ?_
  refine lv_iconst (v := 2) hx hb d_Mo_arrive_14 (by decide) ?_
  refine lv_iadd hx hb d_Mo_arrive_15 ?_
  refine e_top (v := nI (780 + 2)) (nI_add (780) (2)) ?_
  refine e_iald hx hb hK hW (F_Mnet G hG) (j := 780 + 2) (by omega) (x := nI s) (f2) rfl d_Mo_arrive_16 ?_
  refine lv_istore_n (lv' := [(3, .int (nI s)), (2, .int (nI t)), (0, .ref (gad G (600))), (1, .int (780))]) hx hb d_Mo_arrive_17 rfl hl (by decide) rfl (fun ls hl => ?_)
  refine lv_aload_n hx hb d_Mo_arrive_18 rfl (lv_at hl 2 rfl) ?_
  refine e_get (v := .ref (gad G (624))) hx hb hts hown hK hW (F_Mo G hG) i_Mo rfl 24 (by decide) (hts _ kw_407) (fun _ h => h) rfl d_Mo_arrive_19 ?_
  refine lv_iload_n hx hb d_Mo_arrive_22 rfl (lv_at hl 3 rfl) ?_
  refine lv_iconst (v := 3) hx hb d_Mo_arrive_23 (by decide) ?_
  refine lv_iadd hx hb d_Mo_arrive_24 ?_
  refine e_top (v := nI (780 + 3)) (nI_add (780) (3)) ?_
  refine e_iald hx hb hK hW (F_Mnet G hG) (j := 780 + 3) (by omega) (x := nI a) (f3) rfl d_Mo_arrive_25 ?_
  refine lv_istore (lv' := [(4, .int (nI a)), (3, .int (nI s)), (2, .int (nI t)), (0, .ref (gad G (600))), (1, .int (780))]) hx hb d_Mo_arrive_26 hl (by decide) rfl (fun ls hl => ?_)
  refine lv_aload_n hx hb d_Mo_arrive_28 rfl (lv_at hl 3 rfl) ?_
  refine e_get (v := .ref (gad G (624))) hx hb hts hown hK hW (F_Mo G hG) i_Mo rfl 24 (by decide) (hts _ kw_407) (fun _ h => h) rfl d_Mo_arrive_29 ?_
  refine lv_iload_n hx hb d_Mo_arrive_32 rfl (lv_at hl 4 rfl) ?_
  refine lv_iconst (v := 4) hx hb d_Mo_arrive_33 (by decide) ?_
  refine lv_iadd hx hb d_Mo_arrive_34 ?_
  refine e_top (v := nI (780 + 4)) (nI_add (780) (4)) ?_
  refine e_iald hx hb hK hW (F_Mnet G hG) (j := 780 + 4) (by omega) (x := d (624) (780 + 4)) (rfl) rfl d_Mo_arrive_35 ?_
  refine lv_istore (lv' := [(5, .int (d (624) (780 + 4))), (4, .int (nI a)), (3, .int (nI s)), (2, .int (nI t)), (0, .ref (gad G (600))), (1, .int (780))]) hx hb d_Mo_arrive_36 hl (by decide) rfl (fun ls hl => ?_)
  refine lv_aload_n hx hb d_Mo_arrive_38 rfl (lv_at hl 4 rfl) ?_
  refine e_get (v := .ref (gad G (624))) hx hb hts hown hK hW (F_Mo G hG) i_Mo rfl 24 (by decide) (hts _ kw_407) (fun _ h => h) rfl d_Mo_arrive_39 ?_
  refine lv_iload_n hx hb d_Mo_arrive_42 rfl (lv_at hl 5 rfl) ?_
  refine lv_iconst (v := 5) hx hb d_Mo_arrive_43 (by decide) ?_
  refine lv_iadd hx hb d_Mo_arrive_44 ?_
  refine e_top (v := nI (780 + 5)) (nI_add (780) (5)) ?_
  refine e_iald hx hb hK hW (F_Mnet G hG) (j := 780 + 5) (by omega) (x := b) (f5) rfl d_Mo_arrive_45 ?_
  refine lv_istore (lv' := [(6, .int (b)), (5, .int (d (624) (780 + 4))), (4, .int (nI a)), (3, .int (nI s)), (2, .int (nI t)), (0, .ref (gad G (600))), (1, .int (780))]) hx hb d_Mo_arrive_46 hl (by decide) rfl (fun ls hl => ?_)
  refine lv_aload_n hx hb d_Mo_arrive_48 rfl (lv_at hl 5 rfl) ?_
  refine e_get (v := .ref (gad G (624))) hx hb hts hown hK hW (F_Mo G hG) i_Mo rfl 24 (by decide) (hts _ kw_407) (fun _ h => h) rfl d_Mo_arrive_49 ?_
  refine lv_iload_n hx hb d_Mo_arrive_52 rfl (lv_at hl 6 rfl) ?_
  refine lv_bipush (v := 6) hx hb d_Mo_arrive_53 (by decide) ?_
  refine lv_iadd hx hb d_Mo_arrive_55 ?_
  refine e_top (v := nI (780 + 6)) (nI_add (780) (6)) ?_
  refine e_iald hx hb hK hW (F_Mnet G hG) (j := 780 + 6) (by omega) (x := v) (f6) rfl d_Mo_arrive_56 ?_
  refine lv_istore (lv' := [(7, .int (v)), (6, .int (b)), (5, .int (d (624) (780 + 4))), (4, .int (nI a)), (3, .int (nI s)), (2, .int (nI t)), (0, .ref (gad G (600))), (1, .int (780))]) hx hb d_Mo_arrive_57 hl (by decide) rfl (fun ls hl => ?_)
  refine lv_aload_n hx hb d_Mo_arrive_59 rfl (lv_at hl 6 rfl) ?_
  refine e_get (v := .ref (gad G (624))) hx hb hts hown hK hW (F_Mo G hG) i_Mo rfl 24 (by decide) (hts _ kw_407) (fun _ h => h) rfl d_Mo_arrive_60 ?_
  refine lv_iload_n hx hb d_Mo_arrive_63 rfl (lv_at hl 7 rfl) ?_
  refine e_iald hx hb hK hW (F_Mnet G hG) (j := 780) (by decide) (x := 86) (fk) rfl d_Mo_arrive_64 ?_
  refine lv_lookup (off := 116) (tgt := 181) hx hb d_Mo_arrive_65 (by decide) (by decide) (by decide) ?_
  refine lv_aload_n hx hb d_Mo_arrive_181 rfl (lv_at hl 6 rfl) ?_
  refine e_get (v := .ref (gad G (603))) hx hb hts hown hK hW (F_Mo G hG) i_Mo rfl 3 (by decide) (hts _ kw_463) (fun _ h => h) rfl d_Mo_arrive_182 ?_
  refine lv_iload hx hb d_Mo_arrive_185 (lv_at hl 3 rfl) ?_
  refine e_zald hx hb hK hW (F_MacceptorDown G hG) (j := a) ha (x := d (603) (a)) (rfl) rfl d_Mo_arrive_187 ?_
  refine lv_if_ne (tgt := 250) hx hb d_Mo_arrive_188 (by decide) (fun c_1 => ?_) (fun c_1 => ?_)
  · skip
    exact e_vret hx hb hr hlk hW (by rw [if_neg c_1]) (Nat.zero_le _) (Nat.zero_le _) d_Mo_arrive_250
  · skip
    refine lv_aload_n hx hb d_Mo_arrive_191 rfl (lv_at hl 6 rfl) ?_
    refine lv_iload_n hx hb d_Mo_arrive_192 rfl (lv_at hl 5 rfl) ?_
    refine lv_iload_n hx hb d_Mo_arrive_193 rfl (lv_at hl 4 rfl) ?_
    refine lv_iload hx hb d_Mo_arrive_194 (lv_at hl 3 rfl) ?_
    refine lv_iload hx hb d_Mo_arrive_196 (lv_at hl 1 rfl) ?_
    refine lv_iload hx hb d_Mo_arrive_198 (lv_at hl 0 rfl) ?_
    refine e_cv (e_runV hx hb hml hown hts hE hbs hW (F_Mo G hG) rfl (c_M_accept l G hG d t s a ht hs ha (b) (v) hN) kw_474 kw_475 kw_476 kw_412 kw_473 rfl rfl hd_Mo_accept ⟨Nat.le_of_ble_eq_true rfl, Nat.le_of_ble_eq_true rfl⟩ (As := [.int (nI t), .int (nI s), .int (nI a), .int (b), .int (v)]) (rest := []) rfl hl.1 rfl (Nat.le_of_ble_eq_true rfl) d_Mo_arrive_200 ⟨Nat.le_of_ble_eq_true rfl, Nat.le_of_ble_eq_true rfl⟩) hW (fun d' H locs hp hW => ?_)
    have hp := hp.symm; subst hp
    refine lv_goto (tgt := 250) hx hb d_Mo_arrive_203 (by decide) ?_
    exact e_vret hx hb hr hlk hW (by rw [if_pos c_1]) (Nat.zero_le _) (Nat.zero_le _) d_Mo_arrive_250
set_option maxHeartbeats 4000000 in
set_option maxRecDepth 100000 in
theorem c_M_arr4 (l : Launch) (G : GT) (hG : GOK G) (d : DD) (ld t a s : Nat) (hld : ld < 2) (ht : t < 8) (ha : a < 3) (hs : s < 3) (b v : Int32) (hN : MN d) (fn : d 600 1 = nI (gn G)) (f1 : d 624 781 = nI t) (f2 : d 624 782 = nI s) (f3 : d 624 783 = nI a) (f4 : d 624 784 = nI ld) (f5 : d 624 785 = b) (f6 : d 624 786 = v) (fk : d 624 780 = 84) : Met l y_Mo_arrive (.code y_Mo_arrive b_Mo_arrive 8 none :: WS) { frames := 8, cells := 0, slots := 0, locals := 260 } (cPre G [.ref (gad G (600)), .int (780)] d) (cQv G (fun u9 => u9 = if d 604 ld = 0 then m_told (m_hear d (8 * ld + t) a s b v) (8 * ld + t) t else d)) 0 0 (gAb G) := by
  refine c_start (own := R_Mo) (by decide +kernel) rfl (Nat.le_of_ble_eq_true rfl) ?_
  intro p e zs zm below meth zc ls C hW hl
  obtain ⟨hx, hb, hr, hml, hown, hts, hlk, hE, hbs⟩ := C
  have hK := hE.1
  have hn3 := hG.1
  have hl : lv_has ls 8 [(0, .ref (gad G (600))), (1, .int (780))] := hl
  refine lv_aload_n hx hb d_Mo_arrive_0 rfl (lv_at hl 0 rfl) ?_
  refine e_get (v := .ref (gad G (624))) hx hb hts hown hK hW (F_Mo G hG) i_Mo rfl 24 (by decide) (hts _ kw_407) (fun _ h => h) rfl d_Mo_arrive_1 ?_
  refine lv_iload_n hx hb d_Mo_arrive_4 rfl (lv_at hl 1 rfl) ?_
  refine lv_iconst (v := 1) hx hb d_Mo_arrive_5 (by decide) ?_
  refine lv_iadd hx hb d_Mo_arrive_6 ?_
  refine e_top (v := nI (780 + 1)) (nI_add (780) (1)) ?_
  refine e_iald hx hb hK hW (F_Mnet G hG) (j := 780 + 1) (by omega) (x := nI t) (f1) rfl d_Mo_arrive_7 ?_
  refine lv_istore_n (lv' := [(2, .int (nI t)), (0, .ref (gad G (600))), (1, .int (780))]) hx hb d_Mo_arrive_8 rfl hl (by decide) rfl (fun ls hl => ?_)
  refine lv_aload_n hx hb d_Mo_arrive_9 rfl (lv_at hl 1 rfl) ?_
  refine e_get (v := .ref (gad G (624))) hx hb hts hown hK hW (F_Mo G hG) i_Mo rfl 24 (by decide) (hts _ kw_407) (fun _ h => h) rfl d_Mo_arrive_10 ?_
  refine lv_iload_n hx hb d_Mo_arrive_13 rfl (lv_at hl 2 rfl) ?_
  refine lv_iconst (v := 2) hx hb d_Mo_arrive_14 (by decide) ?_
  refine lv_iadd hx hb d_Mo_arrive_15 ?_
  refine e_top (v := nI (780 + 2)) (nI_add (780) (2)) ?_
  refine e_iald hx hb hK hW (F_Mnet G hG) (j := 780 + 2) (by omega) (x := nI s) (f2) rfl d_Mo_arrive_16 ?_
  refine lv_istore_n (lv' := [(3, .int (nI s)), (2, .int (nI t)), (0, .ref (gad G (600))), (1, .int (780))]) hx hb d_Mo_arrive_17 rfl hl (by decide) rfl (fun ls hl => ?_)
  refine lv_aload_n hx hb d_Mo_arrive_18 rfl (lv_at hl 2 rfl) ?_
  refine e_get (v := .ref (gad G (624))) hx hb hts hown hK hW (F_Mo G hG) i_Mo rfl 24 (by decide) (hts _ kw_407) (fun _ h => h) rfl d_Mo_arrive_19 ?_
  refine lv_iload_n hx hb d_Mo_arrive_22 rfl (lv_at hl 3 rfl) ?_
  refine lv_iconst (v := 3) hx hb d_Mo_arrive_23 (by decide) ?_
  refine lv_iadd hx hb d_Mo_arrive_24 ?_
  refine e_top (v := nI (780 + 3)) (nI_add (780) (3)) ?_
  refine e_iald hx hb hK hW (F_Mnet G hG) (j := 780 + 3) (by omega) (x := nI a) (f3) rfl d_Mo_arrive_25 ?_
  refine lv_istore (lv' := [(4, .int (nI a)), (3, .int (nI s)), (2, .int (nI t)), (0, .ref (gad G (600))), (1, .int (780))]) hx hb d_Mo_arrive_26 hl (by decide) rfl (fun ls hl => ?_)
  refine lv_aload_n hx hb d_Mo_arrive_28 rfl (lv_at hl 3 rfl) ?_
  refine e_get (v := .ref (gad G (624))) hx hb hts hown hK hW (F_Mo G hG) i_Mo rfl 24 (by decide) (hts _ kw_407) (fun _ h => h) rfl d_Mo_arrive_29 ?_
  refine lv_iload_n hx hb d_Mo_arrive_32 rfl (lv_at hl 4 rfl) ?_
  refine lv_iconst (v := 4) hx hb d_Mo_arrive_33 (by decide) ?_
  refine lv_iadd hx hb d_Mo_arrive_34 ?_
  refine e_top (v := nI (780 + 4)) (nI_add (780) (4)) ?_
  refine e_iald hx hb hK hW (F_Mnet G hG) (j := 780 + 4) (by omega) (x := nI ld) (f4) rfl d_Mo_arrive_35 ?_
  refine lv_istore (lv' := [(5, .int (nI ld)), (4, .int (nI a)), (3, .int (nI s)), (2, .int (nI t)), (0, .ref (gad G (600))), (1, .int (780))]) hx hb d_Mo_arrive_36 hl (by decide) rfl (fun ls hl => ?_)
  refine lv_aload_n hx hb d_Mo_arrive_38 rfl (lv_at hl 4 rfl) ?_
  refine e_get (v := .ref (gad G (624))) hx hb hts hown hK hW (F_Mo G hG) i_Mo rfl 24 (by decide) (hts _ kw_407) (fun _ h => h) rfl d_Mo_arrive_39 ?_
  refine lv_iload_n hx hb d_Mo_arrive_42 rfl (lv_at hl 5 rfl) ?_
  refine lv_iconst (v := 5) hx hb d_Mo_arrive_43 (by decide) ?_
  refine lv_iadd hx hb d_Mo_arrive_44 ?_
  refine e_top (v := nI (780 + 5)) (nI_add (780) (5)) ?_
  refine e_iald hx hb hK hW (F_Mnet G hG) (j := 780 + 5) (by omega) (x := b) (f5) rfl d_Mo_arrive_45 ?_
  refine lv_istore (lv' := [(6, .int (b)), (5, .int (nI ld)), (4, .int (nI a)), (3, .int (nI s)), (2, .int (nI t)), (0, .ref (gad G (600))), (1, .int (780))]) hx hb d_Mo_arrive_46 hl (by decide) rfl (fun ls hl => ?_)
  refine lv_aload_n hx hb d_Mo_arrive_48 rfl (lv_at hl 5 rfl) ?_
  refine e_get (v := .ref (gad G (624))) hx hb hts hown hK hW (F_Mo G hG) i_Mo rfl 24 (by decide) (hts _ kw_407) (fun _ h => h) rfl d_Mo_arrive_49 ?_
  refine lv_iload_n hx hb d_Mo_arrive_52 rfl (lv_at hl 6 rfl) ?_
  refine lv_bipush (v := 6) hx hb d_Mo_arrive_53 (by decide) ?_
  refine lv_iadd hx hb d_Mo_arrive_55 ?_
  refine e_top (v := nI (780 + 6)) (nI_add (780) (6)) ?_
  refine e_iald hx hb hK hW (F_Mnet G hG) (j := 780 + 6) (by omega) (x := v) (f6) rfl d_Mo_arrive_56 ?_
  refine lv_istore (lv' := [(7, .int (v)), (6, .int (b)), (5, .int (nI ld)), (4, .int (nI a)), (3, .int (nI s)), (2, .int (nI t)), (0, .ref (gad G (600))), (1, .int (780))]) hx hb d_Mo_arrive_57 hl (by decide) rfl (fun ls hl => ?_)
  refine lv_aload_n hx hb d_Mo_arrive_59 rfl (lv_at hl 6 rfl) ?_
  refine e_get (v := .ref (gad G (624))) hx hb hts hown hK hW (F_Mo G hG) i_Mo rfl 24 (by decide) (hts _ kw_407) (fun _ h => h) rfl d_Mo_arrive_60 ?_
  refine lv_iload_n hx hb d_Mo_arrive_63 rfl (lv_at hl 7 rfl) ?_
  refine e_iald hx hb hK hW (F_Mnet G hG) (j := 780) (by decide) (x := 84) (fk) rfl d_Mo_arrive_64 ?_
  refine lv_lookup (off := 141) (tgt := 206) hx hb d_Mo_arrive_65 (by decide) (by decide) (by decide) ?_
  refine lv_aload_n hx hb d_Mo_arrive_206 rfl (lv_at hl 6 rfl) ?_
  refine e_get (v := .ref (gad G (604))) hx hb hts hown hK hW (F_Mo G hG) i_Mo rfl 4 (by decide) (hts _ kw_468) (fun _ h => h) rfl d_Mo_arrive_207 ?_
  refine lv_iload hx hb d_Mo_arrive_210 (lv_at hl 2 rfl) ?_
  refine e_zald hx hb hK hW (F_MleaderDown G hG) (j := ld) hld (x := d (604) (ld)) (rfl) rfl d_Mo_arrive_212 ?_
  refine lv_if_ne (tgt := 250) hx hb d_Mo_arrive_213 (by decide) (fun c_1 => ?_) (fun c_1 => ?_)
  · skip
    exact e_vret hx hb hr hlk hW (by rw [if_neg c_1]) (Nat.zero_le _) (Nat.zero_le _) d_Mo_arrive_250
  · skip
    refine lv_aload_n hx hb d_Mo_arrive_216 rfl (lv_at hl 6 rfl) ?_
    refine lv_iload hx hb d_Mo_arrive_217 (lv_at hl 2 rfl) ?_
    refine lv_iload_n hx hb d_Mo_arrive_219 rfl (lv_at hl 5 rfl) ?_
    refine lv_iload_n hx hb d_Mo_arrive_220 rfl (lv_at hl 4 rfl) ?_
    refine lv_iload hx hb d_Mo_arrive_221 (lv_at hl 3 rfl) ?_
    refine lv_iload hx hb d_Mo_arrive_223 (lv_at hl 1 rfl) ?_
    refine lv_iload hx hb d_Mo_arrive_225 (lv_at hl 0 rfl) ?_
    refine e_cv (e_runV hx hb hml hown hts hE hbs hW (F_Mo G hG) rfl (c_M_told l G hG d ld t s a hld ht hs ha (b) (v) hN) kw_478 kw_479 kw_480 kw_412 kw_477 rfl rfl hd_Mo_told ⟨Nat.le_of_ble_eq_true rfl, Nat.le_of_ble_eq_true rfl⟩ (As := [.int (nI ld), .int (nI t), .int (nI s), .int (nI a), .int (b), .int (v)]) (rest := []) rfl hl.1 rfl (Nat.le_of_ble_eq_true rfl) d_Mo_arrive_227 ⟨Nat.le_of_ble_eq_true rfl, Nat.le_of_ble_eq_true rfl⟩) hW (fun d' H locs hp hW => ?_)
    have hp := hp.symm; subst hp
    refine lv_goto (tgt := 250) hx hb d_Mo_arrive_230 (by decide) ?_
    exact e_vret hx hb hr hlk hW (by rw [if_pos c_1]) (Nat.zero_le _) (Nat.zero_le _) d_Mo_arrive_250
set_option maxHeartbeats 4000000 in
set_option maxRecDepth 100000 in
theorem c_M_arr5 (l : Launch) (G : GT) (hG : GOK G) (d : DD) (s t : Nat) (hs : s < 3) (ht : t < 8) (v : Int32) (hN : MN d) (fn : d 600 1 = nI (gn G)) (f1 : d 624 781 = nI t) (f2 : d 624 782 = nI s) (f6 : d 624 786 = v) (fk : d 624 780 = 79) : Met l y_Mo_arrive (.code y_Mo_arrive b_Mo_arrive 8 none :: WS) { frames := 8, cells := 0, slots := 0, locals := 260 } (cPre G [.ref (gad G (600)), .int (780)] d) (cQv G (fun u9 => u9 = if d 602 s = 0 then m_fin d t s v else d)) 0 0 (gAb G) := by
  refine c_start (own := R_Mo) (by decide +kernel) rfl (Nat.le_of_ble_eq_true rfl) ?_
  intro p e zs zm below meth zc ls C hW hl
  obtain ⟨hx, hb, hr, hml, hown, hts, hlk, hE, hbs⟩ := C
  have hK := hE.1
  have hn3 := hG.1
  have hl : lv_has ls 8 [(0, .ref (gad G (600))), (1, .int (780))] := hl
  refine lv_aload_n hx hb d_Mo_arrive_0 rfl (lv_at hl 0 rfl) ?_
  refine e_get (v := .ref (gad G (624))) hx hb hts hown hK hW (F_Mo G hG) i_Mo rfl 24 (by decide) (hts _ kw_407) (fun _ h => h) rfl d_Mo_arrive_1 ?_
  refine lv_iload_n hx hb d_Mo_arrive_4 rfl (lv_at hl 1 rfl) ?_
  refine lv_iconst (v := 1) hx hb d_Mo_arrive_5 (by decide) ?_
  refine lv_iadd hx hb d_Mo_arrive_6 ?_
  refine e_top (v := nI (780 + 1)) (nI_add (780) (1)) ?_
  refine e_iald hx hb hK hW (F_Mnet G hG) (j := 780 + 1) (by omega) (x := nI t) (f1) rfl d_Mo_arrive_7 ?_
  refine lv_istore_n (lv' := [(2, .int (nI t)), (0, .ref (gad G (600))), (1, .int (780))]) hx hb d_Mo_arrive_8 rfl hl (by decide) rfl (fun ls hl => ?_)
  refine lv_aload_n hx hb d_Mo_arrive_9 rfl (lv_at hl 1 rfl) ?_
  refine e_get (v := .ref (gad G (624))) hx hb hts hown hK hW (F_Mo G hG) i_Mo rfl 24 (by decide) (hts _ kw_407) (fun _ h => h) rfl d_Mo_arrive_10 ?_
  refine lv_iload_n hx hb d_Mo_arrive_13 rfl (lv_at hl 2 rfl) ?_
  refine lv_iconst (v := 2) hx hb d_Mo_arrive_14 (by decide) ?_
  refine lv_iadd hx hb d_Mo_arrive_15 ?_
  refine e_top (v := nI (780 + 2)) (nI_add (780) (2)) ?_
  refine e_iald hx hb hK hW (F_Mnet G hG) (j := 780 + 2) (by omega) (x := nI s) (f2) rfl d_Mo_arrive_16 ?_
  refine lv_istore_n (lv' := [(3, .int (nI s)), (2, .int (nI t)), (0, .ref (gad G (600))), (1, .int (780))]) hx hb d_Mo_arrive_17 rfl hl (by decide) rfl (fun ls hl => ?_)
  refine lv_aload_n hx hb d_Mo_arrive_18 rfl (lv_at hl 2 rfl) ?_
  refine e_get (v := .ref (gad G (624))) hx hb hts hown hK hW (F_Mo G hG) i_Mo rfl 24 (by decide) (hts _ kw_407) (fun _ h => h) rfl d_Mo_arrive_19 ?_
  refine lv_iload_n hx hb d_Mo_arrive_22 rfl (lv_at hl 3 rfl) ?_
  refine lv_iconst (v := 3) hx hb d_Mo_arrive_23 (by decide) ?_
  refine lv_iadd hx hb d_Mo_arrive_24 ?_
  refine e_top (v := nI (780 + 3)) (nI_add (780) (3)) ?_
  refine e_iald hx hb hK hW (F_Mnet G hG) (j := 780 + 3) (by omega) (x := d (624) (780 + 3)) (rfl) rfl d_Mo_arrive_25 ?_
  refine lv_istore (lv' := [(4, .int (d (624) (780 + 3))), (3, .int (nI s)), (2, .int (nI t)), (0, .ref (gad G (600))), (1, .int (780))]) hx hb d_Mo_arrive_26 hl (by decide) rfl (fun ls hl => ?_)
  refine lv_aload_n hx hb d_Mo_arrive_28 rfl (lv_at hl 3 rfl) ?_
  refine e_get (v := .ref (gad G (624))) hx hb hts hown hK hW (F_Mo G hG) i_Mo rfl 24 (by decide) (hts _ kw_407) (fun _ h => h) rfl d_Mo_arrive_29 ?_
  refine lv_iload_n hx hb d_Mo_arrive_32 rfl (lv_at hl 4 rfl) ?_
  refine lv_iconst (v := 4) hx hb d_Mo_arrive_33 (by decide) ?_
  refine lv_iadd hx hb d_Mo_arrive_34 ?_
  refine e_top (v := nI (780 + 4)) (nI_add (780) (4)) ?_
  refine e_iald hx hb hK hW (F_Mnet G hG) (j := 780 + 4) (by omega) (x := d (624) (780 + 4)) (rfl) rfl d_Mo_arrive_35 ?_
  refine lv_istore (lv' := [(5, .int (d (624) (780 + 4))), (4, .int (d (624) (780 + 3))), (3, .int (nI s)), (2, .int (nI t)), (0, .ref (gad G (600))), (1, .int (780))]) hx hb d_Mo_arrive_36 hl (by decide) rfl (fun ls hl => ?_)
  refine lv_aload_n hx hb d_Mo_arrive_38 rfl (lv_at hl 4 rfl) ?_
  refine e_get (v := .ref (gad G (624))) hx hb hts hown hK hW (F_Mo G hG) i_Mo rfl 24 (by decide) (hts _ kw_407) (fun _ h => h) rfl d_Mo_arrive_39 ?_
  refine lv_iload_n hx hb d_Mo_arrive_42 rfl (lv_at hl 5 rfl) ?_
  refine lv_iconst (v := 5) hx hb d_Mo_arrive_43 (by decide) ?_
  refine lv_iadd hx hb d_Mo_arrive_44 ?_
  refine e_top (v := nI (780 + 5)) (nI_add (780) (5)) ?_
  refine e_iald hx hb hK hW (F_Mnet G hG) (j := 780 + 5) (by omega) (x := d (624) (780 + 5)) (rfl) rfl d_Mo_arrive_45 ?_
  refine lv_istore (lv' := [(6, .int (d (624) (780 + 5))), (5, .int (d (624) (780 + 4))), (4, .int (d (624) (780 + 3))), (3, .int (nI s)), (2, .int (nI t)), (0, .ref (gad G (600))), (1, .int (780))]) hx hb d_Mo_arrive_46 hl (by decide) rfl (fun ls hl => ?_)
  refine lv_aload_n hx hb d_Mo_arrive_48 rfl (lv_at hl 5 rfl) ?_
  refine e_get (v := .ref (gad G (624))) hx hb hts hown hK hW (F_Mo G hG) i_Mo rfl 24 (by decide) (hts _ kw_407) (fun _ h => h) rfl d_Mo_arrive_49 ?_
  refine lv_iload_n hx hb d_Mo_arrive_52 rfl (lv_at hl 6 rfl) ?_
  refine lv_bipush (v := 6) hx hb d_Mo_arrive_53 (by decide) ?_
  refine lv_iadd hx hb d_Mo_arrive_55 ?_
  refine e_top (v := nI (780 + 6)) (nI_add (780) (6)) ?_
  refine e_iald hx hb hK hW (F_Mnet G hG) (j := 780 + 6) (by omega) (x := v) (f6) rfl d_Mo_arrive_56 ?_
  refine lv_istore (lv' := [(7, .int (v)), (6, .int (d (624) (780 + 5))), (5, .int (d (624) (780 + 4))), (4, .int (d (624) (780 + 3))), (3, .int (nI s)), (2, .int (nI t)), (0, .ref (gad G (600))), (1, .int (780))]) hx hb d_Mo_arrive_57 hl (by decide) rfl (fun ls hl => ?_)
  refine lv_aload_n hx hb d_Mo_arrive_59 rfl (lv_at hl 6 rfl) ?_
  refine e_get (v := .ref (gad G (624))) hx hb hts hown hK hW (F_Mo G hG) i_Mo rfl 24 (by decide) (hts _ kw_407) (fun _ h => h) rfl d_Mo_arrive_60 ?_
  refine lv_iload_n hx hb d_Mo_arrive_63 rfl (lv_at hl 7 rfl) ?_
  refine e_iald hx hb hK hW (F_Mnet G hG) (j := 780) (by decide) (x := 79) (fk) rfl d_Mo_arrive_64 ?_
  refine lv_lookup (off := 168) (tgt := 233) hx hb d_Mo_arrive_65 (by decide) (by decide) (by decide) ?_
  refine lv_aload_n hx hb d_Mo_arrive_233 rfl (lv_at hl 6 rfl) ?_
  refine e_get (v := .ref (gad G (602))) hx hb hts hown hK hW (F_Mo G hG) i_Mo rfl 2 (by decide) (hts _ kw_458) (fun _ h => h) rfl d_Mo_arrive_234 ?_
  refine lv_iload_n hx hb d_Mo_arrive_237 rfl (lv_at hl 4 rfl) ?_
  refine e_zald hx hb hK hW (F_MstoreDown G hG) (j := s) hs (x := d (602) (s)) (rfl) rfl d_Mo_arrive_238 ?_
  refine lv_if_ne (tgt := 250) hx hb d_Mo_arrive_239 (by decide) (fun c_1 => ?_) (fun c_1 => ?_)
  · skip
    exact e_vret hx hb hr hlk hW (by rw [if_neg c_1]) (Nat.zero_le _) (Nat.zero_le _) d_Mo_arrive_250
  · skip
    refine lv_aload_n hx hb d_Mo_arrive_242 rfl (lv_at hl 6 rfl) ?_
    refine lv_iload_n hx hb d_Mo_arrive_243 rfl (lv_at hl 5 rfl) ?_
    refine lv_iload_n hx hb d_Mo_arrive_244 rfl (lv_at hl 4 rfl) ?_
    refine lv_iload hx hb d_Mo_arrive_245 (lv_at hl 0 rfl) ?_
    refine e_cv (e_runV hx hb hml hown hts hE hbs hW (F_Mo G hG) rfl (c_M_finish l G hG d t s ht hs (v)) kw_482 kw_483 kw_484 kw_412 kw_481 rfl rfl hd_Mo_finish ⟨Nat.le_of_ble_eq_true rfl, Nat.le_of_ble_eq_true rfl⟩ (As := [.int (nI t), .int (nI s), .int (v)]) (rest := []) rfl hl.1 rfl (Nat.le_of_ble_eq_true rfl) d_Mo_arrive_247 ⟨Nat.le_of_ble_eq_true rfl, Nat.le_of_ble_eq_true rfl⟩) hW (fun d' H locs hp hW => ?_)
    have hp := hp.symm; subst hp
    exact e_vret hx hb hr hlk hW (by rw [if_pos c_1]) (Nat.zero_le _) (Nat.zero_le _) d_Mo_arrive_250
theorem c_M_arrive (l : Launch) (G : GT) (hG : GOK G) (d : DD) (hN : MN d) (fn : d 600 1 = nI (gn G)) (hM : MmOK d) : Met l y_Mo_arrive (.code y_Mo_arrive b_Mo_arrive 8 none :: WS) { frames := 8, cells := 0, slots := 0, locals := 260 } (cPre G [.ref (gad G (600)), .int (780)] d) (cQv G (fun u9 => u9 = m_arrive d (gn G))) 0 0 (gAb G) := by
  unfold m_arrive
  rcases hM with ⟨fk, s, t, hs, ht, f1, f2⟩ | ⟨fk, a, t, ha, ht, f1, f3⟩ | ⟨fk, ld, t, a, hld, ht, ha, f1, f3, f4⟩ | ⟨fk, a, t, s, ha, ht, hs, f1, f2, f3⟩ | ⟨fk, ld, t, a, s, hld, ht, ha, hs, f1, f2, f3, f4⟩ | ⟨fk, s, t, hs, ht, f1, f2⟩
  · rw [fk, f1, f2, if_pos rfl, cl_nI (show t < 2147483648 by have := hG.1; omega), cl_nI (show s < 2147483648 by have := hG.1; omega)]
    exact c_M_arr0 l G hG d s t hs ht hN fn f1 f2 fk
  · rw [fk, f1, f3, if_neg (by decide), if_pos rfl, cl_nI (show t < 2147483648 by have := hG.1; omega), cl_nI (show a < 2147483648 by have := hG.1; omega)]
    exact c_M_arr1 l G hG d a t ha ht (d 624 785) hN fn f1 f3 rfl fk
  · rw [fk, f1, f3, f4, if_neg (by decide), if_neg (by decide), if_pos rfl, cl_nI (show t < 2147483648 by have := hG.1; omega), cl_nI (show a < 2147483648 by have := hG.1; omega), cl_nI (show ld < 2147483648 by have := hG.1; omega)]
    exact c_M_arr2 l G hG d ld t a hld ht ha (d 624 785) hN fn f1 f3 f4 rfl fk
  · rw [fk, f1, f2, f3, if_neg (by decide), if_neg (by decide), if_neg (by decide), if_pos rfl, cl_nI (show t < 2147483648 by have := hG.1; omega), cl_nI (show s < 2147483648 by have := hG.1; omega), cl_nI (show a < 2147483648 by have := hG.1; omega)]
    exact c_M_arr3 l G hG d a t s ha ht hs (d 624 785) (d 624 786) hN fn f1 f2 f3 rfl rfl fk
  · rw [fk, f1, f2, f3, f4, if_neg (by decide), if_neg (by decide), if_neg (by decide), if_neg (by decide), if_pos rfl, cl_nI (show t < 2147483648 by have := hG.1; omega), cl_nI (show s < 2147483648 by have := hG.1; omega), cl_nI (show a < 2147483648 by have := hG.1; omega), cl_nI (show ld < 2147483648 by have := hG.1; omega)]
    exact c_M_arr4 l G hG d ld t a s hld ht ha hs (d 624 785) (d 624 786) hN fn f1 f2 f3 f4 rfl rfl fk
  · rw [fk, f1, f2, if_neg (by decide), if_neg (by decide), if_neg (by decide), if_neg (by decide), if_neg (by decide), cl_nI (show t < 2147483648 by have := hG.1; omega), cl_nI (show s < 2147483648 by have := hG.1; omega)]
    exact c_M_arr5 l G hG d s t hs ht (d 624 786) hN fn f1 f2 rfl fk

set_option maxHeartbeats 4000000 in
set_option maxRecDepth 100000 in
theorem c_M_takeOut (l : Launch) (G : GT) (hG : GOK G) (d : DD) (i z : Nat) (st : Int32) (hiz : i < z) (hz : z ≤ 60) (fz : d 600 25 = nI z) : Met l y_Mo_takeOut (.code y_Mo_takeOut b_Mo_takeOut 4 none :: WS) { frames := 0, cells := 0, slots := 0, locals := 0 } (cPre G [.ref (gad G (600)), .int (nI i), .int (st)] d) (cQv G (fun u9 => u9 = m_out d i z st)) 0 0 (gAb G) := by
  refine c_start (own := R_Mo) (by decide +kernel) rfl (Nat.le_of_ble_eq_true rfl) ?_
  intro p e zs zm below meth zc ls C hW hl
  obtain ⟨hx, hb, hr, hml, hown, hts, hlk, hE, hbs⟩ := C
  have hK := hE.1
  have hn3 := hG.1
  have hl : lv_has ls 4 [(0, .ref (gad G (600))), (1, .int (nI i)), (2, .int (st))] := hl
  refine lv_iconst (v := 0) hx hb d_Mo_takeOut_0 (by decide) ?_
  refine lv_istore_n (lv' := [(3, .int (0)), (0, .ref (gad G (600))), (1, .int (nI i)), (2, .int (st))]) hx hb d_Mo_takeOut_1 rfl hl (by decide) rfl (fun ls hl => ?_)
  have L_2 : ∀ (N k : Nat), k ≤ 13 → 13 + 1 ≤ k + N → ∀ (H : Heap) (locs : List Loc) (ls : Array Slot), WD G zs.heap (lpTO d i k) H locs → lv_has ls 4 [(3, .int (nI k)), (0, .ref (gad G (600))), (1, .int (nI i)), (2, .int (st))] → ((lpTO d i k) (600) (25) = nI z) → W p l e { frames := 0, cells := 0, slots := 0, locals := 0 } zs zm [.ref (gad G (600)), .int (nI i), .int (st)].toArray below meth zc H locs 0 0 (MQ below (cQv G (fun u9 => u9 = m_out d i z st)) [.ref (gad G (600)), .int (nI i), .int (st)].toArray zs 0 0 (gAb G)) (F0 zm 2 ls []) := by
    intro N
    induction N with
    | zero => intro k h1 h2; exact absurd h2 (by omega)
    | succ N ih_k =>
      intro k hi_k hN_k H locs ls hW hl f0_k
      refine lv_iload_n hx hb d_Mo_takeOut_2 rfl (lv_at hl 0 rfl) ?_
      refine lv_bipush (v := 13) hx hb d_Mo_takeOut_3 (by decide) ?_
      refine lv_icmp_ge (tgt := 35) hx hb d_Mo_takeOut_5 (by decide) (fun c_1 => ?_) (fun c_1 => ?_)
      · skip
        have e_k : 13 = k := (lp_out rfl (by omega) hi_k c_1).symm
        subst e_k
        refine lv_iload_n hx hb d_Mo_takeOut_35 rfl (lv_at hl 3 rfl) ?_
        refine lv_if_eq (tgt := 40) hx hb d_Mo_takeOut_36 (by decide) (fun c_2 => ?_) (fun c_2 => ?_)
        · skip
          refine lv_aload_n hx hb d_Mo_takeOut_40 rfl (lv_at hl 1 rfl) ?_
          refine lv_dup hx hb d_Mo_takeOut_41 rfl ?_
          refine e_get (v := .int ((lpTO d i 13) (600) (25))) hx hb hts hown hK hW (F_Mo G hG) i_Mo rfl 25 (by decide) (hts _ kw_406) (fun _ h => h) rfl d_Mo_takeOut_42 ?_
          refine e_top (v := nI z) (f0_k) ?_
          refine lv_iconst (v := 1) hx hb d_Mo_takeOut_45 (by decide) ?_
          refine lv_isub hx hb d_Mo_takeOut_46 ?_
          refine e_top (v := nI (z - 1)) (pk_sub (a := z) (b := 1) (by omega)) ?_
          refine e_put hx hb hts hown hK hW (F_Mo G hG) i_Mo t_Mo t_Mo_ok n_Mo rfl 25 (by decide) (hts _ kw_406) (fun _ h => h) rfl (by decide +kernel) (fun _ => rfl) (fun _ => rfl) d_Mo_takeOut_47 (fun H locs hW => ?_)
          refine lv_bipush (v := 13) hx hb d_Mo_takeOut_50 (by decide) ?_
          refine lv_iload_n hx hb d_Mo_takeOut_52 rfl (lv_at hl 2 rfl) ?_
          refine lv_imul hx hb d_Mo_takeOut_53 ?_
          refine e_top (v := nI (13 * i)) (pk_mul (13) (i)) ?_
          refine lv_istore_n (lv' := [(3, .int (nI (13 * i))), (0, .ref (gad G (600))), (1, .int (nI i)), (2, .int (st))]) hx hb d_Mo_takeOut_54 rfl hl (by decide) rfl (fun ls hl => ?_)
          have L_55 : ∀ (N m : Nat), m ≤ 13 * (z - 1) - 13 * i → 13 * (z - 1) - 13 * i + 1 ≤ m + N → ∀ (H : Heap) (locs : List Loc) (ls : Array Slot), WD G zs.heap (lpSh (up2 (lpTO d i 13) 600 25 (nI (z - 1))) i m) H locs → lv_has ls 4 [(3, .int (nI (13 * i + m))), (0, .ref (gad G (600))), (1, .int (nI i)), (2, .int (st))] → ((lpSh (up2 (lpTO d i 13) 600 25 (nI (z - 1))) i m) (600) (25) = nI (z - 1)) → W p l e { frames := 0, cells := 0, slots := 0, locals := 0 } zs zm [.ref (gad G (600)), .int (nI i), .int (st)].toArray below meth zc H locs 0 0 (MQ below (cQv G (fun u9 => u9 = m_out d i z st)) [.ref (gad G (600)), .int (nI i), .int (st)].toArray zs 0 0 (gAb G)) (F0 zm 55 ls []) := by
            intro N
            induction N with
            | zero => intro m h1 h2; exact absurd h2 (by omega)
            | succ N ih_m =>
              intro m hi_m hN_m H locs ls hW hl f0_m
              refine lv_iload_n hx hb d_Mo_takeOut_55 rfl (lv_at hl 0 rfl) ?_
              refine lv_bipush (v := 13) hx hb d_Mo_takeOut_56 (by decide) ?_
              refine lv_aload_n hx hb d_Mo_takeOut_58 rfl (lv_at hl 1 rfl) ?_
              refine e_get (v := .int ((lpSh (up2 (lpTO d i 13) 600 25 (nI (z - 1))) i m) (600) (25))) hx hb hts hown hK hW (F_Mo G hG) i_Mo rfl 25 (by decide) (hts _ kw_406) (fun _ h => h) rfl d_Mo_takeOut_59 ?_
              refine e_top (v := nI (z - 1)) (f0_m) ?_
              refine lv_imul hx hb d_Mo_takeOut_62 ?_
              refine e_top (v := nI (13 * (z - 1))) (pk_mul (13) (z - 1)) ?_
              refine lv_icmp_ge (tgt := 87) hx hb d_Mo_takeOut_63 (by decide) (fun c_3 => ?_) (fun c_3 => ?_)
              · skip
                have e_m : 13 * (z - 1) - 13 * i = m := by have := lp_out (k := 13 * i + m) (B := 13 * (z - 1)) rfl (by omega) (by omega) c_3; omega
                subst e_m
                exact e_vret hx hb hr hlk hW (by unfold m_out; rw [if_pos c_2]) (Nat.zero_le _) (Nat.zero_le _) d_Mo_takeOut_87
              · skip
                have lt_m : m < 13 * (z - 1) - 13 * i := by have := lp_in (k := 13 * i + m) (B := 13 * (z - 1)) rfl (by omega) (by omega) c_3; omega
                refine lv_aload_n hx hb d_Mo_takeOut_66 rfl (lv_at hl 1 rfl) ?_
                refine e_get (v := .ref (gad G (624))) hx hb hts hown hK hW (F_Mo G hG) i_Mo rfl 24 (by decide) (hts _ kw_407) (fun _ h => h) rfl d_Mo_takeOut_67 ?_
                refine lv_iload_n hx hb d_Mo_takeOut_70 rfl (lv_at hl 0 rfl) ?_
                refine lv_aload_n hx hb d_Mo_takeOut_71 rfl (lv_at hl 1 rfl) ?_
                refine e_get (v := .ref (gad G (624))) hx hb hts hown hK hW (F_Mo G hG) i_Mo rfl 24 (by decide) (hts _ kw_407) (fun _ h => h) rfl d_Mo_takeOut_72 ?_
                refine lv_iload_n hx hb d_Mo_takeOut_75 rfl (lv_at hl 0 rfl) ?_
                refine lv_bipush (v := 13) hx hb d_Mo_takeOut_76 (by decide) ?_
                refine lv_iadd hx hb d_Mo_takeOut_78 ?_
                refine e_top (v := nI (13 * i + m + 13)) (nI_add (13 * i + m) (13)) ?_
                refine e_iald hx hb hK hW (F_Mnet G hG) (j := 13 * i + m + 13) (by omega) (x := (lpSh (up2 (lpTO d i 13) 600 25 (nI (z - 1))) i m) (624) (13 * i + m + 13)) (rfl) rfl d_Mo_takeOut_79 ?_
                refine e_iast hx hb hK hW (F_Mnet G hG) (j := 13 * i + m) (by omega) rfl d_Mo_takeOut_80 (fun H locs hW => ?_)
                refine lv_iinc (v := nI (13 * i + m + 1)) (lv' := [(3, .int (nI (13 * i + m + 1))), (0, .ref (gad G (600))), (1, .int (nI i)), (2, .int (st))]) hx hb d_Mo_takeOut_81 hl (k := 0) rfl (nI_1 (13 * i + m)) (by decide) rfl (fun ls hl => ?_)
                refine lv_goto (tgt := 55) hx hb d_Mo_takeOut_84 (by decide) ?_
                exact ih_m (m + 1) (by omega) (by omega) _ _ _ (by rw [show lpSh (up2 (lpTO d i 13) 600 25 (nI (z - 1))) i (m + 1) = (up2 (lpSh (up2 (lpTO d i 13) 600 25 (nI (z - 1))) i m) (624) (13 * i + m) ((lpSh (up2 (lpTO d i 13) 600 25 (nI (z - 1))) i m) (624) (13 * i + m + 13))) from rfl]; exact hW) (by rw [show nI (13 * i + (m + 1)) = nI (13 * i + m + 1) from rfl]; exact lv_sub hl [0, 1, 2, 3] rfl) (by rw [show lpSh (up2 (lpTO d i 13) 600 25 (nI (z - 1))) i (m + 1) = (up2 (lpSh (up2 (lpTO d i 13) 600 25 (nI (z - 1))) i m) (624) (13 * i + m) ((lpSh (up2 (lpTO d i 13) 600 25 (nI (z - 1))) i m) (624) (13 * i + m + 13))) from rfl]; exact (show (up2 (lpSh (up2 (lpTO d i 13) 600 25 (nI (z - 1))) i m) (624) (13 * i + m) ((lpSh (up2 (lpTO d i 13) 600 25 (nI (z - 1))) i m) (624) (13 * i + m + 13))) (600) (25) = nI (z - 1) from ((up2_nc (by omega)).trans (f0_m))))
          exact L_55 (13 * (z - 1) - 13 * i + 1) 0 (by omega) (by omega) _ _ _ hW (lv_sub hl [0, 1, 2, 3] rfl) (show (up2 (lpTO d i 13) (600) (25) (nI (z - 1))) (600) (25) = nI (z - 1) from (up2_self))
        · skip
          exact e_vret hx hb hr hlk hW (by unfold m_out; rw [if_neg c_2]) (Nat.zero_le _) (Nat.zero_le _) d_Mo_takeOut_39
      · skip
        have lt_k : k < 13 := lp_in rfl (by omega) hi_k c_1
        refine lv_aload_n hx hb d_Mo_takeOut_8 rfl (lv_at hl 1 rfl) ?_
        refine e_get (v := .ref (gad G (624))) hx hb hts hown hK hW (F_Mo G hG) i_Mo rfl 24 (by decide) (hts _ kw_407) (fun _ h => h) rfl d_Mo_takeOut_9 ?_
        refine lv_sipush (v := 780) hx hb d_Mo_takeOut_12 (by decide) ?_
        refine lv_iload_n hx hb d_Mo_takeOut_15 rfl (lv_at hl 0 rfl) ?_
        refine lv_iadd hx hb d_Mo_takeOut_16 ?_
        refine e_top (v := nI (780 + k)) (nI_add (780) (k)) ?_
        refine lv_aload_n hx hb d_Mo_takeOut_17 rfl (lv_at hl 1 rfl) ?_
        refine e_get (v := .ref (gad G (624))) hx hb hts hown hK hW (F_Mo G hG) i_Mo rfl 24 (by decide) (hts _ kw_407) (fun _ h => h) rfl d_Mo_takeOut_18 ?_
        refine lv_bipush (v := 13) hx hb d_Mo_takeOut_21 (by decide) ?_
        refine lv_iload_n hx hb d_Mo_takeOut_23 rfl (lv_at hl 2 rfl) ?_
        refine lv_imul hx hb d_Mo_takeOut_24 ?_
        refine e_top (v := nI (13 * i)) (pk_mul (13) (i)) ?_
        refine lv_iload_n hx hb d_Mo_takeOut_25 rfl (lv_at hl 0 rfl) ?_
        refine lv_iadd hx hb d_Mo_takeOut_26 ?_
        refine e_top (v := nI (13 * i + k)) (nI_add (13 * i) (k)) ?_
        refine e_iald hx hb hK hW (F_Mnet G hG) (j := 13 * i + k) (by omega) (x := (lpTO d i k) (624) (13 * i + k)) (rfl) rfl d_Mo_takeOut_27 ?_
        refine e_iast hx hb hK hW (F_Mnet G hG) (j := 780 + k) (by omega) rfl d_Mo_takeOut_28 (fun H locs hW => ?_)
        refine lv_iinc (v := nI (k + 1)) (lv' := [(3, .int (nI (k + 1))), (0, .ref (gad G (600))), (1, .int (nI i)), (2, .int (st))]) hx hb d_Mo_takeOut_29 hl (k := 0) rfl (nI_1 (k)) (by decide) rfl (fun ls hl => ?_)
        refine lv_goto (tgt := 2) hx hb d_Mo_takeOut_32 (by decide) ?_
        exact ih_k (k + 1) (by omega) (by omega) _ _ _ (by rw [show lpTO d i (k + 1) = (up2 (lpTO d i k) (624) (780 + k) ((lpTO d i k) (624) (13 * i + k))) from rfl]; exact hW) (lv_sub hl [0, 1, 2, 3] rfl) (by rw [show lpTO d i (k + 1) = (up2 (lpTO d i k) (624) (780 + k) ((lpTO d i k) (624) (13 * i + k))) from rfl]; exact (show (up2 (lpTO d i k) (624) (780 + k) ((lpTO d i k) (624) (13 * i + k))) (600) (25) = nI z from ((up2_nc (by omega)).trans (f0_k))))
  exact L_2 (13 + 1) 0 (by omega) (by omega) _ _ _ hW (lv_sub hl [0, 1, 2, 3] rfl) (show d (600) (25) = nI z from (fz))
set_option maxHeartbeats 4000000 in
set_option maxRecDepth 100000 in
theorem c_M_forget (l : Launch) (G : GT) (hG : GOK G) (d : DD) (ld : Nat) (hld : ld < 2) : Met l y_Mo_forget (.code y_Mo_forget b_Mo_forget 3 none :: WS) { frames := 0, cells := 0, slots := 0, locals := 0 } (cPre G [.ref (gad G (600)), .int (nI ld)] d) (cQv G (fun u9 => u9 = m_fgt d ld)) 0 0 (gAb G) := by
  refine c_start (own := R_Mo) (by decide +kernel) rfl (Nat.le_of_ble_eq_true rfl) ?_
  intro p e zs zm below meth zc ls C hW hl
  obtain ⟨hx, hb, hr, hml, hown, hts, hlk, hE, hbs⟩ := C
  have hK := hE.1
  have hn3 := hG.1
  have hl : lv_has ls 3 [(0, .ref (gad G (600))), (1, .int (nI ld))] := hl
  refine lv_iconst (v := 0) hx hb d_Mo_forget_0 (by decide) ?_
  refine lv_istore_n (lv' := [(2, .int (0)), (0, .ref (gad G (600))), (1, .int (nI ld))]) hx hb d_Mo_forget_1 rfl hl (by decide) rfl (fun ls hl => ?_)
  have L_2 : ∀ (N t : Nat), t ≤ 8 → 8 + 1 ≤ t + N → ∀ (H : Heap) (locs : List Loc) (ls : Array Slot), WD G zs.heap (lpF1 d ld t) H locs → lv_has ls 3 [(2, .int (nI t)), (0, .ref (gad G (600))), (1, .int (nI ld))] → W p l e { frames := 0, cells := 0, slots := 0, locals := 0 } zs zm [.ref (gad G (600)), .int (nI ld)].toArray below meth zc H locs 0 0 (MQ below (cQv G (fun u9 => u9 = m_fgt d ld)) [.ref (gad G (600)), .int (nI ld)].toArray zs 0 0 (gAb G)) (F0 zm 2 ls []) := by
    intro N
    induction N with
    | zero => intro t h1 h2; exact absurd h2 (by omega)
    | succ N ih_t =>
      intro t hi_t hN_t H locs ls hW hl
      refine lv_iload_n hx hb d_Mo_forget_2 rfl (lv_at hl 0 rfl) ?_
      refine lv_bipush (v := 8) hx hb d_Mo_forget_3 (by decide) ?_
      refine lv_icmp_ge (tgt := 38) hx hb d_Mo_forget_5 (by decide) (fun c_1 => ?_) (fun c_1 => ?_)
      · skip
        have e_t : 8 = t := (lp_out rfl (by omega) hi_t c_1).symm
        subst e_t
        refine lv_bipush (v := 24) hx hb d_Mo_forget_38 (by decide) ?_
        refine lv_iload_n hx hb d_Mo_forget_40 rfl (lv_at hl 2 rfl) ?_
        refine lv_imul hx hb d_Mo_forget_41 ?_
        refine e_top (v := nI (24 * ld)) (pk_mul (24) (ld)) ?_
        refine lv_istore_n (lv' := [(2, .int (nI (24 * ld))), (0, .ref (gad G (600))), (1, .int (nI ld))]) hx hb d_Mo_forget_42 rfl hl (by decide) rfl (fun ls hl => ?_)
        have L_43 : ∀ (N m : Nat), m ≤ 24 → 24 + 1 ≤ m + N → ∀ (H : Heap) (locs : List Loc) (ls : Array Slot), WD G zs.heap (lpF2 (lpF1 d ld 8) ld m) H locs → lv_has ls 3 [(2, .int (nI (24 * ld + m))), (0, .ref (gad G (600))), (1, .int (nI ld))] → W p l e { frames := 0, cells := 0, slots := 0, locals := 0 } zs zm [.ref (gad G (600)), .int (nI ld)].toArray below meth zc H locs 0 0 (MQ below (cQv G (fun u9 => u9 = m_fgt d ld)) [.ref (gad G (600)), .int (nI ld)].toArray zs 0 0 (gAb G)) (F0 zm 43 ls []) := by
          intro N
          induction N with
          | zero => intro m h1 h2; exact absurd h2 (by omega)
          | succ N ih_m =>
            intro m hi_m hN_m H locs ls hW hl
            refine lv_iload_n hx hb d_Mo_forget_43 rfl (lv_at hl 0 rfl) ?_
            refine lv_bipush (v := 24) hx hb d_Mo_forget_44 (by decide) ?_
            refine lv_iload_n hx hb d_Mo_forget_46 rfl (lv_at hl 2 rfl) ?_
            refine lv_imul hx hb d_Mo_forget_47 ?_
            refine e_top (v := nI (24 * ld)) (pk_mul (24) (ld)) ?_
            refine lv_bipush (v := 24) hx hb d_Mo_forget_48 (by decide) ?_
            refine lv_iadd hx hb d_Mo_forget_50 ?_
            refine e_top (v := nI (24 * ld + 24)) (nI_add (24 * ld) (24)) ?_
            refine lv_icmp_ge (tgt := 67) hx hb d_Mo_forget_51 (by decide) (fun c_2 => ?_) (fun c_2 => ?_)
            · skip
              have e_m : 24 = m := by have := lp_out (k := 24 * ld + m) (B := 24 * ld + 24) rfl (by omega) (by omega) c_2; omega
              subst e_m
              refine lv_bipush (v := 72) hx hb d_Mo_forget_67 (by decide) ?_
              refine lv_iload_n hx hb d_Mo_forget_69 rfl (lv_at hl 2 rfl) ?_
              refine lv_imul hx hb d_Mo_forget_70 ?_
              refine e_top (v := nI (72 * ld)) (pk_mul (72) (ld)) ?_
              refine lv_istore_n (lv' := [(2, .int (nI (72 * ld))), (0, .ref (gad G (600))), (1, .int (nI ld))]) hx hb d_Mo_forget_71 rfl hl (by decide) rfl (fun ls hl => ?_)
              have L_72 : ∀ (N m : Nat), m ≤ 72 → 72 + 1 ≤ m + N → ∀ (H : Heap) (locs : List Loc) (ls : Array Slot), WD G zs.heap (lpF3 (lpF2 (lpF1 d ld 8) ld 24) ld m) H locs → lv_has ls 3 [(2, .int (nI (72 * ld + m))), (0, .ref (gad G (600))), (1, .int (nI ld))] → W p l e { frames := 0, cells := 0, slots := 0, locals := 0 } zs zm [.ref (gad G (600)), .int (nI ld)].toArray below meth zc H locs 0 0 (MQ below (cQv G (fun u9 => u9 = m_fgt d ld)) [.ref (gad G (600)), .int (nI ld)].toArray zs 0 0 (gAb G)) (F0 zm 72 ls []) := by
                intro N
                induction N with
                | zero => intro m h1 h2; exact absurd h2 (by omega)
                | succ N ih_m =>
                  intro m hi_m hN_m H locs ls hW hl
                  refine lv_iload_n hx hb d_Mo_forget_72 rfl (lv_at hl 0 rfl) ?_
                  refine lv_bipush (v := 72) hx hb d_Mo_forget_73 (by decide) ?_
                  refine lv_iload_n hx hb d_Mo_forget_75 rfl (lv_at hl 2 rfl) ?_
                  refine lv_imul hx hb d_Mo_forget_76 ?_
                  refine e_top (v := nI (72 * ld)) (pk_mul (72) (ld)) ?_
                  refine lv_bipush (v := 72) hx hb d_Mo_forget_77 (by decide) ?_
                  refine lv_iadd hx hb d_Mo_forget_79 ?_
                  refine e_top (v := nI (72 * ld + 72)) (nI_add (72 * ld) (72)) ?_
                  refine lv_icmp_ge (tgt := 96) hx hb d_Mo_forget_80 (by decide) (fun c_3 => ?_) (fun c_3 => ?_)
                  · skip
                    have e_m : 72 = m := by have := lp_out (k := 72 * ld + m) (B := 72 * ld + 72) rfl (by omega) (by omega) c_3; omega
                    subst e_m
                    exact e_vret hx hb hr hlk hW (by exact rfl) (Nat.zero_le _) (Nat.zero_le _) d_Mo_forget_96
                  · skip
                    have lt_m : m < 72 := by have := lp_in (k := 72 * ld + m) (B := 72 * ld + 72) rfl (by omega) (by omega) c_3; omega
                    refine lv_aload_n hx hb d_Mo_forget_83 rfl (lv_at hl 1 rfl) ?_
                    refine e_get (v := .ref (gad G (622))) hx hb hts hown hK hW (F_Mo G hG) i_Mo rfl 22 (by decide) (hts _ kw_424) (fun _ h => h) rfl d_Mo_forget_84 ?_
                    refine lv_iload_n hx hb d_Mo_forget_87 rfl (lv_at hl 0 rfl) ?_
                    refine lv_iconst (v := -1) hx hb d_Mo_forget_88 (by decide) ?_
                    refine e_iast hx hb hK hW (F_MlatestBallot G hG) (j := 72 * ld + m) (by omega) rfl d_Mo_forget_89 (fun H locs hW => ?_)
                    refine lv_iinc (v := nI (72 * ld + m + 1)) (lv' := [(2, .int (nI (72 * ld + m + 1))), (0, .ref (gad G (600))), (1, .int (nI ld))]) hx hb d_Mo_forget_90 hl (k := 0) rfl (nI_1 (72 * ld + m)) (by decide) rfl (fun ls hl => ?_)
                    refine lv_goto (tgt := 72) hx hb d_Mo_forget_93 (by decide) ?_
                    exact ih_m (m + 1) (by omega) (by omega) _ _ _ (by rw [show lpF3 (lpF2 (lpF1 d ld 8) ld 24) ld (m + 1) = (up2 (lpF3 (lpF2 (lpF1 d ld 8) ld 24) ld m) (622) (72 * ld + m) (-1)) from rfl]; exact hW) (by rw [show nI (72 * ld + (m + 1)) = nI (72 * ld + m + 1) from rfl]; exact lv_sub hl [0, 1, 2] rfl)
              exact L_72 (72 + 1) 0 (by omega) (by omega) _ _ _ hW (lv_sub hl [0, 1, 2] rfl)
            · skip
              have lt_m : m < 24 := by have := lp_in (k := 24 * ld + m) (B := 24 * ld + 24) rfl (by omega) (by omega) c_2; omega
              refine lv_aload_n hx hb d_Mo_forget_54 rfl (lv_at hl 1 rfl) ?_
              refine e_get (v := .ref (gad G (619))) hx hb hts hown hK hW (F_Mo G hG) i_Mo rfl 19 (by decide) (hts _ kw_416) (fun _ h => h) rfl d_Mo_forget_55 ?_
              refine lv_iload_n hx hb d_Mo_forget_58 rfl (lv_at hl 0 rfl) ?_
              refine lv_iconst (v := 0) hx hb d_Mo_forget_59 (by decide) ?_
              refine e_zast hx hb hK hW (F_Mreplied G hG) (j := 24 * ld + m) (by omega) rfl (by decide) d_Mo_forget_60 (fun H locs hW => ?_)
              refine lv_iinc (v := nI (24 * ld + m + 1)) (lv' := [(2, .int (nI (24 * ld + m + 1))), (0, .ref (gad G (600))), (1, .int (nI ld))]) hx hb d_Mo_forget_61 hl (k := 0) rfl (nI_1 (24 * ld + m)) (by decide) rfl (fun ls hl => ?_)
              refine lv_goto (tgt := 43) hx hb d_Mo_forget_64 (by decide) ?_
              exact ih_m (m + 1) (by omega) (by omega) _ _ _ (by rw [show lpF2 (lpF1 d ld 8) ld (m + 1) = (up2 (lpF2 (lpF1 d ld 8) ld m) (619) (24 * ld + m) (0)) from rfl]; exact hW) (by rw [show nI (24 * ld + (m + 1)) = nI (24 * ld + m + 1) from rfl]; exact lv_sub hl [0, 1, 2] rfl)
        exact L_43 (24 + 1) 0 (by omega) (by omega) _ _ _ hW (lv_sub hl [0, 1, 2] rfl)
      · skip
        have lt_t : t < 8 := lp_in rfl (by omega) hi_t c_1
        refine lv_aload_n hx hb d_Mo_forget_8 rfl (lv_at hl 1 rfl) ?_
        refine e_get (v := .ref (gad G (617))) hx hb hts hown hK hW (F_Mo G hG) i_Mo rfl 17 (by decide) (hts _ kw_445) (fun _ h => h) rfl d_Mo_forget_9 ?_
        refine lv_bipush (v := 8) hx hb d_Mo_forget_12 (by decide) ?_
        refine lv_iload_n hx hb d_Mo_forget_14 rfl (lv_at hl 2 rfl) ?_
        refine lv_imul hx hb d_Mo_forget_15 ?_
        refine e_top (v := nI (8 * ld)) (pk_mul (8) (ld)) ?_
        refine lv_iload_n hx hb d_Mo_forget_16 rfl (lv_at hl 0 rfl) ?_
        refine lv_iadd hx hb d_Mo_forget_17 ?_
        refine e_top (v := nI (8 * ld + t)) (nI_add (8 * ld) (t)) ?_
        refine lv_iconst (v := 1) hx hb d_Mo_forget_18 (by decide) ?_
        refine e_zast hx hb hK hW (F_Mproposed G hG) (j := 8 * ld + t) (by omega) rfl (by decide) d_Mo_forget_19 (fun H locs hW => ?_)
        refine lv_aload_n hx hb d_Mo_forget_20 rfl (lv_at hl 1 rfl) ?_
        refine e_get (v := .ref (gad G (618))) hx hb hts hown hK hW (F_Mo G hG) i_Mo rfl 18 (by decide) (hts _ kw_450) (fun _ h => h) rfl d_Mo_forget_21 ?_
        refine lv_bipush (v := 8) hx hb d_Mo_forget_24 (by decide) ?_
        refine lv_iload_n hx hb d_Mo_forget_26 rfl (lv_at hl 2 rfl) ?_
        refine lv_imul hx hb d_Mo_forget_27 ?_
        refine e_top (v := nI (8 * ld)) (pk_mul (8) (ld)) ?_
        refine lv_iload_n hx hb d_Mo_forget_28 rfl (lv_at hl 0 rfl) ?_
        refine lv_iadd hx hb d_Mo_forget_29 ?_
        refine e_top (v := nI (8 * ld + t)) (nI_add (8 * ld) (t)) ?_
        refine lv_iconst (v := -1) hx hb d_Mo_forget_30 (by decide) ?_
        refine e_iast hx hb hK hW (F_Mknown G hG) (j := 8 * ld + t) (by omega) rfl d_Mo_forget_31 (fun H locs hW => ?_)
        refine lv_iinc (v := nI (t + 1)) (lv' := [(2, .int (nI (t + 1))), (0, .ref (gad G (600))), (1, .int (nI ld))]) hx hb d_Mo_forget_32 hl (k := 0) rfl (nI_1 (t)) (by decide) rfl (fun ls hl => ?_)
        refine lv_goto (tgt := 2) hx hb d_Mo_forget_35 (by decide) ?_
        exact ih_t (t + 1) (by omega) (by omega) _ _ _ (by rw [show lpF1 d ld (t + 1) = (up2 (up2 (lpF1 d ld t) (617) (8 * ld + t) (1)) (618) (8 * ld + t) (-1)) from rfl]; exact hW) (lv_sub hl [0, 1, 2] rfl)
  exact L_2 (8 + 1) 0 (by omega) (by omega) _ _ _ hW (lv_sub hl [0, 1, 2] rfl)
