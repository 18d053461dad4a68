theorem kw_210 : .fieldLink R_PC 28 "PaxosCommit" "net" "LPaxosCommit$Net;" ∈ WS := List.mem_filter.mpr ⟨List.mem_append_right _ (List.mem_of_getElem? (i := 187) (by decide +kernel)), by decide +kernel⟩
theorem kw_211 : .code y_Net_compose b_Net_compose 3 (some (.object "PaxosCommit$Message")) ∈ WS := List.mem_filter.mpr ⟨List.mem_append_right _ (List.mem_of_getElem? (i := 407) (by decide +kernel)), by decide +kernel⟩
theorem kw_212 : .initialized R_Net ∈ WS := List.mem_filter.mpr ⟨List.mem_append_right _ (List.mem_of_getElem? (i := 2) (by decide +kernel)), by decide +kernel⟩
theorem kw_213 : .methodLink R_PC 325 y_Net_compose ∈ WS := List.mem_filter.mpr ⟨List.mem_append_right _ (List.mem_of_getElem? (i := 404) (by decide +kernel)), by decide +kernel⟩
theorem kw_214 : .instanceMethod y_Net_compose ∈ WS := List.mem_filter.mpr ⟨List.mem_append_right _ (List.mem_of_getElem? (i := 405) (by decide +kernel)), by decide +kernel⟩
theorem kw_215 : .selects R_Net y_Net_compose y_Net_compose ∈ WS := List.mem_filter.mpr ⟨List.mem_append_right _ (List.mem_of_getElem? (i := 406) (by decide +kernel)), by decide +kernel⟩
theorem kw_216 : .code y_Net_send b_Net_send 2 none ∈ WS := List.mem_filter.mpr ⟨List.mem_append_right _ (List.mem_of_getElem? (i := 416) (by decide +kernel)), by decide +kernel⟩
theorem kw_217 : .methodLink R_PC 329 y_Net_send ∈ WS := List.mem_filter.mpr ⟨List.mem_append_right _ (List.mem_of_getElem? (i := 413) (by decide +kernel)), by decide +kernel⟩
theorem kw_218 : .instanceMethod y_Net_send ∈ WS := List.mem_filter.mpr ⟨List.mem_append_right _ (List.mem_of_getElem? (i := 414) (by decide +kernel)), by decide +kernel⟩
theorem kw_219 : .selects R_Net y_Net_send y_Net_send ∈ WS := List.mem_filter.mpr ⟨List.mem_append_right _ (List.mem_of_getElem? (i := 415) (by decide +kernel)), by decide +kernel⟩
theorem hd_Net_compose : y_Net_compose.cls ≠ "java/lang/invoke/MethodHandle" ∧ y_Net_compose.cls ≠ "java/lang/invoke/VarHandle" ∧ (parseMethodDescriptor y_Net_compose.desc).map (fun d => d.parameters.length) = some 2 := by decide +kernel
theorem hd_Net_send : y_Net_send.cls ≠ "java/lang/invoke/MethodHandle" ∧ y_Net_send.cls ≠ "java/lang/invoke/VarHandle" ∧ (parseMethodDescriptor y_Net_send.desc).map (fun d => d.parameters.length) = some 1 := by decide +kernel
set_option maxHeartbeats 4000000 in
set_option maxRecDepth 100000 in
theorem c_sendToStore (l : Launch) (G : GT) (hG : GOK G) (d : DD) (kd t s v : Int32) (hN : NetOK d) : Met l y_PC_sendToStore (.code y_PC_sendToStore b_PC_sendToStore 6 none :: WS) { frames := 3, cells := 0, slots := 0, locals := 82 } (cPre G [.ref (gad G (0)), .int (kd), .int (t), .int (s), .int (v)] d) (cQv G (fun u9 => u9 = f_sts d kd t s v)) 0 0 (gAb G) := by
  refine c_start (own := R_PC) (by decide +kernel) rfl (Nat.le_of_ble_eq_true rfl) ?_
  intro p e zs zm below meth zc ls C hW hl
  obtain ⟨hx, hb, hr, hml, hown, hts, hlk, hE, hbs⟩ := C
  have hK := hE.1
  have hn3 := hG.1
  have hl : lv_has ls 6 [(0, .ref (gad G (0))), (1, .int (kd)), (2, .int (t)), (3, .int (s)), (4, .int (v))] := hl
  refine lv_aload_n hx hb d_PC_sendToStore_0 rfl (lv_at hl 0 rfl) ?_
  refine e_get (v := .ref (gad G (5))) hx hb hts hown hK hW (F_PC G hG) i_PC rfl 5 (by decide) (hts _ kw_210) (fun _ h => h) rfl d_PC_sendToStore_1 ?_
  refine lv_iload_n hx hb d_PC_sendToStore_4 rfl (lv_at hl 1 rfl) ?_
  refine lv_iload_n hx hb d_PC_sendToStore_5 rfl (lv_at hl 2 rfl) ?_
  refine e_cr (e_runV hx hb hml hown hts hE hbs hW (F_Net G hG) rfl (c_Net_compose l G hG d (kd) (t)) kw_213 kw_214 kw_215 kw_212 kw_211 rfl rfl hd_Net_compose ⟨Nat.le_of_ble_eq_true rfl, Nat.le_of_ble_eq_true rfl⟩ (As := [.int (kd), .int (t)]) (rest := []) rfl hl.1 rfl (Nat.le_of_ble_eq_true rfl) d_PC_sendToStore_6 ⟨Nat.le_of_ble_eq_true rfl, Nat.le_of_ble_eq_true rfl⟩) hW (fun cn d' H locs hp hW => ?_)
  obtain ⟨hp1, hp2⟩ := hp
  have hp1 := hp1.symm; subst hp1
  have hp2 := hp2.symm; subst hp2
  refine lv_astore (lv' := [(5, .ref (gad G (60 + 420))), (0, .ref (gad G (0))), (1, .int (kd)), (2, .int (t)), (3, .int (s)), (4, .int (v))]) hx hb d_PC_sendToStore_9 hl (by decide) rfl (fun ls hl => ?_)
  refine lv_aload hx hb d_PC_sendToStore_11 (lv_at hl 0 rfl) ?_
  refine lv_iload_n hx hb d_PC_sendToStore_13 rfl (lv_at hl 4 rfl) ?_
  refine e_putN hx hb hts hown hK hW (F_Msg (i0 := 60) G hG (by decide)) i_Msg t_Msg t_Msg_ok n_Msg rfl 2 (by decide) (nf_2 hE) (fun _ h => h) rfl (by decide +kernel) (fun _ => rfl) (fun _ => rfl) d_PC_sendToStore_14 (fun H locs hW => ?_)
  refine lv_aload hx hb d_PC_sendToStore_17 (lv_at hl 0 rfl) ?_
  refine lv_iload hx hb d_PC_sendToStore_19 (lv_at hl 5 rfl) ?_
  refine e_putN hx hb hts hown hK hW (F_Msg (i0 := 60) G hG (by decide)) i_Msg t_Msg t_Msg_ok n_Msg rfl 6 (by decide) (nf_6 hE) (fun _ h => h) rfl (by decide +kernel) (fun _ => rfl) (fun _ => rfl) d_PC_sendToStore_21 (fun H locs hW => ?_)
  refine lv_aload_n hx hb d_PC_sendToStore_24 rfl (lv_at hl 1 rfl) ?_
  refine e_get (v := .ref (gad G (5))) hx hb hts hown hK hW (F_PC G hG) i_PC rfl 5 (by decide) (hts _ kw_210) (fun _ h => h) rfl d_PC_sendToStore_25 ?_
  refine lv_aload hx hb d_PC_sendToStore_28 (lv_at hl 0 rfl) ?_
  refine e_cv (e_runV hx hb hml hown hts hE hbs hW (F_Net G hG) rfl (c_Net_send l G hG (up2 (up2 (f_clear d 60 (kd) (t)) (60 + 420) (2) (s)) (60 + 420) (6) (v)) (NetOK_keep (NetOK_keep hN (f_clear_off (by omega) (by omega)) (f_clear_off (by omega) (by omega))) ((up2_off (by omega)).trans (up2_off (by omega))) ((up2_off (by omega)).trans (up2_off (by omega))))) kw_217 kw_218 kw_219 kw_212 kw_216 rfl rfl hd_Net_send ⟨Nat.le_of_ble_eq_true rfl, Nat.le_of_ble_eq_true rfl⟩ (As := [.ref (gad G (60 + 420))]) (rest := []) rfl hl.1 rfl (Nat.le_of_ble_eq_true rfl) d_PC_sendToStore_30 ⟨Nat.le_of_ble_eq_true rfl, Nat.le_of_ble_eq_true rfl⟩) hW (fun d' H locs hp hW => ?_)
  have hp := hp.symm; subst hp
  exact e_vret hx hb hr hlk hW (by exact rfl) (Nat.zero_le _) (Nat.zero_le _) d_PC_sendToStore_33
