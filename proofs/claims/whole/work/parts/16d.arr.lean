theorem kw_286 : .fieldLink R_PC 21 "PaxosCommit" "upSets" "[I" ∈ WS := List.mem_filter.mpr ⟨List.mem_append_right _ (List.mem_of_getElem? (i := 186) (by decide +kernel)), by decide +kernel⟩
theorem kw_287 : .methodLink R_PC 233 y_Msg_receiverKind ∈ WS := List.mem_filter.mpr ⟨List.mem_append_right _ (List.mem_of_getElem? (i := 512) (by decide +kernel)), by decide +kernel⟩
theorem kw_288 : .code y_Msg_receiver b_Msg_receiver 1 (some .int) ∈ WS := List.mem_filter.mpr ⟨List.mem_append_right _ (List.mem_of_getElem? (i := 519) (by decide +kernel)), by decide +kernel⟩
theorem kw_289 : .methodLink R_PC 236 y_Msg_receiver ∈ WS := List.mem_filter.mpr ⟨List.mem_append_right _ (List.mem_of_getElem? (i := 516) (by decide +kernel)), by decide +kernel⟩
theorem kw_290 : .instanceMethod y_Msg_receiver ∈ WS := List.mem_filter.mpr ⟨List.mem_append_right _ (List.mem_of_getElem? (i := 517) (by decide +kernel)), by decide +kernel⟩
theorem kw_291 : .selects R_Msg y_Msg_receiver y_Msg_receiver ∈ WS := List.mem_filter.mpr ⟨List.mem_append_right _ (List.mem_of_getElem? (i := 518) (by decide +kernel)), by decide +kernel⟩
theorem kw_292 : .code y_PC_arrivePrepare b_PC_arrivePrepare 4 none ∈ WS := List.mem_filter.mpr ⟨List.mem_append_right _ (List.mem_of_getElem? (i := 524) (by decide +kernel)), by decide +kernel⟩
theorem kw_293 : .methodLink R_PC 242 y_PC_arrivePrepare ∈ WS := List.mem_filter.mpr ⟨List.mem_append_right _ (List.mem_of_getElem? (i := 521) (by decide +kernel)), by decide +kernel⟩
theorem kw_294 : .instanceMethod y_PC_arrivePrepare ∈ WS := List.mem_filter.mpr ⟨List.mem_append_right _ (List.mem_of_getElem? (i := 523) (by decide +kernel)), by decide +kernel⟩
theorem kw_295 : .selects R_PC y_PC_arrivePrepare y_PC_arrivePrepare ∈ WS := List.mem_filter.mpr ⟨List.mem_append_left _ (List.mem_of_getElem? (i := 9) (by decide +kernel)), by decide +kernel⟩
theorem kw_296 : .code y_PC_arriveAsk b_PC_arriveAsk 4 none ∈ WS := List.mem_filter.mpr ⟨List.mem_append_right _ (List.mem_of_getElem? (i := 528) (by decide +kernel)), by decide +kernel⟩
theorem kw_297 : .methodLink R_PC 245 y_PC_arriveAsk ∈ WS := List.mem_filter.mpr ⟨List.mem_append_right _ (List.mem_of_getElem? (i := 525) (by decide +kernel)), by decide +kernel⟩
theorem kw_298 : .instanceMethod y_PC_arriveAsk ∈ WS := List.mem_filter.mpr ⟨List.mem_append_right _ (List.mem_of_getElem? (i := 527) (by decide +kernel)), by decide +kernel⟩
theorem kw_299 : .selects R_PC y_PC_arriveAsk y_PC_arriveAsk ∈ WS := List.mem_filter.mpr ⟨List.mem_append_left _ (List.mem_of_getElem? (i := 10) (by decide +kernel)), by decide +kernel⟩
theorem kw_300 : .code y_PC_arriveReply b_PC_arriveReply 4 none ∈ WS := List.mem_filter.mpr ⟨List.mem_append_right _ (List.mem_of_getElem? (i := 546) (by decide +kernel)), by decide +kernel⟩
theorem kw_301 : .methodLink R_PC 248 y_PC_arriveReply ∈ WS := List.mem_filter.mpr ⟨List.mem_append_right _ (List.mem_of_getElem? (i := 543) (by decide +kernel)), by decide +kernel⟩
theorem kw_302 : .instanceMethod y_PC_arriveReply ∈ WS := List.mem_filter.mpr ⟨List.mem_append_right _ (List.mem_of_getElem? (i := 545) (by decide +kernel)), by decide +kernel⟩
theorem kw_303 : .selects R_PC y_PC_arriveReply y_PC_arriveReply ∈ WS := List.mem_filter.mpr ⟨List.mem_append_left _ (List.mem_of_getElem? (i := 12) (by decide +kernel)), by decide +kernel⟩
theorem kw_304 : .code y_PC_arriveVote b_PC_arriveVote 4 none ∈ WS := List.mem_filter.mpr ⟨List.mem_append_right _ (List.mem_of_getElem? (i := 568) (by decide +kernel)), by decide +kernel⟩
theorem kw_305 : .methodLink R_PC 251 y_PC_arriveVote ∈ WS := List.mem_filter.mpr ⟨List.mem_append_right _ (List.mem_of_getElem? (i := 565) (by decide +kernel)), by decide +kernel⟩
theorem kw_306 : .instanceMethod y_PC_arriveVote ∈ WS := List.mem_filter.mpr ⟨List.mem_append_right _ (List.mem_of_getElem? (i := 567) (by decide +kernel)), by decide +kernel⟩
theorem kw_307 : .selects R_PC y_PC_arriveVote y_PC_arriveVote ∈ WS := List.mem_filter.mpr ⟨List.mem_append_left _ (List.mem_of_getElem? (i := 13) (by decide +kernel)), by decide +kernel⟩
theorem kw_308 : .code y_PC_arriveTold b_PC_arriveTold 3 none ∈ WS := List.mem_filter.mpr ⟨List.mem_append_right _ (List.mem_of_getElem? (i := 583) (by decide +kernel)), by decide +kernel⟩
theorem kw_309 : .methodLink R_PC 254 y_PC_arriveTold ∈ WS := List.mem_filter.mpr ⟨List.mem_append_right _ (List.mem_of_getElem? (i := 580) (by decide +kernel)), by decide +kernel⟩
theorem kw_310 : .instanceMethod y_PC_arriveTold ∈ WS := List.mem_filter.mpr ⟨List.mem_append_right _ (List.mem_of_getElem? (i := 582) (by decide +kernel)), by decide +kernel⟩
theorem kw_311 : .selects R_PC y_PC_arriveTold y_PC_arriveTold ∈ WS := List.mem_filter.mpr ⟨List.mem_append_left _ (List.mem_of_getElem? (i := 15) (by decide +kernel)), by decide +kernel⟩
theorem kw_312 : .code y_PC_arriveOutcome b_PC_arriveOutcome 5 none ∈ WS := List.mem_filter.mpr ⟨List.mem_append_right _ (List.mem_of_getElem? (i := 605) (by decide +kernel)), by decide +kernel⟩
theorem kw_313 : .methodLink R_PC 257 y_PC_arriveOutcome ∈ WS := List.mem_filter.mpr ⟨List.mem_append_right _ (List.mem_of_getElem? (i := 602) (by decide +kernel)), by decide +kernel⟩
theorem kw_314 : .instanceMethod y_PC_arriveOutcome ∈ WS := List.mem_filter.mpr ⟨List.mem_append_right _ (List.mem_of_getElem? (i := 604) (by decide +kernel)), by decide +kernel⟩
theorem kw_315 : .selects R_PC y_PC_arriveOutcome y_PC_arriveOutcome ∈ WS := List.mem_filter.mpr ⟨List.mem_append_left _ (List.mem_of_getElem? (i := 17) (by decide +kernel)), by decide +kernel⟩
theorem hd_Msg_receiver : y_Msg_receiver.cls ≠ "java/lang/invoke/MethodHandle" ∧ y_Msg_receiver.cls ≠ "java/lang/invoke/VarHandle" ∧ (parseMethodDescriptor y_Msg_receiver.desc).map (fun d => d.parameters.length) = some 0 := by decide +kernel
theorem hd_PC_arrivePrepare : y_PC_arrivePrepare.cls ≠ "java/lang/invoke/MethodHandle" ∧ y_PC_arrivePrepare.cls ≠ "java/lang/invoke/VarHandle" ∧ (parseMethodDescriptor y_PC_arrivePrepare.desc).map (fun d => d.parameters.length) = some 1 := by decide +kernel
theorem hd_PC_arriveAsk : y_PC_arriveAsk.cls ≠ "java/lang/invoke/MethodHandle" ∧ y_PC_arriveAsk.cls ≠ "java/lang/invoke/VarHandle" ∧ (parseMethodDescriptor y_PC_arriveAsk.desc).map (fun d => d.parameters.length) = some 1 := by decide +kernel
theorem hd_PC_arriveReply : y_PC_arriveReply.cls ≠ "java/lang/invoke/MethodHandle" ∧ y_PC_arriveReply.cls ≠ "java/lang/invoke/VarHandle" ∧ (parseMethodDescriptor y_PC_arriveReply.desc).map (fun d => d.parameters.length) = some 1 := by decide +kernel
theorem hd_PC_arriveVote : y_PC_arriveVote.cls ≠ "java/lang/invoke/MethodHandle" ∧ y_PC_arriveVote.cls ≠ "java/lang/invoke/VarHandle" ∧ (parseMethodDescriptor y_PC_arriveVote.desc).map (fun d => d.parameters.length) = some 1 := by decide +kernel
theorem hd_PC_arriveTold : y_PC_arriveTold.cls ≠ "java/lang/invoke/MethodHandle" ∧ y_PC_arriveTold.cls ≠ "java/lang/invoke/VarHandle" ∧ (parseMethodDescriptor y_PC_arriveTold.desc).map (fun d => d.parameters.length) = some 1 := by decide +kernel
theorem hd_PC_arriveOutcome : y_PC_arriveOutcome.cls ≠ "java/lang/invoke/MethodHandle" ∧ y_PC_arriveOutcome.cls ≠ "java/lang/invoke/VarHandle" ∧ (parseMethodDescriptor y_PC_arriveOutcome.desc).map (fun d => d.parameters.length) = some 1 := by decide +kernel
set_option maxHeartbeats 4000000 in
set_option maxRecDepth 100000 in
theorem c_arrive0 (l : Launch) (G : GT) (hG : GOK G) (d : DD) (s t : Nat) (hs : s < 3) (ht : t < 8) (hN : NetOK d) (f1 : d 481 1 = nI t) (f2 : d 481 2 = nI s) (fk : d 481 0 = 0) : Met l y_PC_arrive (.code y_PC_arrive b_PC_arrive 2 none :: WS) { frames := 9, cells := 0, slots := 0, locals := 320 } (cPre G [.ref (gad G (0)), .ref (gad G (61 + 420))] d) (cQv G (fun u9 => u9 = if hasI (d 4 0) s = 0 then d else f_arrP d (gn G) s t)) 0 0 (gAb G) := by
  refine c_start (own := R_PC) (by decide +kernel) rfl (Nat.le_of_ble_eq_true rfl) ?_
  intro p e zs zm below meth zc ls C hW hl
  obtain ⟨hx, hb, hr, hml, hown, hts, hlk, hE, hbs⟩ := C
  have hK := hE.1
  have hn3 := hG.1
  have hl : lv_has ls 2 [(0, .ref (gad G (0))), (1, .ref (gad G (61 + 420)))] := hl
  refine lv_aload_n hx hb d_PC_arrive_0 rfl (lv_at hl 0 rfl) ?_
  refine e_get (v := .ref (gad G (4))) hx hb hts hown hK hW (F_PC G hG) i_PC rfl 4 (by decide) (hts _ kw_286) (fun _ h => h) rfl d_PC_arrive_1 ?_
  refine lv_aload_n hx hb d_PC_arrive_4 rfl (lv_at hl 1 rfl) ?_
  refine e_ci (e_runV hx hb hml hown hts hE hbs hW (F_Msg (i0 := 61) G hG (by decide)) rfl (c_Msg_rk l G hG d 61 (by decide)) kw_287 kw_193 kw_194 kw_115 kw_191 rfl rfl hd_Msg_receiverKind ⟨Nat.le_of_ble_eq_true rfl, Nat.le_of_ble_eq_true rfl⟩ (As := []) (rest := [.ref (gad G (4))]) rfl hl.1 rfl (Nat.le_of_ble_eq_true rfl) d_PC_arrive_5 ⟨Nat.le_of_ble_eq_true rfl, Nat.le_of_ble_eq_true rfl⟩) hW (fun r d' H locs hp hW => ?_)
  obtain ⟨hp1, hp2⟩ := hp
  have hp1 := hp1.symm; subst hp1
  have hp2 := hp2.symm; subst hp2
  refine e_top (v := 0) (by rw [show d (61 + 420) 0 = 0 from fk]; decide) ?_
  refine e_iald hx hb hK hW (F_UpS G hG) (j := 0) (by decide) (x := d (4) (0)) (rfl) rfl d_PC_arrive_8 ?_
  refine lv_aload_n hx hb d_PC_arrive_9 rfl (lv_at hl 1 rfl) ?_
  refine e_ci (e_runV hx hb hml hown hts hE hbs hW (F_Msg (i0 := 61) G hG (by decide)) rfl (c_Msg_rcv l G hG d 61 (by decide)) kw_289 kw_290 kw_291 kw_115 kw_288 rfl rfl hd_Msg_receiver ⟨Nat.le_of_ble_eq_true rfl, Nat.le_of_ble_eq_true rfl⟩ (As := []) (rest := [.int (d (4) (0))]) rfl hl.1 rfl (Nat.le_of_ble_eq_true rfl) d_PC_arrive_10 ⟨Nat.le_of_ble_eq_true rfl, Nat.le_of_ble_eq_true rfl⟩) hW (fun r d' H locs hp hW => ?_)
  obtain ⟨hp1, hp2⟩ := hp
  have hp1 := hp1.symm; subst hp1
  have hp2 := hp2.symm; subst hp2
  refine e_top (v := nI s) (by unfold rcvI; rw [show d (61 + 420) 0 = 0 from fk, if_pos (by decide)]; exact f2) ?_
  refine e_ci (e_runS hx hb hml hown hts hE hbs hW (c_has l G hG d s (d (4) (0))) kw_221 kw_142 kw_104 kw_141 rfl rfl hd_PC_has ⟨Nat.le_of_ble_eq_true rfl, Nat.le_of_ble_eq_true rfl⟩ (As := [.int (d (4) (0)), .int (nI s)]) (rest := []) rfl hl.1 rfl (Nat.le_of_ble_eq_true rfl) d_PC_arrive_13 ⟨Nat.le_of_ble_eq_true rfl, Nat.le_of_ble_eq_true rfl⟩) hW (fun r d' H locs hp hW => ?_)
  obtain ⟨hp1, hp2⟩ := hp
  have hp1 := hp1.symm; subst hp1
  have hp2 := hp2.symm; subst hp2
  refine lv_if_ne (tgt := 20) hx hb d_PC_arrive_16 (by decide) (fun c_1 => ?_) (fun c_1 => ?_)
  · skip
    refine lv_aload_n hx hb d_PC_arrive_20 rfl (lv_at hl 1 rfl) ?_
    refine e_getN (v := .int (d (61 + 420) (0))) hx hb hts hown hK hW (F_Msg (i0 := 61) G hG (by decide)) i_Msg rfl 0 (by decide) (nf_0 hE) (fun _ h => h) rfl d_PC_arrive_21 ?_
    refine e_top (v := 0) (fk) ?_
    refine lv_tableIn (off := 36) (tgt := 60) hx hb d_PC_arrive_24 (by decide) (by decide) (by decide) (by decide) ?_
    refine lv_aload_n hx hb d_PC_arrive_60 rfl (lv_at hl 0 rfl) ?_
    refine lv_aload_n hx hb d_PC_arrive_61 rfl (lv_at hl 1 rfl) ?_
    refine e_cv (e_runV hx hb hml hown hts hE hbs hW (F_PC G hG) rfl (c_arrivePrepare l G hG d s t hs ht hN (f1) (f2)) kw_293 kw_294 kw_295 kw_104 kw_292 rfl rfl hd_PC_arrivePrepare ⟨Nat.le_of_ble_eq_true rfl, Nat.le_of_ble_eq_true rfl⟩ (As := [.ref (gad G (61 + 420))]) (rest := []) rfl hl.1 rfl (Nat.le_of_ble_eq_true rfl) d_PC_arrive_62 ⟨Nat.le_of_ble_eq_true rfl, Nat.le_of_ble_eq_true rfl⟩) hW (fun d' H locs hp hW => ?_)
    have hp := hp.symm; subst hp
    refine lv_goto (tgt := 105) hx hb d_PC_arrive_65 (by decide) ?_
    exact e_vret hx hb hr hlk hW (by rw [if_neg c_1]) (Nat.zero_le _) (Nat.zero_le _) d_PC_arrive_105
  · skip
    exact e_vret hx hb hr hlk hW (by rw [if_pos c_1]) (Nat.zero_le _) (Nat.zero_le _) d_PC_arrive_19
set_option maxHeartbeats 4000000 in
set_option maxRecDepth 100000 in
theorem c_arrive1 (l : Launch) (G : GT) (hG : GOK G) (d : DD) (a t : Nat) (ha : a < gn G) (ht : t < 8) (b : Int32) (hN : NetOK d) (f1 : d 481 1 = nI t) (f3 : d 481 3 = nI a) (f5 : d 481 5 = b) (fk : d 481 0 = 1) : Met l y_PC_arrive (.code y_PC_arrive b_PC_arrive 2 none :: WS) { frames := 9, cells := 0, slots := 0, locals := 320 } (cPre G [.ref (gad G (0)), .ref (gad G (61 + 420))] d) (cQv G (fun u9 => u9 = if hasI (d 4 1) a = 0 then d else f_arrA d a t b)) 0 0 (gAb G) := by
  refine c_start (own := R_PC) (by decide +kernel) rfl (Nat.le_of_ble_eq_true rfl) ?_
  intro p e zs zm below meth zc ls C hW hl
  obtain ⟨hx, hb, hr, hml, hown, hts, hlk, hE, hbs⟩ := C
  have hK := hE.1
  have hn3 := hG.1
  have hl : lv_has ls 2 [(0, .ref (gad G (0))), (1, .ref (gad G (61 + 420)))] := hl
  refine lv_aload_n hx hb d_PC_arrive_0 rfl (lv_at hl 0 rfl) ?_
  refine e_get (v := .ref (gad G (4))) hx hb hts hown hK hW (F_PC G hG) i_PC rfl 4 (by decide) (hts _ kw_286) (fun _ h => h) rfl d_PC_arrive_1 ?_
  refine lv_aload_n hx hb d_PC_arrive_4 rfl (lv_at hl 1 rfl) ?_
  refine e_ci (e_runV hx hb hml hown hts hE hbs hW (F_Msg (i0 := 61) G hG (by decide)) rfl (c_Msg_rk l G hG d 61 (by decide)) kw_287 kw_193 kw_194 kw_115 kw_191 rfl rfl hd_Msg_receiverKind ⟨Nat.le_of_ble_eq_true rfl, Nat.le_of_ble_eq_true rfl⟩ (As := []) (rest := [.ref (gad G (4))]) rfl hl.1 rfl (Nat.le_of_ble_eq_true rfl) d_PC_arrive_5 ⟨Nat.le_of_ble_eq_true rfl, Nat.le_of_ble_eq_true rfl⟩) hW (fun r d' H locs hp hW => ?_)
  obtain ⟨hp1, hp2⟩ := hp
  have hp1 := hp1.symm; subst hp1
  have hp2 := hp2.symm; subst hp2
  refine e_top (v := 1) (by rw [show d (61 + 420) 0 = 1 from fk]; decide) ?_
  refine e_iald hx hb hK hW (F_UpS G hG) (j := 1) (by decide) (x := d (4) (1)) (rfl) rfl d_PC_arrive_8 ?_
  refine lv_aload_n hx hb d_PC_arrive_9 rfl (lv_at hl 1 rfl) ?_
  refine e_ci (e_runV hx hb hml hown hts hE hbs hW (F_Msg (i0 := 61) G hG (by decide)) rfl (c_Msg_rcv l G hG d 61 (by decide)) kw_289 kw_290 kw_291 kw_115 kw_288 rfl rfl hd_Msg_receiver ⟨Nat.le_of_ble_eq_true rfl, Nat.le_of_ble_eq_true rfl⟩ (As := []) (rest := [.int (d (4) (1))]) rfl hl.1 rfl (Nat.le_of_ble_eq_true rfl) d_PC_arrive_10 ⟨Nat.le_of_ble_eq_true rfl, Nat.le_of_ble_eq_true rfl⟩) hW (fun r d' H locs hp hW => ?_)
  obtain ⟨hp1, hp2⟩ := hp
  have hp1 := hp1.symm; subst hp1
  have hp2 := hp2.symm; subst hp2
  refine e_top (v := nI a) (by unfold rcvI; rw [show d (61 + 420) 0 = 1 from fk, if_neg (by decide), if_pos (by decide)]; exact f3) ?_
  refine e_ci (e_runS hx hb hml hown hts hE hbs hW (c_has l G hG d a (d (4) (1))) kw_221 kw_142 kw_104 kw_141 rfl rfl hd_PC_has ⟨Nat.le_of_ble_eq_true rfl, Nat.le_of_ble_eq_true rfl⟩ (As := [.int (d (4) (1)), .int (nI a)]) (rest := []) rfl hl.1 rfl (Nat.le_of_ble_eq_true rfl) d_PC_arrive_13 ⟨Nat.le_of_ble_eq_true rfl, Nat.le_of_ble_eq_true rfl⟩) hW (fun r d' H locs hp hW => ?_)
  obtain ⟨hp1, hp2⟩ := hp
  have hp1 := hp1.symm; subst hp1
  have hp2 := hp2.symm; subst hp2
  refine lv_if_ne (tgt := 20) hx hb d_PC_arrive_16 (by decide) (fun c_1 => ?_) (fun c_1 => ?_)
  · skip
    refine lv_aload_n hx hb d_PC_arrive_20 rfl (lv_at hl 1 rfl) ?_
    refine e_getN (v := .int (d (61 + 420) (0))) hx hb hts hown hK hW (F_Msg (i0 := 61) G hG (by decide)) i_Msg rfl 0 (by decide) (nf_0 hE) (fun _ h => h) rfl d_PC_arrive_21 ?_
    refine e_top (v := 1) (fk) ?_
    refine lv_tableIn (off := 44) (tgt := 68) hx hb d_PC_arrive_24 (by decide) (by decide) (by decide) (by decide) ?_
    refine lv_aload_n hx hb d_PC_arrive_68 rfl (lv_at hl 0 rfl) ?_
    refine lv_aload_n hx hb d_PC_arrive_69 rfl (lv_at hl 1 rfl) ?_
    refine e_cv (e_runV hx hb hml hown hts hE hbs hW (F_PC G hG) rfl (c_arriveAsk l G hG d a t ha ht b hN (f1) (f3) (f5)) kw_297 kw_298 kw_299 kw_104 kw_296 rfl rfl hd_PC_arriveAsk ⟨Nat.le_of_ble_eq_true rfl, Nat.le_of_ble_eq_true rfl⟩ (As := [.ref (gad G (61 + 420))]) (rest := []) rfl hl.1 rfl (Nat.le_of_ble_eq_true rfl) d_PC_arrive_70 ⟨Nat.le_of_ble_eq_true rfl, Nat.le_of_ble_eq_true rfl⟩) hW (fun d' H locs hp hW => ?_)
    have hp := hp.symm; subst hp
    refine lv_goto (tgt := 105) hx hb d_PC_arrive_73 (by decide) ?_
    exact e_vret hx hb hr hlk hW (by rw [if_neg c_1]) (Nat.zero_le _) (Nat.zero_le _) d_PC_arrive_105
  · skip
    exact e_vret hx hb hr hlk hW (by rw [if_pos c_1]) (Nat.zero_le _) (Nat.zero_le _) d_PC_arrive_19
set_option maxHeartbeats 4000000 in
set_option maxRecDepth 100000 in
theorem c_arrive2 (l : Launch) (G : GT) (hG : GOK G) (d : DD) (ld t a : Nat) (hld : ld < 2) (ht : t < 8) (ha : a < gn G) (b mj : Int32) (hN : NetOK d) (f1 : d 481 1 = nI t) (f3 : d 481 3 = nI a) (f4 : d 481 4 = nI ld) (f5 : d 481 5 = b) (fm : d 0 3 = mj) (fk : d 481 0 = 2) : Met l y_PC_arrive (.code y_PC_arrive b_PC_arrive 2 none :: WS) { frames := 9, cells := 0, slots := 0, locals := 320 } (cPre G [.ref (gad G (0)), .ref (gad G (61 + 420))] d) (cQv G (fun u9 => u9 = if hasI (d 4 2) ld = 0 then d else f_arrR d (gn G) (ld * 8 + t) a t b mj)) 0 0 (gAb G) := by
  refine c_start (own := R_PC) (by decide +kernel) rfl (Nat.le_of_ble_eq_true rfl) ?_
  intro p e zs zm below meth zc ls C hW hl
  obtain ⟨hx, hb, hr, hml, hown, hts, hlk, hE, hbs⟩ := C
  have hK := hE.1
  have hn3 := hG.1
  have hl : lv_has ls 2 [(0, .ref (gad G (0))), (1, .ref (gad G (61 + 420)))] := hl
  refine lv_aload_n hx hb d_PC_arrive_0 rfl (lv_at hl 0 rfl) ?_
  refine e_get (v := .ref (gad G (4))) hx hb hts hown hK hW (F_PC G hG) i_PC rfl 4 (by decide) (hts _ kw_286) (fun _ h => h) rfl d_PC_arrive_1 ?_
  refine lv_aload_n hx hb d_PC_arrive_4 rfl (lv_at hl 1 rfl) ?_
  refine e_ci (e_runV hx hb hml hown hts hE hbs hW (F_Msg (i0 := 61) G hG (by decide)) rfl (c_Msg_rk l G hG d 61 (by decide)) kw_287 kw_193 kw_194 kw_115 kw_191 rfl rfl hd_Msg_receiverKind ⟨Nat.le_of_ble_eq_true rfl, Nat.le_of_ble_eq_true rfl⟩ (As := []) (rest := [.ref (gad G (4))]) rfl hl.1 rfl (Nat.le_of_ble_eq_true rfl) d_PC_arrive_5 ⟨Nat.le_of_ble_eq_true rfl, Nat.le_of_ble_eq_true rfl⟩) hW (fun r d' H locs hp hW => ?_)
  obtain ⟨hp1, hp2⟩ := hp
  have hp1 := hp1.symm; subst hp1
  have hp2 := hp2.symm; subst hp2
  refine e_top (v := 2) (by rw [show d (61 + 420) 0 = 2 from fk]; decide) ?_
  refine e_iald hx hb hK hW (F_UpS G hG) (j := 2) (by decide) (x := d (4) (2)) (rfl) rfl d_PC_arrive_8 ?_
  refine lv_aload_n hx hb d_PC_arrive_9 rfl (lv_at hl 1 rfl) ?_
  refine e_ci (e_runV hx hb hml hown hts hE hbs hW (F_Msg (i0 := 61) G hG (by decide)) rfl (c_Msg_rcv l G hG d 61 (by decide)) kw_289 kw_290 kw_291 kw_115 kw_288 rfl rfl hd_Msg_receiver ⟨Nat.le_of_ble_eq_true rfl, Nat.le_of_ble_eq_true rfl⟩ (As := []) (rest := [.int (d (4) (2))]) rfl hl.1 rfl (Nat.le_of_ble_eq_true rfl) d_PC_arrive_10 ⟨Nat.le_of_ble_eq_true rfl, Nat.le_of_ble_eq_true rfl⟩) hW (fun r d' H locs hp hW => ?_)
  obtain ⟨hp1, hp2⟩ := hp
  have hp1 := hp1.symm; subst hp1
  have hp2 := hp2.symm; subst hp2
  refine e_top (v := nI ld) (by unfold rcvI; rw [show d (61 + 420) 0 = 2 from fk, if_neg (by decide), if_neg (by decide)]; exact f4) ?_
  refine e_ci (e_runS hx hb hml hown hts hE hbs hW (c_has l G hG d ld (d (4) (2))) kw_221 kw_142 kw_104 kw_141 rfl rfl hd_PC_has ⟨Nat.le_of_ble_eq_true rfl, Nat.le_of_ble_eq_true rfl⟩ (As := [.int (d (4) (2)), .int (nI ld)]) (rest := []) rfl hl.1 rfl (Nat.le_of_ble_eq_true rfl) d_PC_arrive_13 ⟨Nat.le_of_ble_eq_true rfl, Nat.le_of_ble_eq_true rfl⟩) hW (fun r d' H locs hp hW => ?_)
  obtain ⟨hp1, hp2⟩ := hp
  have hp1 := hp1.symm; subst hp1
  have hp2 := hp2.symm; subst hp2
  refine lv_if_ne (tgt := 20) hx hb d_PC_arrive_16 (by decide) (fun c_1 => ?_) (fun c_1 => ?_)
  · skip
    refine lv_aload_n hx hb d_PC_arrive_20 rfl (lv_at hl 1 rfl) ?_
    refine e_getN (v := .int (d (61 + 420) (0))) hx hb hts hown hK hW (F_Msg (i0 := 61) G hG (by decide)) i_Msg rfl 0 (by decide) (nf_0 hE) (fun _ h => h) rfl d_PC_arrive_21 ?_
    refine e_top (v := 2) (fk) ?_
    refine lv_tableIn (off := 52) (tgt := 76) hx hb d_PC_arrive_24 (by decide) (by decide) (by decide) (by decide) ?_
    refine lv_aload_n hx hb d_PC_arrive_76 rfl (lv_at hl 0 rfl) ?_
    refine lv_aload_n hx hb d_PC_arrive_77 rfl (lv_at hl 1 rfl) ?_
    refine e_cv (e_runV hx hb hml hown hts hE hbs hW (F_PC G hG) rfl (c_arriveReply l G hG d ld t a hld ht ha b mj hN (f1) (f3) (f4) (f5) (fm)) kw_301 kw_302 kw_303 kw_104 kw_300 rfl rfl hd_PC_arriveReply ⟨Nat.le_of_ble_eq_true rfl, Nat.le_of_ble_eq_true rfl⟩ (As := [.ref (gad G (61 + 420))]) (rest := []) rfl hl.1 rfl (Nat.le_of_ble_eq_true rfl) d_PC_arrive_78 ⟨Nat.le_of_ble_eq_true rfl, Nat.le_of_ble_eq_true rfl⟩) hW (fun d' H locs hp hW => ?_)
    have hp := hp.symm; subst hp
    refine lv_goto (tgt := 105) hx hb d_PC_arrive_81 (by decide) ?_
    exact e_vret hx hb hr hlk hW (by rw [if_neg c_1]) (Nat.zero_le _) (Nat.zero_le _) d_PC_arrive_105
  · skip
    exact e_vret hx hb hr hlk hW (by rw [if_pos c_1]) (Nat.zero_le _) (Nat.zero_le _) d_PC_arrive_19
set_option maxHeartbeats 4000000 in
set_option maxRecDepth 100000 in
theorem c_arrive3 (l : Launch) (G : GT) (hG : GOK G) (d : DD) (a t s : Nat) (ha : a < gn G) (ht : t < 8) (hs : s < 3) (b v : Int32) (hN : NetOK d) (f1 : d 481 1 = nI t) (f2 : d 481 2 = nI s) (f3 : d 481 3 = nI a) (f5 : d 481 5 = b) (f6 : d 481 6 = v) (fk : d 481 0 = 3) : Met l y_PC_arrive (.code y_PC_arrive b_PC_arrive 2 none :: WS) { frames := 9, cells := 0, slots := 0, locals := 320 } (cPre G [.ref (gad G (0)), .ref (gad G (61 + 420))] d) (cQv G (fun u9 => u9 = if hasI (d 4 1) a = 0 then d else f_arrV d a t s b v)) 0 0 (gAb G) := by
  refine c_start (own := R_PC) (by decide +kernel) rfl (Nat.le_of_ble_eq_true rfl) ?_
  intro p e zs zm below meth zc ls C hW hl
  obtain ⟨hx, hb, hr, hml, hown, hts, hlk, hE, hbs⟩ := C
  have hK := hE.1
  have hn3 := hG.1
  have hl : lv_has ls 2 [(0, .ref (gad G (0))), (1, .ref (gad G (61 + 420)))] := hl
  refine lv_aload_n hx hb d_PC_arrive_0 rfl (lv_at hl 0 rfl) ?_
  refine e_get (v := .ref (gad G (4))) hx hb hts hown hK hW (F_PC G hG) i_PC rfl 4 (by decide) (hts _ kw_286) (fun _ h => h) rfl d_PC_arrive_1 ?_
  refine lv_aload_n hx hb d_PC_arrive_4 rfl (lv_at hl 1 rfl) ?_
  refine e_ci (e_runV hx hb hml hown hts hE hbs hW (F_Msg (i0 := 61) G hG (by decide)) rfl (c_Msg_rk l G hG d 61 (by decide)) kw_287 kw_193 kw_194 kw_115 kw_191 rfl rfl hd_Msg_receiverKind ⟨Nat.le_of_ble_eq_true rfl, Nat.le_of_ble_eq_true rfl⟩ (As := []) (rest := [.ref (gad G (4))]) rfl hl.1 rfl (Nat.le_of_ble_eq_true rfl) d_PC_arrive_5 ⟨Nat.le_of_ble_eq_true rfl, Nat.le_of_ble_eq_true rfl⟩) hW (fun r d' H locs hp hW => ?_)
  obtain ⟨hp1, hp2⟩ := hp
  have hp1 := hp1.symm; subst hp1
  have hp2 := hp2.symm; subst hp2
  refine e_top (v := 1) (by rw [show d (61 + 420) 0 = 3 from fk]; decide) ?_
  refine e_iald hx hb hK hW (F_UpS G hG) (j := 1) (by decide) (x := d (4) (1)) (rfl) rfl d_PC_arrive_8 ?_
  refine lv_aload_n hx hb d_PC_arrive_9 rfl (lv_at hl 1 rfl) ?_
  refine e_ci (e_runV hx hb hml hown hts hE hbs hW (F_Msg (i0 := 61) G hG (by decide)) rfl (c_Msg_rcv l G hG d 61 (by decide)) kw_289 kw_290 kw_291 kw_115 kw_288 rfl rfl hd_Msg_receiver ⟨Nat.le_of_ble_eq_true rfl, Nat.le_of_ble_eq_true rfl⟩ (As := []) (rest := [.int (d (4) (1))]) rfl hl.1 rfl (Nat.le_of_ble_eq_true rfl) d_PC_arrive_10 ⟨Nat.le_of_ble_eq_true rfl, Nat.le_of_ble_eq_true rfl⟩) hW (fun r d' H locs hp hW => ?_)
  obtain ⟨hp1, hp2⟩ := hp
  have hp1 := hp1.symm; subst hp1
  have hp2 := hp2.symm; subst hp2
  refine e_top (v := nI a) (by unfold rcvI; rw [show d (61 + 420) 0 = 3 from fk, if_neg (by decide), if_pos (by decide)]; exact f3) ?_
  refine e_ci (e_runS hx hb hml hown hts hE hbs hW (c_has l G hG d a (d (4) (1))) kw_221 kw_142 kw_104 kw_141 rfl rfl hd_PC_has ⟨Nat.le_of_ble_eq_true rfl, Nat.le_of_ble_eq_true rfl⟩ (As := [.int (d (4) (1)), .int (nI a)]) (rest := []) rfl hl.1 rfl (Nat.le_of_ble_eq_true rfl) d_PC_arrive_13 ⟨Nat.le_of_ble_eq_true rfl, Nat.le_of_ble_eq_true rfl⟩) hW (fun r d' H locs hp hW => ?_)
  obtain ⟨hp1, hp2⟩ := hp
  have hp1 := hp1.symm; subst hp1
  have hp2 := hp2.symm; subst hp2
  refine lv_if_ne (tgt := 20) hx hb d_PC_arrive_16 (by decide) (fun c_1 => ?_) (fun c_1 => ?_)
  · skip
    refine lv_aload_n hx hb d_PC_arrive_20 rfl (lv_at hl 1 rfl) ?_
    refine e_getN (v := .int (d (61 + 420) (0))) hx hb hts hown hK hW (F_Msg (i0 := 61) G hG (by decide)) i_Msg rfl 0 (by decide) (nf_0 hE) (fun _ h => h) rfl d_PC_arrive_21 ?_
    refine e_top (v := 3) (fk) ?_
    refine lv_tableIn (off := 60) (tgt := 84) hx hb d_PC_arrive_24 (by decide) (by decide) (by decide) (by decide) ?_
    refine lv_aload_n hx hb d_PC_arrive_84 rfl (lv_at hl 0 rfl) ?_
    refine lv_aload_n hx hb d_PC_arrive_85 rfl (lv_at hl 1 rfl) ?_
    refine e_cv (e_runV hx hb hml hown hts hE hbs hW (F_PC G hG) rfl (c_arriveVote l G hG d a t s ha ht hs b v hN (f1) (f2) (f3) (f5) (f6)) kw_305 kw_306 kw_307 kw_104 kw_304 rfl rfl hd_PC_arriveVote ⟨Nat.le_of_ble_eq_true rfl, Nat.le_of_ble_eq_true rfl⟩ (As := [.ref (gad G (61 + 420))]) (rest := []) rfl hl.1 rfl (Nat.le_of_ble_eq_true rfl) d_PC_arrive_86 ⟨Nat.le_of_ble_eq_true rfl, Nat.le_of_ble_eq_true rfl⟩) hW (fun d' H locs hp hW => ?_)
    have hp := hp.symm; subst hp
    refine lv_goto (tgt := 105) hx hb d_PC_arrive_89 (by decide) ?_
    exact e_vret hx hb hr hlk hW (by rw [if_neg c_1]) (Nat.zero_le _) (Nat.zero_le _) d_PC_arrive_105
  · skip
    exact e_vret hx hb hr hlk hW (by rw [if_pos c_1]) (Nat.zero_le _) (Nat.zero_le _) d_PC_arrive_19
set_option maxHeartbeats 4000000 in
set_option maxRecDepth 100000 in
theorem c_arrive4 (l : Launch) (G : GT) (hG : GOK G) (d : DD) (ld t a s : Nat) (hld : ld < 2) (ht : t < 8) (ha : a < gn G) (hs : s < 3) (b v mj : Int32) (hN : NetOK d) (f1 : d 481 1 = nI t) (f2 : d 481 2 = nI s) (f3 : d 481 3 = nI a) (f4 : d 481 4 = nI ld) (f5 : d 481 5 = b) (f6 : d 481 6 = v) (fm : d 0 3 = mj) (fk : d 481 0 = 4) : Met l y_PC_arrive (.code y_PC_arrive b_PC_arrive 2 none :: WS) { frames := 9, cells := 0, slots := 0, locals := 320 } (cPre G [.ref (gad G (0)), .ref (gad G (61 + 420))] d) (cQv G (fun u9 => u9 = if hasI (d 4 2) ld = 0 then d else f_arrT d (gn G) (ld * 8 + t) a s t b v mj)) 0 0 (gAb G) := by
  refine c_start (own := R_PC) (by decide +kernel) rfl (Nat.le_of_ble_eq_true rfl) ?_
  intro p e zs zm below meth zc ls C hW hl
  obtain ⟨hx, hb, hr, hml, hown, hts, hlk, hE, hbs⟩ := C
  have hK := hE.1
  have hn3 := hG.1
  have hl : lv_has ls 2 [(0, .ref (gad G (0))), (1, .ref (gad G (61 + 420)))] := hl
  refine lv_aload_n hx hb d_PC_arrive_0 rfl (lv_at hl 0 rfl) ?_
  refine e_get (v := .ref (gad G (4))) hx hb hts hown hK hW (F_PC G hG) i_PC rfl 4 (by decide) (hts _ kw_286) (fun _ h => h) rfl d_PC_arrive_1 ?_
  refine lv_aload_n hx hb d_PC_arrive_4 rfl (lv_at hl 1 rfl) ?_
  refine e_ci (e_runV hx hb hml hown hts hE hbs hW (F_Msg (i0 := 61) G hG (by decide)) rfl (c_Msg_rk l G hG d 61 (by decide)) kw_287 kw_193 kw_194 kw_115 kw_191 rfl rfl hd_Msg_receiverKind ⟨Nat.le_of_ble_eq_true rfl, Nat.le_of_ble_eq_true rfl⟩ (As := []) (rest := [.ref (gad G (4))]) rfl hl.1 rfl (Nat.le_of_ble_eq_true rfl) d_PC_arrive_5 ⟨Nat.le_of_ble_eq_true rfl, Nat.le_of_ble_eq_true rfl⟩) hW (fun r d' H locs hp hW => ?_)
  obtain ⟨hp1, hp2⟩ := hp
  have hp1 := hp1.symm; subst hp1
  have hp2 := hp2.symm; subst hp2
  refine e_top (v := 2) (by rw [show d (61 + 420) 0 = 4 from fk]; decide) ?_
  refine e_iald hx hb hK hW (F_UpS G hG) (j := 2) (by decide) (x := d (4) (2)) (rfl) rfl d_PC_arrive_8 ?_
  refine lv_aload_n hx hb d_PC_arrive_9 rfl (lv_at hl 1 rfl) ?_
  refine e_ci (e_runV hx hb hml hown hts hE hbs hW (F_Msg (i0 := 61) G hG (by decide)) rfl (c_Msg_rcv l G hG d 61 (by decide)) kw_289 kw_290 kw_291 kw_115 kw_288 rfl rfl hd_Msg_receiver ⟨Nat.le_of_ble_eq_true rfl, Nat.le_of_ble_eq_true rfl⟩ (As := []) (rest := [.int (d (4) (2))]) rfl hl.1 rfl (Nat.le_of_ble_eq_true rfl) d_PC_arrive_10 ⟨Nat.le_of_ble_eq_true rfl, Nat.le_of_ble_eq_true rfl⟩) hW (fun r d' H locs hp hW => ?_)
  obtain ⟨hp1, hp2⟩ := hp
  have hp1 := hp1.symm; subst hp1
  have hp2 := hp2.symm; subst hp2
  refine e_top (v := nI ld) (by unfold rcvI; rw [show d (61 + 420) 0 = 4 from fk, if_neg (by decide), if_neg (by decide)]; exact f4) ?_
  refine e_ci (e_runS hx hb hml hown hts hE hbs hW (c_has l G hG d ld (d (4) (2))) kw_221 kw_142 kw_104 kw_141 rfl rfl hd_PC_has ⟨Nat.le_of_ble_eq_true rfl, Nat.le_of_ble_eq_true rfl⟩ (As := [.int (d (4) (2)), .int (nI ld)]) (rest := []) rfl hl.1 rfl (Nat.le_of_ble_eq_true rfl) d_PC_arrive_13 ⟨Nat.le_of_ble_eq_true rfl, Nat.le_of_ble_eq_true rfl⟩) hW (fun r d' H locs hp hW => ?_)
  obtain ⟨hp1, hp2⟩ := hp
  have hp1 := hp1.symm; subst hp1
  have hp2 := hp2.symm; subst hp2
  refine lv_if_ne (tgt := 20) hx hb d_PC_arrive_16 (by decide) (fun c_1 => ?_) (fun c_1 => ?_)
  · skip
    refine lv_aload_n hx hb d_PC_arrive_20 rfl (lv_at hl 1 rfl) ?_
    refine e_getN (v := .int (d (61 + 420) (0))) hx hb hts hown hK hW (F_Msg (i0 := 61) G hG (by decide)) i_Msg rfl 0 (by decide) (nf_0 hE) (fun _ h => h) rfl d_PC_arrive_21 ?_
    refine e_top (v := 4) (fk) ?_
    refine lv_tableIn (off := 68) (tgt := 92) hx hb d_PC_arrive_24 (by decide) (by decide) (by decide) (by decide) ?_
    refine lv_aload_n hx hb d_PC_arrive_92 rfl (lv_at hl 0 rfl) ?_
    refine lv_aload_n hx hb d_PC_arrive_93 rfl (lv_at hl 1 rfl) ?_
    refine e_cv (e_runV hx hb hml hown hts hE hbs hW (F_PC G hG) rfl (c_arriveTold l G hG d ld t a s hld ht ha hs b v mj hN (f1) (f2) (f3) (f4) (f5) (f6) (fm)) kw_309 kw_310 kw_311 kw_104 kw_308 rfl rfl hd_PC_arriveTold ⟨Nat.le_of_ble_eq_true rfl, Nat.le_of_ble_eq_true rfl⟩ (As := [.ref (gad G (61 + 420))]) (rest := []) rfl hl.1 rfl (Nat.le_of_ble_eq_true rfl) d_PC_arrive_94 ⟨Nat.le_of_ble_eq_true rfl, Nat.le_of_ble_eq_true rfl⟩) hW (fun d' H locs hp hW => ?_)
    have hp := hp.symm; subst hp
    refine lv_goto (tgt := 105) hx hb d_PC_arrive_97 (by decide) ?_
    exact e_vret hx hb hr hlk hW (by rw [if_neg c_1]) (Nat.zero_le _) (Nat.zero_le _) d_PC_arrive_105
  · skip
    exact e_vret hx hb hr hlk hW (by rw [if_pos c_1]) (Nat.zero_le _) (Nat.zero_le _) d_PC_arrive_19
set_option maxHeartbeats 4000000 in
set_option maxRecDepth 100000 in
theorem c_arrive5 (l : Launch) (G : GT) (hG : GOK G) (d : DD) (s t : Nat) (hs : s < 3) (ht : t < 8) (v : Int32) (hN : NetOK d) (f1 : d 481 1 = nI t) (f2 : d 481 2 = nI s) (f6 : d 481 6 = v) (fk : d 481 0 = 5) : Met l y_PC_arrive (.code y_PC_arrive b_PC_arrive 2 none :: WS) { frames := 9, cells := 0, slots := 0, locals := 320 } (cPre G [.ref (gad G (0)), .ref (gad G (61 + 420))] d) (cQv G (fun u9 => u9 = if hasI (d 4 0) s = 0 then d else f_arrO d s t v)) 0 0 (gAb G) := by
  refine c_start (own := R_PC) (by decide +kernel) rfl (Nat.le_of_ble_eq_true rfl) ?_
  intro p e zs zm below meth zc ls C hW hl
  obtain ⟨hx, hb, hr, hml, hown, hts, hlk, hE, hbs⟩ := C
  have hK := hE.1
  have hn3 := hG.1
  have hl : lv_has ls 2 [(0, .ref (gad G (0))), (1, .ref (gad G (61 + 420)))] := hl
  refine lv_aload_n hx hb d_PC_arrive_0 rfl (lv_at hl 0 rfl) ?_
  refine e_get (v := .ref (gad G (4))) hx hb hts hown hK hW (F_PC G hG) i_PC rfl 4 (by decide) (hts _ kw_286) (fun _ h => h) rfl d_PC_arrive_1 ?_
  refine lv_aload_n hx hb d_PC_arrive_4 rfl (lv_at hl 1 rfl) ?_
  refine e_ci (e_runV hx hb hml hown hts hE hbs hW (F_Msg (i0 := 61) G hG (by decide)) rfl (c_Msg_rk l G hG d 61 (by decide)) kw_287 kw_193 kw_194 kw_115 kw_191 rfl rfl hd_Msg_receiverKind ⟨Nat.le_of_ble_eq_true rfl, Nat.le_of_ble_eq_true rfl⟩ (As := []) (rest := [.ref (gad G (4))]) rfl hl.1 rfl (Nat.le_of_ble_eq_true rfl) d_PC_arrive_5 ⟨Nat.le_of_ble_eq_true rfl, Nat.le_of_ble_eq_true rfl⟩) hW (fun r d' H locs hp hW => ?_)
  obtain ⟨hp1, hp2⟩ := hp
  have hp1 := hp1.symm; subst hp1
  have hp2 := hp2.symm; subst hp2
  refine e_top (v := 0) (by rw [show d (61 + 420) 0 = 5 from fk]; decide) ?_
  refine e_iald hx hb hK hW (F_UpS G hG) (j := 0) (by decide) (x := d (4) (0)) (rfl) rfl d_PC_arrive_8 ?_
  refine lv_aload_n hx hb d_PC_arrive_9 rfl (lv_at hl 1 rfl) ?_
  refine e_ci (e_runV hx hb hml hown hts hE hbs hW (F_Msg (i0 := 61) G hG (by decide)) rfl (c_Msg_rcv l G hG d 61 (by decide)) kw_289 kw_290 kw_291 kw_115 kw_288 rfl rfl hd_Msg_receiver ⟨Nat.le_of_ble_eq_true rfl, Nat.le_of_ble_eq_true rfl⟩ (As := []) (rest := [.int (d (4) (0))]) rfl hl.1 rfl (Nat.le_of_ble_eq_true rfl) d_PC_arrive_10 ⟨Nat.le_of_ble_eq_true rfl, Nat.le_of_ble_eq_true rfl⟩) hW (fun r d' H locs hp hW => ?_)
  obtain ⟨hp1, hp2⟩ := hp
  have hp1 := hp1.symm; subst hp1
  have hp2 := hp2.symm; subst hp2
  refine e_top (v := nI s) (by unfold rcvI; rw [show d (61 + 420) 0 = 5 from fk, if_pos (by decide)]; exact f2) ?_
  refine e_ci (e_runS hx hb hml hown hts hE hbs hW (c_has l G hG d s (d (4) (0))) kw_221 kw_142 kw_104 kw_141 rfl rfl hd_PC_has ⟨Nat.le_of_ble_eq_true rfl, Nat.le_of_ble_eq_true rfl⟩ (As := [.int (d (4) (0)), .int (nI s)]) (rest := []) rfl hl.1 rfl (Nat.le_of_ble_eq_true rfl) d_PC_arrive_13 ⟨Nat.le_of_ble_eq_true rfl, Nat.le_of_ble_eq_true rfl⟩) hW (fun r d' H locs hp hW => ?_)
  obtain ⟨hp1, hp2⟩ := hp
  have hp1 := hp1.symm; subst hp1
  have hp2 := hp2.symm; subst hp2
  refine lv_if_ne (tgt := 20) hx hb d_PC_arrive_16 (by decide) (fun c_1 => ?_) (fun c_1 => ?_)
  · skip
    refine lv_aload_n hx hb d_PC_arrive_20 rfl (lv_at hl 1 rfl) ?_
    refine e_getN (v := .int (d (61 + 420) (0))) hx hb hts hown hK hW (F_Msg (i0 := 61) G hG (by decide)) i_Msg rfl 0 (by decide) (nf_0 hE) (fun _ h => h) rfl d_PC_arrive_21 ?_
    refine e_top (v := 5) (fk) ?_
    refine lv_tableOut (tgt := 100) hx hb d_PC_arrive_24 (by decide) (by decide) ?_
    refine lv_aload_n hx hb d_PC_arrive_100 rfl (lv_at hl 0 rfl) ?_
    refine lv_aload_n hx hb d_PC_arrive_101 rfl (lv_at hl 1 rfl) ?_
    refine e_cv (e_runV hx hb hml hown hts hE hbs hW (F_PC G hG) rfl (c_arriveOutcome l G hG d s t hs ht v hN (f1) (f2) (f6)) kw_313 kw_314 kw_315 kw_104 kw_312 rfl rfl hd_PC_arriveOutcome ⟨Nat.le_of_ble_eq_true rfl, Nat.le_of_ble_eq_true rfl⟩ (As := [.ref (gad G (61 + 420))]) (rest := []) rfl hl.1 rfl (Nat.le_of_ble_eq_true rfl) d_PC_arrive_102 ⟨Nat.le_of_ble_eq_true rfl, Nat.le_of_ble_eq_true rfl⟩) hW (fun d' H locs hp hW => ?_)
    have hp := hp.symm; subst hp
    exact e_vret hx hb hr hlk hW (by rw [if_neg c_1]) (Nat.zero_le _) (Nat.zero_le _) d_PC_arrive_105
  · skip
    exact e_vret hx hb hr hlk hW (by rw [if_pos c_1]) (Nat.zero_le _) (Nat.zero_le _) d_PC_arrive_19
