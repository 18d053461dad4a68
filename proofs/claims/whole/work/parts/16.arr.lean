theorem kw_227 : .methodLink R_PC 122 y_Store_abort ∈ WS := List.mem_filter.mpr ⟨List.mem_append_right _ (List.mem_of_getElem? (i := 433) (by decide +kernel)), by decide +kernel⟩
theorem kw_228 : .code y_PC_sendVotes b_PC_sendVotes 7 none ∈ WS := List.mem_filter.mpr ⟨List.mem_append_right _ (List.mem_of_getElem? (i := 444) (by decide +kernel)), by decide +kernel⟩
theorem kw_229 : .methodLink R_PC 125 y_PC_sendVotes ∈ WS := List.mem_filter.mpr ⟨List.mem_append_right _ (List.mem_of_getElem? (i := 441) (by decide +kernel)), by decide +kernel⟩
theorem kw_230 : .instanceMethod y_PC_sendVotes ∈ WS := List.mem_filter.mpr ⟨List.mem_append_right _ (List.mem_of_getElem? (i := 443) (by decide +kernel)), by decide +kernel⟩
theorem kw_231 : .selects R_PC y_PC_sendVotes y_PC_sendVotes ∈ WS := List.mem_filter.mpr ⟨List.mem_append_left _ (List.mem_of_getElem? (i := 4) (by decide +kernel)), by decide +kernel⟩
theorem kw_232 : .code y_Acc_hasPromisedAbove b_Acc_hasPromisedAbove 6 (some .boolean) ∈ WS := List.mem_filter.mpr ⟨List.mem_append_right _ (List.mem_of_getElem? (i := 532) (by decide +kernel)), by decide +kernel⟩
theorem kw_233 : .initialized R_Acc ∈ WS := List.mem_filter.mpr ⟨List.mem_append_right _ (List.mem_of_getElem? (i := 6) (by decide +kernel)), by decide +kernel⟩
theorem kw_234 : .methodLink R_PC 272 y_Acc_hasPromisedAbove ∈ WS := List.mem_filter.mpr ⟨List.mem_append_right _ (List.mem_of_getElem? (i := 529) (by decide +kernel)), by decide +kernel⟩
theorem kw_235 : .instanceMethod y_Acc_hasPromisedAbove ∈ WS := List.mem_filter.mpr ⟨List.mem_append_right _ (List.mem_of_getElem? (i := 530) (by decide +kernel)), by decide +kernel⟩
theorem kw_236 : .selects R_Acc y_Acc_hasPromisedAbove y_Acc_hasPromisedAbove ∈ WS := List.mem_filter.mpr ⟨List.mem_append_right _ (List.mem_of_getElem? (i := 531) (by decide +kernel)), by decide +kernel⟩
theorem kw_237 : .code y_Acc_promise b_Acc_promise 5 none ∈ WS := List.mem_filter.mpr ⟨List.mem_append_right _ (List.mem_of_getElem? (i := 537) (by decide +kernel)), by decide +kernel⟩
theorem kw_238 : .methodLink R_PC 276 y_Acc_promise ∈ WS := List.mem_filter.mpr ⟨List.mem_append_right _ (List.mem_of_getElem? (i := 534) (by decide +kernel)), by decide +kernel⟩
theorem kw_239 : .instanceMethod y_Acc_promise ∈ WS := List.mem_filter.mpr ⟨List.mem_append_right _ (List.mem_of_getElem? (i := 535) (by decide +kernel)), by decide +kernel⟩
theorem kw_240 : .selects R_Acc y_Acc_promise y_Acc_promise ∈ WS := List.mem_filter.mpr ⟨List.mem_append_right _ (List.mem_of_getElem? (i := 536) (by decide +kernel)), by decide +kernel⟩
theorem kw_241 : .code y_PC_sendReply b_PC_sendReply 6 none ∈ WS := List.mem_filter.mpr ⟨List.mem_append_right _ (List.mem_of_getElem? (i := 541) (by decide +kernel)), by decide +kernel⟩
theorem kw_242 : .methodLink R_PC 279 y_PC_sendReply ∈ WS := List.mem_filter.mpr ⟨List.mem_append_right _ (List.mem_of_getElem? (i := 538) (by decide +kernel)), by decide +kernel⟩
theorem kw_243 : .instanceMethod y_PC_sendReply ∈ WS := List.mem_filter.mpr ⟨List.mem_append_right _ (List.mem_of_getElem? (i := 540) (by decide +kernel)), by decide +kernel⟩
theorem kw_244 : .selects R_PC y_PC_sendReply y_PC_sendReply ∈ WS := List.mem_filter.mpr ⟨List.mem_append_left _ (List.mem_of_getElem? (i := 11) (by decide +kernel)), by decide +kernel⟩
theorem kw_245 : .code y_Acc_accept b_Acc_accept 5 none ∈ WS := List.mem_filter.mpr ⟨List.mem_append_right _ (List.mem_of_getElem? (i := 572) (by decide +kernel)), by decide +kernel⟩
theorem kw_246 : .methodLink R_PC 306 y_Acc_accept ∈ WS := List.mem_filter.mpr ⟨List.mem_append_right _ (List.mem_of_getElem? (i := 569) (by decide +kernel)), by decide +kernel⟩
theorem kw_247 : .instanceMethod y_Acc_accept ∈ WS := List.mem_filter.mpr ⟨List.mem_append_right _ (List.mem_of_getElem? (i := 570) (by decide +kernel)), by decide +kernel⟩
theorem kw_248 : .selects R_Acc y_Acc_accept y_Acc_accept ∈ WS := List.mem_filter.mpr ⟨List.mem_append_right _ (List.mem_of_getElem? (i := 571) (by decide +kernel)), by decide +kernel⟩
theorem kw_249 : .code y_PC_sendTold b_PC_sendTold 4 none ∈ WS := List.mem_filter.mpr ⟨List.mem_append_right _ (List.mem_of_getElem? (i := 579) (by decide +kernel)), by decide +kernel⟩
theorem kw_250 : .methodLink R_PC 309 y_PC_sendTold ∈ WS := List.mem_filter.mpr ⟨List.mem_append_right _ (List.mem_of_getElem? (i := 576) (by decide +kernel)), by decide +kernel⟩
theorem kw_251 : .instanceMethod y_PC_sendTold ∈ WS := List.mem_filter.mpr ⟨List.mem_append_right _ (List.mem_of_getElem? (i := 578) (by decide +kernel)), by decide +kernel⟩
theorem kw_252 : .selects R_PC y_PC_sendTold y_PC_sendTold ∈ WS := List.mem_filter.mpr ⟨List.mem_append_left _ (List.mem_of_getElem? (i := 14) (by decide +kernel)), by decide +kernel⟩
theorem kw_253 : .code y_Store_isOpenFor b_Store_isOpenFor 2 (some .boolean) ∈ WS := List.mem_filter.mpr ⟨List.mem_append_right _ (List.mem_of_getElem? (i := 356) (by decide +kernel)), by decide +kernel⟩
theorem kw_254 : .methodLink R_PC 80 y_Store_isOpenFor ∈ WS := List.mem_filter.mpr ⟨List.mem_append_right _ (List.mem_of_getElem? (i := 353) (by decide +kernel)), by decide +kernel⟩
theorem kw_255 : .instanceMethod y_Store_isOpenFor ∈ WS := List.mem_filter.mpr ⟨List.mem_append_right _ (List.mem_of_getElem? (i := 354) (by decide +kernel)), by decide +kernel⟩
theorem kw_256 : .selects R_Store y_Store_isOpenFor y_Store_isOpenFor ∈ WS := List.mem_filter.mpr ⟨List.mem_append_right _ (List.mem_of_getElem? (i := 355) (by decide +kernel)), by decide +kernel⟩
theorem kw_257 : .code y_Store_commit b_Store_commit 3 none ∈ WS := List.mem_filter.mpr ⟨List.mem_append_right _ (List.mem_of_getElem? (i := 609) (by decide +kernel)), by decide +kernel⟩
theorem kw_258 : .methodLink R_PC 322 y_Store_commit ∈ WS := List.mem_filter.mpr ⟨List.mem_append_right _ (List.mem_of_getElem? (i := 606) (by decide +kernel)), by decide +kernel⟩
theorem kw_259 : .instanceMethod y_Store_commit ∈ WS := List.mem_filter.mpr ⟨List.mem_append_right _ (List.mem_of_getElem? (i := 607) (by decide +kernel)), by decide +kernel⟩
theorem kw_260 : .selects R_Store y_Store_commit y_Store_commit ∈ WS := List.mem_filter.mpr ⟨List.mem_append_right _ (List.mem_of_getElem? (i := 608) (by decide +kernel)), by decide +kernel⟩
theorem hd_PC_sendVotes : y_PC_sendVotes.cls ≠ "java/lang/invoke/MethodHandle" ∧ y_PC_sendVotes.cls ≠ "java/lang/invoke/VarHandle" ∧ (parseMethodDescriptor y_PC_sendVotes.desc).map (fun d => d.parameters.length) = some 4 := by decide +kernel
theorem hd_Acc_hasPromisedAbove : y_Acc_hasPromisedAbove.cls ≠ "java/lang/invoke/MethodHandle" ∧ y_Acc_hasPromisedAbove.cls ≠ "java/lang/invoke/VarHandle" ∧ (parseMethodDescriptor y_Acc_hasPromisedAbove.desc).map (fun d => d.parameters.length) = some 3 := by decide +kernel
theorem hd_Acc_promise : y_Acc_promise.cls ≠ "java/lang/invoke/MethodHandle" ∧ y_Acc_promise.cls ≠ "java/lang/invoke/VarHandle" ∧ (parseMethodDescriptor y_Acc_promise.desc).map (fun d => d.parameters.length) = some 3 := by decide +kernel
theorem hd_PC_sendReply : y_PC_sendReply.cls ≠ "java/lang/invoke/MethodHandle" ∧ y_PC_sendReply.cls ≠ "java/lang/invoke/VarHandle" ∧ (parseMethodDescriptor y_PC_sendReply.desc).map (fun d => d.parameters.length) = some 3 := by decide +kernel
theorem hd_Acc_accept : y_Acc_accept.cls ≠ "java/lang/invoke/MethodHandle" ∧ y_Acc_accept.cls ≠ "java/lang/invoke/VarHandle" ∧ (parseMethodDescriptor y_Acc_accept.desc).map (fun d => d.parameters.length) = some 4 := by decide +kernel
theorem hd_PC_sendTold : y_PC_sendTold.cls ≠ "java/lang/invoke/MethodHandle" ∧ y_PC_sendTold.cls ≠ "java/lang/invoke/VarHandle" ∧ (parseMethodDescriptor y_PC_sendTold.desc).map (fun d => d.parameters.length) = some 2 := by decide +kernel
theorem hd_Store_isOpenFor : y_Store_isOpenFor.cls ≠ "java/lang/invoke/MethodHandle" ∧ y_Store_isOpenFor.cls ≠ "java/lang/invoke/VarHandle" ∧ (parseMethodDescriptor y_Store_isOpenFor.desc).map (fun d => d.parameters.length) = some 1 := by decide +kernel
theorem hd_Store_commit : y_Store_commit.cls ≠ "java/lang/invoke/MethodHandle" ∧ y_Store_commit.cls ≠ "java/lang/invoke/VarHandle" ∧ (parseMethodDescriptor y_Store_commit.desc).map (fun d => d.parameters.length) = some 1 := by decide +kernel
set_option maxHeartbeats 4000000 in
set_option maxRecDepth 100000 in
theorem c_arrivePrepare (l : Launch) (G : GT) (hG : GOK G) (d : DD) (s t : Nat) (hs : s < 3) (ht : t < 8) (hN : NetOK d) (f1 : d 481 1 = nI t) (f2 : d 481 2 = nI s) : Met l y_PC_arrivePrepare (.code y_PC_arrivePrepare b_PC_arrivePrepare 4 none :: WS) { frames := 4, cells := 0, slots := 0, locals := 108 } (cPre G [.ref (gad G (0)), .ref (gad G (61 + 420))] d) (cQv G (fun u9 => u9 = f_arrP d (gn G) s t)) 0 0 (gAb G) := by
  refine c_start (own := R_PC) (by decide +kernel) rfl (Nat.le_of_ble_eq_true rfl) ?_
  intro p e zs zm below meth zc ls C hW hl
  obtain ⟨hx, hb, hr, hml, hown, hts, hlk, hE, hbs⟩ := C
  have hK := hE.1
  have hn3 := hG.1
  have hl : lv_has ls 4 [(0, .ref (gad G (0))), (1, .ref (gad G (61 + 420)))] := hl
  refine lv_aload_n hx hb d_PC_arrivePrepare_0 rfl (lv_at hl 0 rfl) ?_
  refine e_get (v := .ref (gad G (1))) hx hb hts hown hK hW (F_PC G hG) i_PC rfl 0 (by decide) (hts _ kw_197) (fun _ h => h) rfl d_PC_arrivePrepare_1 ?_
  refine lv_aload_n hx hb d_PC_arrivePrepare_4 rfl (lv_at hl 1 rfl) ?_
  refine e_getN (v := .int (d (61 + 420) (2))) hx hb hts hown hK hW (F_Msg (i0 := 61) G hG (by decide)) i_Msg rfl 2 (by decide) (nf_2 hE) (fun _ h => h) rfl d_PC_arrivePrepare_5 ?_
  refine e_top (v := nI s) (f2) ?_
  refine e_aldq hx hb hK hW (F_Stores G hG) (j := s) hs (q := s + 10) rfl rfl d_PC_arrivePrepare_8 ?_
  refine lv_astore_n (lv' := [(2, .ref (gad G (s + 10))), (0, .ref (gad G (0))), (1, .ref (gad G (61 + 420)))]) hx hb d_PC_arrivePrepare_9 rfl hl (by decide) rfl (fun ls hl => ?_)
  refine lv_aload_n hx hb d_PC_arrivePrepare_10 rfl (lv_at hl 2 rfl) ?_
  refine e_getN (v := .int (d (61 + 420) (1))) hx hb hts hown hK hW (F_Msg (i0 := 61) G hG (by decide)) i_Msg rfl 1 (by decide) (nf_1 hE) (fun _ h => h) rfl d_PC_arrivePrepare_11 ?_
  refine e_top (v := nI t) (f1) ?_
  refine lv_istore_n (lv' := [(3, .int (nI t)), (2, .ref (gad G (s + 10))), (0, .ref (gad G (0))), (1, .ref (gad G (61 + 420)))]) hx hb d_PC_arrivePrepare_14 rfl hl (by decide) rfl (fun ls hl => ?_)
  refine lv_aload_n hx hb d_PC_arrivePrepare_15 rfl (lv_at hl 1 rfl) ?_
  refine e_getN (v := .ref (gad G (s + 40))) hx hb hts hown hK hW (F_Store (i0 := s) G hG hs) i_Store rfl 2 (by decide) (nf_13 hE) (fun _ h => h) rfl d_PC_arrivePrepare_16 ?_
  refine lv_iload_n hx hb d_PC_arrivePrepare_19 rfl (lv_at hl 0 rfl) ?_
  refine e_iald hx hb hK hW (F_Sta (i0 := s) G hG hs) (j := t) ht (x := d (s + 40) (t)) (rfl) rfl d_PC_arrivePrepare_20 ?_
  refine lv_iconst (v := 1) hx hb d_PC_arrivePrepare_21 (by decide) ?_
  refine lv_icmp_ne (tgt := 46) hx hb d_PC_arrivePrepare_22 (by decide) (fun c_1 => ?_) (fun c_1 => ?_)
  · skip
    refine lv_aload_n hx hb d_PC_arrivePrepare_46 rfl (lv_at hl 1 rfl) ?_
    refine e_getN (v := .ref (gad G (s + 40))) hx hb hts hown hK hW (F_Store (i0 := s) G hG hs) i_Store rfl 2 (by decide) (nf_13 hE) (fun _ h => h) rfl d_PC_arrivePrepare_47 ?_
    refine lv_iload_n hx hb d_PC_arrivePrepare_50 rfl (lv_at hl 0 rfl) ?_
    refine e_iald hx hb hK hW (F_Sta (i0 := s) G hG hs) (j := t) ht (x := d (s + 40) (t)) (rfl) rfl d_PC_arrivePrepare_51 ?_
    refine lv_if_eq (tgt := 65) hx hb d_PC_arrivePrepare_52 (by decide) (fun c_2 => ?_) (fun c_2 => ?_)
    · skip
      refine lv_aload_n hx hb d_PC_arrivePrepare_65 rfl (lv_at hl 1 rfl) ?_
      refine lv_iload_n hx hb d_PC_arrivePrepare_66 rfl (lv_at hl 0 rfl) ?_
      refine e_cv (e_runV hx hb hml hown hts hE hbs hW (F_Store (i0 := s) G hG hs) rfl (c_Store_abort l G hG d s t hs ht) kw_227 kw_146 kw_147 kw_137 kw_144 rfl rfl hd_Store_abort ⟨Nat.le_of_ble_eq_true rfl, Nat.le_of_ble_eq_true rfl⟩ (As := [.int (nI t)]) (rest := []) rfl hl.1 rfl (Nat.le_of_ble_eq_true rfl) d_PC_arrivePrepare_67 ⟨Nat.le_of_ble_eq_true rfl, Nat.le_of_ble_eq_true rfl⟩) hW (fun d' H locs hp hW => ?_)
      have hp := hp.symm; subst hp
      refine lv_aload_n hx hb d_PC_arrivePrepare_70 rfl (lv_at hl 2 rfl) ?_
      refine lv_iload_n hx hb d_PC_arrivePrepare_71 rfl (lv_at hl 0 rfl) ?_
      refine lv_aload_n hx hb d_PC_arrivePrepare_72 rfl (lv_at hl 3 rfl) ?_
      refine e_getN (v := .int ((f_abort d s t) (61 + 420) (2))) hx hb hts hown hK hW (F_Msg (i0 := 61) G hG (by decide)) i_Msg rfl 2 (by decide) (nf_2 hE) (fun _ h => h) rfl d_PC_arrivePrepare_73 ?_
      refine e_top (v := nI s) (((congrFun (f_abort_off (by omega) (by omega)) _).trans (f2))) ?_
      refine lv_iconst (v := 0) hx hb d_PC_arrivePrepare_76 (by decide) ?_
      refine lv_iconst (v := 0) hx hb d_PC_arrivePrepare_77 (by decide) ?_
      refine e_cv (e_runV hx hb hml hown hts hE hbs hW (F_PC G hG) rfl (c_sendVotes l G hG (f_abort d s t) (nI t) (nI s) (0) (0) (NetOK_keep hN (f_abort_off (by omega) (by omega)) (f_abort_off (by omega) (by omega)))) kw_229 kw_230 kw_231 kw_104 kw_228 rfl rfl hd_PC_sendVotes ⟨Nat.le_of_ble_eq_true rfl, Nat.le_of_ble_eq_true rfl⟩ (As := [.int (nI t), .int (nI s), .int (0), .int (0)]) (rest := []) rfl hl.1 rfl (Nat.le_of_ble_eq_true rfl) d_PC_arrivePrepare_78 ⟨Nat.le_of_ble_eq_true rfl, Nat.le_of_ble_eq_true rfl⟩) hW (fun d' H locs hp hW => ?_)
      have hp := hp.symm; subst hp
      exact e_vret hx hb hr hlk hW (by unfold f_arrP; rw [if_neg c_1, if_pos c_2]) (Nat.zero_le _) (Nat.zero_le _) d_PC_arrivePrepare_81
    · skip
      refine lv_aload_n hx hb d_PC_arrivePrepare_55 rfl (lv_at hl 1 rfl) ?_
      refine e_getN (v := .ref (gad G (s + 40))) hx hb hts hown hK hW (F_Store (i0 := s) G hG hs) i_Store rfl 2 (by decide) (nf_13 hE) (fun _ h => h) rfl d_PC_arrivePrepare_56 ?_
      refine lv_iload_n hx hb d_PC_arrivePrepare_59 rfl (lv_at hl 0 rfl) ?_
      refine e_iald hx hb hK hW (F_Sta (i0 := s) G hG hs) (j := t) ht (x := d (s + 40) (t)) (rfl) rfl d_PC_arrivePrepare_60 ?_
      refine lv_iconst (v := 4) hx hb d_PC_arrivePrepare_61 (by decide) ?_
      refine lv_icmp_ne (tgt := 81) hx hb d_PC_arrivePrepare_62 (by decide) (fun c_3 => ?_) (fun c_3 => ?_)
      · skip
        exact e_vret hx hb hr hlk hW (by unfold f_arrP; rw [if_neg c_1, if_neg c_2, if_neg c_3]) (Nat.zero_le _) (Nat.zero_le _) d_PC_arrivePrepare_81
      · skip
        refine lv_aload_n hx hb d_PC_arrivePrepare_65 rfl (lv_at hl 1 rfl) ?_
        refine lv_iload_n hx hb d_PC_arrivePrepare_66 rfl (lv_at hl 0 rfl) ?_
        refine e_cv (e_runV hx hb hml hown hts hE hbs hW (F_Store (i0 := s) G hG hs) rfl (c_Store_abort l G hG d s t hs ht) kw_227 kw_146 kw_147 kw_137 kw_144 rfl rfl hd_Store_abort ⟨Nat.le_of_ble_eq_true rfl, Nat.le_of_ble_eq_true rfl⟩ (As := [.int (nI t)]) (rest := []) rfl hl.1 rfl (Nat.le_of_ble_eq_true rfl) d_PC_arrivePrepare_67 ⟨Nat.le_of_ble_eq_true rfl, Nat.le_of_ble_eq_true rfl⟩) hW (fun d' H locs hp hW => ?_)
        have hp := hp.symm; subst hp
        refine lv_aload_n hx hb d_PC_arrivePrepare_70 rfl (lv_at hl 2 rfl) ?_
        refine lv_iload_n hx hb d_PC_arrivePrepare_71 rfl (lv_at hl 0 rfl) ?_
        refine lv_aload_n hx hb d_PC_arrivePrepare_72 rfl (lv_at hl 3 rfl) ?_
        refine e_getN (v := .int ((f_abort d s t) (61 + 420) (2))) hx hb hts hown hK hW (F_Msg (i0 := 61) G hG (by decide)) i_Msg rfl 2 (by decide) (nf_2 hE) (fun _ h => h) rfl d_PC_arrivePrepare_73 ?_
        refine e_top (v := nI s) (((congrFun (f_abort_off (by omega) (by omega)) _).trans (f2))) ?_
        refine lv_iconst (v := 0) hx hb d_PC_arrivePrepare_76 (by decide) ?_
        refine lv_iconst (v := 0) hx hb d_PC_arrivePrepare_77 (by decide) ?_
        refine e_cv (e_runV hx hb hml hown hts hE hbs hW (F_PC G hG) rfl (c_sendVotes l G hG (f_abort d s t) (nI t) (nI s) (0) (0) (NetOK_keep hN (f_abort_off (by omega) (by omega)) (f_abort_off (by omega) (by omega)))) kw_229 kw_230 kw_231 kw_104 kw_228 rfl rfl hd_PC_sendVotes ⟨Nat.le_of_ble_eq_true rfl, Nat.le_of_ble_eq_true rfl⟩ (As := [.int (nI t), .int (nI s), .int (0), .int (0)]) (rest := []) rfl hl.1 rfl (Nat.le_of_ble_eq_true rfl) d_PC_arrivePrepare_78 ⟨Nat.le_of_ble_eq_true rfl, Nat.le_of_ble_eq_true rfl⟩) hW (fun d' H locs hp hW => ?_)
        have hp := hp.symm; subst hp
        exact e_vret hx hb hr hlk hW (by unfold f_arrP; rw [if_neg c_1, if_neg c_2, if_pos c_3]) (Nat.zero_le _) (Nat.zero_le _) d_PC_arrivePrepare_81
  · skip
    refine lv_aload_n hx hb d_PC_arrivePrepare_25 rfl (lv_at hl 1 rfl) ?_
    refine e_getN (v := .ref (gad G (s + 40))) hx hb hts hown hK hW (F_Store (i0 := s) G hG hs) i_Store rfl 2 (by decide) (nf_13 hE) (fun _ h => h) rfl d_PC_arrivePrepare_26 ?_
    refine lv_iload_n hx hb d_PC_arrivePrepare_29 rfl (lv_at hl 0 rfl) ?_
    refine lv_iconst (v := 2) hx hb d_PC_arrivePrepare_30 (by decide) ?_
    refine e_iast hx hb hK hW (F_Sta (i0 := s) G hG hs) (j := t) ht rfl d_PC_arrivePrepare_31 (fun H locs hW => ?_)
    refine lv_aload_n hx hb d_PC_arrivePrepare_32 rfl (lv_at hl 2 rfl) ?_
    refine lv_iload_n hx hb d_PC_arrivePrepare_33 rfl (lv_at hl 0 rfl) ?_
    refine lv_aload_n hx hb d_PC_arrivePrepare_34 rfl (lv_at hl 3 rfl) ?_
    refine e_getN (v := .int ((up2 d (s + 40) (t) (2)) (61 + 420) (2))) hx hb hts hown hK hW (F_Msg (i0 := 61) G hG (by decide)) i_Msg rfl 2 (by decide) (nf_2 hE) (fun _ h => h) rfl d_PC_arrivePrepare_35 ?_
    refine e_top (v := nI s) ((up2_nc (by omega)).trans (f2)) ?_
    refine lv_iconst (v := 0) hx hb d_PC_arrivePrepare_38 (by decide) ?_
    refine lv_iconst (v := 1) hx hb d_PC_arrivePrepare_39 (by decide) ?_
    refine e_cv (e_runV hx hb hml hown hts hE hbs hW (F_PC G hG) rfl (c_sendVotes l G hG (up2 d (s + 40) (t) (2)) (nI t) (nI s) (0) (1) (NetOK_keep hN (up2_off (by omega)) (up2_off (by omega)))) kw_229 kw_230 kw_231 kw_104 kw_228 rfl rfl hd_PC_sendVotes ⟨Nat.le_of_ble_eq_true rfl, Nat.le_of_ble_eq_true rfl⟩ (As := [.int (nI t), .int (nI s), .int (0), .int (1)]) (rest := []) rfl hl.1 rfl (Nat.le_of_ble_eq_true rfl) d_PC_arrivePrepare_40 ⟨Nat.le_of_ble_eq_true rfl, Nat.le_of_ble_eq_true rfl⟩) hW (fun d' H locs hp hW => ?_)
    have hp := hp.symm; subst hp
    refine lv_goto (tgt := 81) hx hb d_PC_arrivePrepare_43 (by decide) ?_
    exact e_vret hx hb hr hlk hW (by unfold f_arrP; rw [if_pos c_1]) (Nat.zero_le _) (Nat.zero_le _) d_PC_arrivePrepare_81
set_option maxHeartbeats 4000000 in
set_option maxRecDepth 100000 in
theorem c_arriveAsk (l : Launch) (G : GT) (hG : GOK G) (d : DD) (a t : Nat) (ha : a < gn G) (ht : t < 8) (b : Int32) (hN : NetOK d) (f1 : d 481 1 = nI t) (f3 : d 481 3 = nI a) (f5 : d 481 5 = b) : Met l y_PC_arriveAsk (.code y_PC_arriveAsk b_PC_arriveAsk 4 none :: WS) { frames := 4, cells := 0, slots := 0, locals := 107 } (cPre G [.ref (gad G (0)), .ref (gad G (61 + 420))] d) (cQv G (fun u9 => u9 = f_arrA d a t b)) 0 0 (gAb G) := by
  refine c_start (own := R_PC) (by decide +kernel) rfl (Nat.le_of_ble_eq_true rfl) ?_
  intro p e zs zm below meth zc ls C hW hl
  obtain ⟨hx, hb, hr, hml, hown, hts, hlk, hE, hbs⟩ := C
  have hK := hE.1
  have hn3 := hG.1
  have hl : lv_has ls 4 [(0, .ref (gad G (0))), (1, .ref (gad G (61 + 420)))] := hl
  refine lv_aload_n hx hb d_PC_arriveAsk_0 rfl (lv_at hl 0 rfl) ?_
  refine e_get (v := .ref (gad G (2))) hx hb hts hown hK hW (F_PC G hG) i_PC rfl 1 (by decide) (hts _ kw_196) (fun _ h => h) rfl d_PC_arriveAsk_1 ?_
  refine lv_aload_n hx hb d_PC_arriveAsk_4 rfl (lv_at hl 1 rfl) ?_
  refine e_getN (v := .int (d (61 + 420) (3))) hx hb hts hown hK hW (F_Msg (i0 := 61) G hG (by decide)) i_Msg rfl 3 (by decide) (nf_3 hE) (fun _ h => h) rfl d_PC_arriveAsk_5 ?_
  refine e_top (v := nI a) (f3) ?_
  refine e_aldq hx hb hK hW (F_Accs G hG) (j := a) ha (q := a + 100) rfl rfl d_PC_arriveAsk_8 ?_
  refine lv_astore_n (lv' := [(2, .ref (gad G (a + 100))), (0, .ref (gad G (0))), (1, .ref (gad G (61 + 420)))]) hx hb d_PC_arriveAsk_9 rfl hl (by decide) rfl (fun ls hl => ?_)
  refine lv_aload_n hx hb d_PC_arriveAsk_10 rfl (lv_at hl 1 rfl) ?_
  refine e_get (v := .ref (gad G (6))) hx hb hts hown hK hW (F_PC G hG) i_PC rfl 6 (by decide) (hts _ kw_220) (fun _ h => h) rfl d_PC_arriveAsk_11 ?_
  refine lv_aload_n hx hb d_PC_arriveAsk_14 rfl (lv_at hl 2 rfl) ?_
  refine e_getN (v := .int (d (61 + 420) (1))) hx hb hts hown hK hW (F_Msg (i0 := 61) G hG (by decide)) i_Msg rfl 1 (by decide) (nf_1 hE) (fun _ h => h) rfl d_PC_arriveAsk_15 ?_
  refine e_top (v := nI t) (f1) ?_
  refine e_iald hx hb hK hW (F_Mem G hG) (j := t) ht (x := d (6) (t)) (rfl) rfl d_PC_arriveAsk_18 ?_
  refine lv_istore_n (lv' := [(3, .int (d (6) (t))), (2, .ref (gad G (a + 100))), (0, .ref (gad G (0))), (1, .ref (gad G (61 + 420)))]) hx hb d_PC_arriveAsk_19 rfl hl (by decide) rfl (fun ls hl => ?_)
  refine lv_aload_n hx hb d_PC_arriveAsk_20 rfl (lv_at hl 1 rfl) ?_
  refine lv_aload_n hx hb d_PC_arriveAsk_21 rfl (lv_at hl 3 rfl) ?_
  refine e_getN (v := .int (d (61 + 420) (1))) hx hb hts hown hK hW (F_Msg (i0 := 61) G hG (by decide)) i_Msg rfl 1 (by decide) (nf_1 hE) (fun _ h => h) rfl d_PC_arriveAsk_22 ?_
  refine e_top (v := nI t) (f1) ?_
  refine lv_iload_n hx hb d_PC_arriveAsk_25 rfl (lv_at hl 0 rfl) ?_
  refine lv_aload_n hx hb d_PC_arriveAsk_26 rfl (lv_at hl 3 rfl) ?_
  refine e_getN (v := .int (d (61 + 420) (5))) hx hb hts hown hK hW (F_Msg (i0 := 61) G hG (by decide)) i_Msg rfl 5 (by decide) (nf_5 hE) (fun _ h => h) rfl d_PC_arriveAsk_27 ?_
  refine e_top (v := b) (f5) ?_
  refine e_ci (e_runV hx hb hml hown hts hE hbs hW (F_Acc (i0 := a) G hG ha) rfl (c_Acc_above l G hG d a t ha ht (d (6) (t)) (b)) kw_234 kw_235 kw_236 kw_233 kw_232 rfl rfl hd_Acc_hasPromisedAbove ⟨Nat.le_of_ble_eq_true rfl, Nat.le_of_ble_eq_true rfl⟩ (As := [.int (nI t), .int (d (6) (t)), .int (b)]) (rest := []) rfl hl.1 rfl (Nat.le_of_ble_eq_true rfl) d_PC_arriveAsk_30 ⟨Nat.le_of_ble_eq_true rfl, Nat.le_of_ble_eq_true rfl⟩) hW (fun r d' H locs hp hW => ?_)
  obtain ⟨hp1, hp2⟩ := hp
  have hp1 := hp1.symm; subst hp1
  have hp2 := hp2.symm; subst hp2
  refine lv_if_eq (tgt := 37) hx hb d_PC_arriveAsk_33 (by decide) (fun c_1 => ?_) (fun c_1 => ?_)
  · skip
    refine lv_aload_n hx hb d_PC_arriveAsk_37 rfl (lv_at hl 1 rfl) ?_
    refine lv_aload_n hx hb d_PC_arriveAsk_38 rfl (lv_at hl 3 rfl) ?_
    refine e_getN (v := .int (d (61 + 420) (1))) hx hb hts hown hK hW (F_Msg (i0 := 61) G hG (by decide)) i_Msg rfl 1 (by decide) (nf_1 hE) (fun _ h => h) rfl d_PC_arriveAsk_39 ?_
    refine e_top (v := nI t) (f1) ?_
    refine lv_iload_n hx hb d_PC_arriveAsk_42 rfl (lv_at hl 0 rfl) ?_
    refine lv_aload_n hx hb d_PC_arriveAsk_43 rfl (lv_at hl 3 rfl) ?_
    refine e_getN (v := .int (d (61 + 420) (5))) hx hb hts hown hK hW (F_Msg (i0 := 61) G hG (by decide)) i_Msg rfl 5 (by decide) (nf_5 hE) (fun _ h => h) rfl d_PC_arriveAsk_44 ?_
    refine e_top (v := b) (f5) ?_
    refine e_cv (e_runV hx hb hml hown hts hE hbs hW (F_Acc (i0 := a) G hG ha) rfl (c_Acc_promise l G hG d a t ha ht (d (6) (t)) (b)) kw_238 kw_239 kw_240 kw_233 kw_237 rfl rfl hd_Acc_promise ⟨Nat.le_of_ble_eq_true rfl, Nat.le_of_ble_eq_true rfl⟩ (As := [.int (nI t), .int (d (6) (t)), .int (b)]) (rest := []) rfl hl.1 rfl (Nat.le_of_ble_eq_true rfl) d_PC_arriveAsk_47 ⟨Nat.le_of_ble_eq_true rfl, Nat.le_of_ble_eq_true rfl⟩) hW (fun d' H locs hp hW => ?_)
    have hp := hp.symm; subst hp
    refine lv_aload_n hx hb d_PC_arriveAsk_50 rfl (lv_at hl 2 rfl) ?_
    refine lv_aload_n hx hb d_PC_arriveAsk_51 rfl (lv_at hl 3 rfl) ?_
    refine e_getN (v := .int ((lpProm d a t (d (6) (t)) (b) 3) (61 + 420) (3))) hx hb hts hown hK hW (F_Msg (i0 := 61) G hG (by decide)) i_Msg rfl 3 (by decide) (nf_3 hE) (fun _ h => h) rfl d_PC_arriveAsk_52 ?_
    refine e_top (v := nI a) (((congrFun (lpProm_off (by omega)) _).trans (f3))) ?_
    refine lv_aload_n hx hb d_PC_arriveAsk_55 rfl (lv_at hl 3 rfl) ?_
    refine e_getN (v := .int ((lpProm d a t (d (6) (t)) (b) 3) (61 + 420) (1))) hx hb hts hown hK hW (F_Msg (i0 := 61) G hG (by decide)) i_Msg rfl 1 (by decide) (nf_1 hE) (fun _ h => h) rfl d_PC_arriveAsk_56 ?_
    refine e_top (v := nI t) (((congrFun (lpProm_off (by omega)) _).trans (f1))) ?_
    refine lv_aload_n hx hb d_PC_arriveAsk_59 rfl (lv_at hl 3 rfl) ?_
    refine e_getN (v := .int ((lpProm d a t (d (6) (t)) (b) 3) (61 + 420) (5))) hx hb hts hown hK hW (F_Msg (i0 := 61) G hG (by decide)) i_Msg rfl 5 (by decide) (nf_5 hE) (fun _ h => h) rfl d_PC_arriveAsk_60 ?_
    refine e_top (v := b) (((congrFun (lpProm_off (by omega)) _).trans (f5))) ?_
    refine e_cv (e_runV hx hb hml hown hts hE hbs hW (F_PC G hG) rfl (c_sendReply l G hG (lpProm d a t (d (6) (t)) (b) 3) a t ha ht (b) (NetOK_keep hN (lpProm_off (by omega)) (lpProm_off (by omega)))) kw_242 kw_243 kw_244 kw_104 kw_241 rfl rfl hd_PC_sendReply ⟨Nat.le_of_ble_eq_true rfl, Nat.le_of_ble_eq_true rfl⟩ (As := [.int (nI a), .int (nI t), .int (b)]) (rest := []) rfl hl.1 rfl (Nat.le_of_ble_eq_true rfl) d_PC_arriveAsk_63 ⟨Nat.le_of_ble_eq_true rfl, Nat.le_of_ble_eq_true rfl⟩) hW (fun d' H locs hp hW => ?_)
    have hp := hp.symm; subst hp
    exact e_vret hx hb hr hlk hW (by unfold f_arrA; rw [if_pos c_1]) (Nat.zero_le _) (Nat.zero_le _) d_PC_arriveAsk_66
  · skip
    exact e_vret hx hb hr hlk hW (by unfold f_arrA; rw [if_neg c_1]) (Nat.zero_le _) (Nat.zero_le _) d_PC_arriveAsk_36
set_option maxHeartbeats 4000000 in
set_option maxRecDepth 100000 in
theorem c_arriveVote (l : Launch) (G : GT) (hG : GOK G) (d : DD) (a t s : Nat) (ha : a < gn G) (ht : t < 8) (hs : s < 3) (b v : Int32) (hN : NetOK d) (f1 : d 481 1 = nI t) (f2 : d 481 2 = nI s) (f3 : d 481 3 = nI a) (f5 : d 481 5 = b) (f6 : d 481 6 = v) : Met l y_PC_arriveVote (.code y_PC_arriveVote b_PC_arriveVote 4 none :: WS) { frames := 4, cells := 0, slots := 0, locals := 105 } (cPre G [.ref (gad G (0)), .ref (gad G (61 + 420))] d) (cQv G (fun u9 => u9 = f_arrV d a t s b v)) 0 0 (gAb G) := by
  refine c_start (own := R_PC) (by decide +kernel) rfl (Nat.le_of_ble_eq_true rfl) ?_
  intro p e zs zm below meth zc ls C hW hl
  obtain ⟨hx, hb, hr, hml, hown, hts, hlk, hE, hbs⟩ := C
  have hK := hE.1
  have hn3 := hG.1
  have hl : lv_has ls 4 [(0, .ref (gad G (0))), (1, .ref (gad G (61 + 420)))] := hl
  refine lv_aload_n hx hb d_PC_arriveVote_0 rfl (lv_at hl 0 rfl) ?_
  refine e_get (v := .ref (gad G (2))) hx hb hts hown hK hW (F_PC G hG) i_PC rfl 1 (by decide) (hts _ kw_196) (fun _ h => h) rfl d_PC_arriveVote_1 ?_
  refine lv_aload_n hx hb d_PC_arriveVote_4 rfl (lv_at hl 1 rfl) ?_
  refine e_getN (v := .int (d (61 + 420) (3))) hx hb hts hown hK hW (F_Msg (i0 := 61) G hG (by decide)) i_Msg rfl 3 (by decide) (nf_3 hE) (fun _ h => h) rfl d_PC_arriveVote_5 ?_
  refine e_top (v := nI a) (f3) ?_
  refine e_aldq hx hb hK hW (F_Accs G hG) (j := a) ha (q := a + 100) rfl rfl d_PC_arriveVote_8 ?_
  refine lv_astore_n (lv' := [(2, .ref (gad G (a + 100))), (0, .ref (gad G (0))), (1, .ref (gad G (61 + 420)))]) hx hb d_PC_arriveVote_9 rfl hl (by decide) rfl (fun ls hl => ?_)
  refine lv_aload_n hx hb d_PC_arriveVote_10 rfl (lv_at hl 0 rfl) ?_
  refine e_getN (v := .ref (gad G (a + 110))) hx hb hts hown hK hW (F_Acc (i0 := a) G hG ha) i_Acc rfl 0 (by decide) (nf_14 hE) (fun _ h => h) rfl d_PC_arriveVote_11 ?_
  refine lv_aload_n hx hb d_PC_arriveVote_14 rfl (lv_at hl 2 rfl) ?_
  refine e_getN (v := .int (d (61 + 420) (1))) hx hb hts hown hK hW (F_Msg (i0 := 61) G hG (by decide)) i_Msg rfl 1 (by decide) (nf_1 hE) (fun _ h => h) rfl d_PC_arriveVote_15 ?_
  refine e_top (v := nI t) (f1) ?_
  refine e_aldA hx hb hK hW (F_Pro (i0 := a) G hG ha) (j := t) ht (q := 8 * a + t + 130) rfl rfl d_PC_arriveVote_18 ?_
  refine lv_aload_n hx hb d_PC_arriveVote_19 rfl (lv_at hl 2 rfl) ?_
  refine e_getN (v := .int (d (61 + 420) (2))) hx hb hts hown hK hW (F_Msg (i0 := 61) G hG (by decide)) i_Msg rfl 2 (by decide) (nf_2 hE) (fun _ h => h) rfl d_PC_arriveVote_20 ?_
  refine e_top (v := nI s) (f2) ?_
  refine e_iald hx hb hK hW (F_PrR (i0 := a) (i1 := t) G hG ha ht) (j := s) hs (x := d (8 * a + t + 130) (s)) (rfl) rfl d_PC_arriveVote_23 ?_
  refine lv_aload_n hx hb d_PC_arriveVote_24 rfl (lv_at hl 2 rfl) ?_
  refine e_getN (v := .int (d (61 + 420) (5))) hx hb hts hown hK hW (F_Msg (i0 := 61) G hG (by decide)) i_Msg rfl 5 (by decide) (nf_5 hE) (fun _ h => h) rfl d_PC_arriveVote_25 ?_
  refine e_top (v := b) (f5) ?_
  refine lv_icmp_le (tgt := 32) hx hb d_PC_arriveVote_28 (by decide) (fun c_1 => ?_) (fun c_1 => ?_)
  · skip
    refine lv_aload_n hx hb d_PC_arriveVote_32 rfl (lv_at hl 0 rfl) ?_
    refine lv_aload_n hx hb d_PC_arriveVote_33 rfl (lv_at hl 2 rfl) ?_
    refine e_getN (v := .int (d (61 + 420) (1))) hx hb hts hown hK hW (F_Msg (i0 := 61) G hG (by decide)) i_Msg rfl 1 (by decide) (nf_1 hE) (fun _ h => h) rfl d_PC_arriveVote_34 ?_
    refine e_top (v := nI t) (f1) ?_
    refine lv_aload_n hx hb d_PC_arriveVote_37 rfl (lv_at hl 2 rfl) ?_
    refine e_getN (v := .int (d (61 + 420) (2))) hx hb hts hown hK hW (F_Msg (i0 := 61) G hG (by decide)) i_Msg rfl 2 (by decide) (nf_2 hE) (fun _ h => h) rfl d_PC_arriveVote_38 ?_
    refine e_top (v := nI s) (f2) ?_
    refine lv_aload_n hx hb d_PC_arriveVote_41 rfl (lv_at hl 2 rfl) ?_
    refine e_getN (v := .int (d (61 + 420) (5))) hx hb hts hown hK hW (F_Msg (i0 := 61) G hG (by decide)) i_Msg rfl 5 (by decide) (nf_5 hE) (fun _ h => h) rfl d_PC_arriveVote_42 ?_
    refine e_top (v := b) (f5) ?_
    refine lv_aload_n hx hb d_PC_arriveVote_45 rfl (lv_at hl 2 rfl) ?_
    refine e_getN (v := .int (d (61 + 420) (6))) hx hb hts hown hK hW (F_Msg (i0 := 61) G hG (by decide)) i_Msg rfl 6 (by decide) (nf_6 hE) (fun _ h => h) rfl d_PC_arriveVote_46 ?_
    refine e_top (v := v) (f6) ?_
    refine e_cv (e_runV hx hb hml hown hts hE hbs hW (F_Acc (i0 := a) G hG ha) rfl (c_Acc_accept l G hG d a t s ha ht hs (b) (v)) kw_246 kw_247 kw_248 kw_233 kw_245 rfl rfl hd_Acc_accept ⟨Nat.le_of_ble_eq_true rfl, Nat.le_of_ble_eq_true rfl⟩ (As := [.int (nI t), .int (nI s), .int (b), .int (v)]) (rest := []) rfl hl.1 rfl (Nat.le_of_ble_eq_true rfl) d_PC_arriveVote_49 ⟨Nat.le_of_ble_eq_true rfl, Nat.le_of_ble_eq_true rfl⟩) hW (fun d' H locs hp hW => ?_)
    have hp := hp.symm; subst hp
    refine lv_iconst (v := 0) hx hb d_PC_arriveVote_52 (by decide) ?_
    refine lv_istore_n (lv' := [(3, .int (0)), (2, .ref (gad G (a + 100))), (0, .ref (gad G (0))), (1, .ref (gad G (61 + 420)))]) hx hb d_PC_arriveVote_53 rfl hl (by decide) rfl (fun ls hl => ?_)
    have L_54 : ∀ (N j : Nat), j ≤ 2 → 2 + 1 ≤ j + N → ∀ (H : Heap) (locs : List Loc) (ls : Array Slot), WD G zs.heap (lpTold (f_accept d a t s b v) (nI t) (nI s) (nI a) b v j) H locs → lv_has ls 4 [(3, .int (nI j)), (2, .ref (gad G (a + 100))), (0, .ref (gad G (0))), (1, .ref (gad G (61 + 420)))] → (NetOK (lpTold (f_accept d a t s b v) (nI t) (nI s) (nI a) b v j)) → ((lpTold (f_accept d a t s b v) (nI t) (nI s) (nI a) b v j) (61 + 420) (1) = nI t) → ((lpTold (f_accept d a t s b v) (nI t) (nI s) (nI a) b v j) (61 + 420) (2) = nI s) → ((lpTold (f_accept d a t s b v) (nI t) (nI s) (nI a) b v j) (61 + 420) (3) = nI a) → ((lpTold (f_accept d a t s b v) (nI t) (nI s) (nI a) b v j) (61 + 420) (5) = b) → ((lpTold (f_accept d a t s b v) (nI t) (nI s) (nI a) b v j) (61 + 420) (6) = v) → W p l e { frames := 4, cells := 0, slots := 0, locals := 105 } zs zm [.ref (gad G (0)), .ref (gad G (61 + 420))].toArray below meth zc H locs 0 0 (MQ below (cQv G (fun u9 => u9 = f_arrV d a t s b v)) [.ref (gad G (0)), .ref (gad G (61 + 420))].toArray zs 0 0 (gAb G)) (F0 zm 54 ls []) := by
      intro N
      induction N with
      | zero => intro j h1 h2; exact absurd h2 (by omega)
      | succ N ih_j =>
        intro j hi_j hN_j H locs ls hW hl hM_j f0_j f1_j f2_j f3_j f4_j
        refine lv_iload_n hx hb d_PC_arriveVote_54 rfl (lv_at hl 0 rfl) ?_
        refine lv_iconst (v := 2) hx hb d_PC_arriveVote_55 (by decide) ?_
        refine lv_icmp_ge (tgt := 71) hx hb d_PC_arriveVote_56 (by decide) (fun c_2 => ?_) (fun c_2 => ?_)
        · skip
          have e_j : 2 = j := (lp_out rfl (by omega) hi_j c_2).symm
          subst e_j
          exact e_vret hx hb hr hlk hW (by unfold f_arrV; rw [if_pos c_1]) (Nat.zero_le _) (Nat.zero_le _) d_PC_arriveVote_71
        · skip
          have lt_j : j < 2 := lp_in rfl (by omega) hi_j c_2
          refine lv_aload_n hx hb d_PC_arriveVote_59 rfl (lv_at hl 2 rfl) ?_
          refine lv_aload_n hx hb d_PC_arriveVote_60 rfl (lv_at hl 3 rfl) ?_
          refine lv_iload_n hx hb d_PC_arriveVote_61 rfl (lv_at hl 0 rfl) ?_
          refine e_cv (e_runV hx hb hml hown hts hE hbs hW (F_PC G hG) rfl (c_sendTold l G hG (lpTold (f_accept d a t s b v) (nI t) (nI s) (nI a) b v j) (nI j) (nI t) (nI s) (nI a) b v hM_j (f0_j) (f1_j) (f2_j) (f3_j) (f4_j)) kw_250 kw_251 kw_252 kw_104 kw_249 rfl rfl hd_PC_sendTold ⟨Nat.le_of_ble_eq_true rfl, Nat.le_of_ble_eq_true rfl⟩ (As := [.ref (gad G (61 + 420)), .int (nI j)]) (rest := []) rfl hl.1 rfl (Nat.le_of_ble_eq_true rfl) d_PC_arriveVote_62 ⟨Nat.le_of_ble_eq_true rfl, Nat.le_of_ble_eq_true rfl⟩) hW (fun d' H locs hp hW => ?_)
          have hp := hp.symm; subst hp
          refine lv_iinc (v := nI (j + 1)) (lv' := [(3, .int (nI (j + 1))), (2, .ref (gad G (a + 100))), (0, .ref (gad G (0))), (1, .ref (gad G (61 + 420)))]) hx hb d_PC_arriveVote_65 hl (k := 0) rfl (nI_1 (j)) (by decide) rfl (fun ls hl => ?_)
          refine lv_goto (tgt := 54) hx hb d_PC_arriveVote_68 (by decide) ?_
          exact ih_j (j + 1) (by omega) (by omega) _ _ _ (by rw [show lpTold (f_accept d a t s b v) (nI t) (nI s) (nI a) b v (j + 1) = (f_toldV (lpTold (f_accept d a t s b v) (nI t) (nI s) (nI a) b v j) (nI t) (nI s) (nI a) (nI j) b v) from rfl]; exact hW) (lv_sub hl [0, 1, 2, 3] rfl) (by rw [show lpTold (f_accept d a t s b v) (nI t) (nI s) (nI a) b v (j + 1) = (f_toldV (lpTold (f_accept d a t s b v) (nI t) (nI s) (nI a) b v j) (nI t) (nI s) (nI a) (nI j) b v) from rfl]; exact (show NetOK (f_toldV (lpTold (f_accept d a t s b v) (nI t) (nI s) (nI a) b v j) (nI t) (nI s) (nI a) (nI j) b v) from ((f_toldV_ok hM_j).1))) (by rw [show lpTold (f_accept d a t s b v) (nI t) (nI s) (nI a) b v (j + 1) = (f_toldV (lpTold (f_accept d a t s b v) (nI t) (nI s) (nI a) b v j) (nI t) (nI s) (nI a) (nI j) b v) from rfl]; exact (show (f_toldV (lpTold (f_accept d a t s b v) (nI t) (nI s) (nI a) b v j) (nI t) (nI s) (nI a) (nI j) b v) (61 + 420) (1) = nI t from (((congrFun ((f_toldV_ok hM_j).2 _ (by omega) (by omega)) _).trans (f0_j))))) (by rw [show lpTold (f_accept d a t s b v) (nI t) (nI s) (nI a) b v (j + 1) = (f_toldV (lpTold (f_accept d a t s b v) (nI t) (nI s) (nI a) b v j) (nI t) (nI s) (nI a) (nI j) b v) from rfl]; exact (show (f_toldV (lpTold (f_accept d a t s b v) (nI t) (nI s) (nI a) b v j) (nI t) (nI s) (nI a) (nI j) b v) (61 + 420) (2) = nI s from (((congrFun ((f_toldV_ok hM_j).2 _ (by omega) (by omega)) _).trans (f1_j))))) (by rw [show lpTold (f_accept d a t s b v) (nI t) (nI s) (nI a) b v (j + 1) = (f_toldV (lpTold (f_accept d a t s b v) (nI t) (nI s) (nI a) b v j) (nI t) (nI s) (nI a) (nI j) b v) from rfl]; exact (show (f_toldV (lpTold (f_accept d a t s b v) (nI t) (nI s) (nI a) b v j) (nI t) (nI s) (nI a) (nI j) b v) (61 + 420) (3) = nI a from (((congrFun ((f_toldV_ok hM_j).2 _ (by omega) (by omega)) _).trans (f2_j))))) (by rw [show lpTold (f_accept d a t s b v) (nI t) (nI s) (nI a) b v (j + 1) = (f_toldV (lpTold (f_accept d a t s b v) (nI t) (nI s) (nI a) b v j) (nI t) (nI s) (nI a) (nI j) b v) from rfl]; exact (show (f_toldV (lpTold (f_accept d a t s b v) (nI t) (nI s) (nI a) b v j) (nI t) (nI s) (nI a) (nI j) b v) (61 + 420) (5) = b from (((congrFun ((f_toldV_ok hM_j).2 _ (by omega) (by omega)) _).trans (f3_j))))) (by rw [show lpTold (f_accept d a t s b v) (nI t) (nI s) (nI a) b v (j + 1) = (f_toldV (lpTold (f_accept d a t s b v) (nI t) (nI s) (nI a) b v j) (nI t) (nI s) (nI a) (nI j) b v) from rfl]; exact (show (f_toldV (lpTold (f_accept d a t s b v) (nI t) (nI s) (nI a) b v j) (nI t) (nI s) (nI a) (nI j) b v) (61 + 420) (6) = v from (((congrFun ((f_toldV_ok hM_j).2 _ (by omega) (by omega)) _).trans (f4_j)))))
    exact L_54 (2 + 1) 0 (by omega) (by omega) _ _ _ hW (lv_sub hl [0, 1, 2, 3] rfl) (show NetOK (f_accept d a t s (b) (v)) from (NetOK_keep hN ((up2_off (by omega)).trans (up2_off (by omega))) ((up2_off (by omega)).trans (up2_off (by omega))))) (show (f_accept d a t s (b) (v)) (61 + 420) (1) = nI t from (((congrFun ((up2_off (by omega)).trans (up2_off (by omega))) _).trans (f1)))) (show (f_accept d a t s (b) (v)) (61 + 420) (2) = nI s from (((congrFun ((up2_off (by omega)).trans (up2_off (by omega))) _).trans (f2)))) (show (f_accept d a t s (b) (v)) (61 + 420) (3) = nI a from (((congrFun ((up2_off (by omega)).trans (up2_off (by omega))) _).trans (f3)))) (show (f_accept d a t s (b) (v)) (61 + 420) (5) = b from (((congrFun ((up2_off (by omega)).trans (up2_off (by omega))) _).trans (f5)))) (show (f_accept d a t s (b) (v)) (61 + 420) (6) = v from (((congrFun ((up2_off (by omega)).trans (up2_off (by omega))) _).trans (f6))))
  · skip
    exact e_vret hx hb hr hlk hW (by unfold f_arrV; rw [if_neg c_1]) (Nat.zero_le _) (Nat.zero_le _) d_PC_arriveVote_31
set_option maxHeartbeats 4000000 in
set_option maxRecDepth 100000 in
theorem c_arriveOutcome (l : Launch) (G : GT) (hG : GOK G) (d : DD) (s t : Nat) (hs : s < 3) (ht : t < 8) (v : Int32) (hN : NetOK d) (f1 : d 481 1 = nI t) (f2 : d 481 2 = nI s) (f6 : d 481 6 = v) : Met l y_PC_arriveOutcome (.code y_PC_arriveOutcome b_PC_arriveOutcome 5 none :: WS) { frames := 2, cells := 0, slots := 0, locals := 44 } (cPre G [.ref (gad G (0)), .ref (gad G (61 + 420))] d) (cQv G (fun u9 => u9 = f_arrO d s t v)) 0 0 (gAb G) := by
  refine c_start (own := R_PC) (by decide +kernel) rfl (Nat.le_of_ble_eq_true rfl) ?_
  intro p e zs zm below meth zc ls C hW hl
  obtain ⟨hx, hb, hr, hml, hown, hts, hlk, hE, hbs⟩ := C
  have hK := hE.1
  have hn3 := hG.1
  have hl : lv_has ls 5 [(0, .ref (gad G (0))), (1, .ref (gad G (61 + 420)))] := hl
  refine lv_aload_n hx hb d_PC_arriveOutcome_0 rfl (lv_at hl 0 rfl) ?_
  refine e_get (v := .ref (gad G (1))) hx hb hts hown hK hW (F_PC G hG) i_PC rfl 0 (by decide) (hts _ kw_197) (fun _ h => h) rfl d_PC_arriveOutcome_1 ?_
  refine lv_aload_n hx hb d_PC_arriveOutcome_4 rfl (lv_at hl 1 rfl) ?_
  refine e_getN (v := .int (d (61 + 420) (2))) hx hb hts hown hK hW (F_Msg (i0 := 61) G hG (by decide)) i_Msg rfl 2 (by decide) (nf_2 hE) (fun _ h => h) rfl d_PC_arriveOutcome_5 ?_
  refine e_top (v := nI s) (f2) ?_
  refine e_aldq hx hb hK hW (F_Stores G hG) (j := s) hs (q := s + 10) rfl rfl d_PC_arriveOutcome_8 ?_
  refine lv_astore_n (lv' := [(2, .ref (gad G (s + 10))), (0, .ref (gad G (0))), (1, .ref (gad G (61 + 420)))]) hx hb d_PC_arriveOutcome_9 rfl hl (by decide) rfl (fun ls hl => ?_)
  refine lv_aload_n hx hb d_PC_arriveOutcome_10 rfl (lv_at hl 2 rfl) ?_
  refine e_getN (v := .int (d (61 + 420) (1))) hx hb hts hown hK hW (F_Msg (i0 := 61) G hG (by decide)) i_Msg rfl 1 (by decide) (nf_1 hE) (fun _ h => h) rfl d_PC_arriveOutcome_11 ?_
  refine e_top (v := nI t) (f1) ?_
  refine lv_istore_n (lv' := [(3, .int (nI t)), (2, .ref (gad G (s + 10))), (0, .ref (gad G (0))), (1, .ref (gad G (61 + 420)))]) hx hb d_PC_arriveOutcome_14 rfl hl (by decide) rfl (fun ls hl => ?_)
  refine lv_aload_n hx hb d_PC_arriveOutcome_15 rfl (lv_at hl 1 rfl) ?_
  refine e_getN (v := .ref (gad G (s + 40))) hx hb hts hown hK hW (F_Store (i0 := s) G hG hs) i_Store rfl 2 (by decide) (nf_13 hE) (fun _ h => h) rfl d_PC_arriveOutcome_16 ?_
  refine lv_iload_n hx hb d_PC_arriveOutcome_19 rfl (lv_at hl 0 rfl) ?_
  refine e_iald hx hb hK hW (F_Sta (i0 := s) G hG hs) (j := t) ht (x := d (s + 40) (t)) (rfl) rfl d_PC_arriveOutcome_20 ?_
  refine lv_iconst (v := 2) hx hb d_PC_arriveOutcome_21 (by decide) ?_
  refine lv_icmp_ne (tgt := 29) hx hb d_PC_arriveOutcome_22 (by decide) (fun c_1 => ?_) (fun c_1 => ?_)
  · skip
    refine lv_iconst (v := 0) hx hb d_PC_arriveOutcome_29 (by decide) ?_
    refine lv_istore (lv' := [(4, .int (0)), (3, .int (nI t)), (2, .ref (gad G (s + 10))), (0, .ref (gad G (0))), (1, .ref (gad G (61 + 420)))]) hx hb d_PC_arriveOutcome_30 hl (by decide) rfl (fun ls hl => ?_)
    refine lv_iload hx hb d_PC_arriveOutcome_32 (lv_at hl 0 rfl) ?_
    refine lv_if_eq (tgt := 53) hx hb d_PC_arriveOutcome_34 (by decide) (fun c_2 => ?_) (fun c_2 => ?_)
    · skip
      refine lv_aload_n hx hb d_PC_arriveOutcome_53 rfl (lv_at hl 4 rfl) ?_
      refine e_getN (v := .int (d (61 + 420) (6))) hx hb hts hown hK hW (F_Msg (i0 := 61) G hG (by decide)) i_Msg rfl 6 (by decide) (nf_6 hE) (fun _ h => h) rfl d_PC_arriveOutcome_54 ?_
      refine e_top (v := v) (f6) ?_
      refine lv_if_ne (tgt := 78) hx hb d_PC_arriveOutcome_57 (by decide) (fun c_3 => ?_) (fun c_3 => ?_)
      · skip
        exact e_vret hx hb hr hlk hW (by unfold f_arrO; rw [if_neg c_1, if_neg c_3]) (Nat.zero_le _) (Nat.zero_le _) d_PC_arriveOutcome_78
      · skip
        refine lv_iload hx hb d_PC_arriveOutcome_60 (lv_at hl 0 rfl) ?_
        refine lv_if_ne (tgt := 73) hx hb d_PC_arriveOutcome_62 (by decide) (fun c_4 => ?_) (fun c_4 => ?_)
        · exact absurd c_4 (by decide)
        · skip
          refine lv_aload_n hx hb d_PC_arriveOutcome_65 rfl (lv_at hl 2 rfl) ?_
          refine lv_iload_n hx hb d_PC_arriveOutcome_66 rfl (lv_at hl 1 rfl) ?_
          refine e_ci (e_runV hx hb hml hown hts hE hbs hW (F_Store (i0 := s) G hG hs) rfl (c_Store_isOpen l G hG d s t hs ht) kw_254 kw_255 kw_256 kw_137 kw_253 rfl rfl hd_Store_isOpenFor ⟨Nat.le_of_ble_eq_true rfl, Nat.le_of_ble_eq_true rfl⟩ (As := [.int (nI t)]) (rest := []) rfl hl.1 rfl (Nat.le_of_ble_eq_true rfl) d_PC_arriveOutcome_67 ⟨Nat.le_of_ble_eq_true rfl, Nat.le_of_ble_eq_true rfl⟩) hW (fun r d' H locs hp hW => ?_)
          obtain ⟨hp1, hp2⟩ := hp
          have hp1 := hp1.symm; subst hp1
          have hp2 := hp2.symm; subst hp2
          refine lv_if_eq (tgt := 78) hx hb d_PC_arriveOutcome_70 (by decide) (fun c_5 => ?_) (fun c_5 => ?_)
          · skip
            exact e_vret hx hb hr hlk hW (by unfold f_arrO; rw [if_neg c_1, if_pos c_3, if_pos c_5]) (Nat.zero_le _) (Nat.zero_le _) d_PC_arriveOutcome_78
          · skip
            refine lv_aload_n hx hb d_PC_arriveOutcome_73 rfl (lv_at hl 2 rfl) ?_
            refine lv_iload_n hx hb d_PC_arriveOutcome_74 rfl (lv_at hl 1 rfl) ?_
            refine e_cv (e_runV hx hb hml hown hts hE hbs hW (F_Store (i0 := s) G hG hs) rfl (c_Store_abort l G hG d s t hs ht) kw_227 kw_146 kw_147 kw_137 kw_144 rfl rfl hd_Store_abort ⟨Nat.le_of_ble_eq_true rfl, Nat.le_of_ble_eq_true rfl⟩ (As := [.int (nI t)]) (rest := []) rfl hl.1 rfl (Nat.le_of_ble_eq_true rfl) d_PC_arriveOutcome_75 ⟨Nat.le_of_ble_eq_true rfl, Nat.le_of_ble_eq_true rfl⟩) hW (fun d' H locs hp hW => ?_)
            have hp := hp.symm; subst hp
            exact e_vret hx hb hr hlk hW (by unfold f_arrO; rw [if_neg c_1, if_pos c_3, if_neg c_5]) (Nat.zero_le _) (Nat.zero_le _) d_PC_arriveOutcome_78
    · exact absurd c_2 (by decide)
  · skip
    refine lv_iconst (v := 1) hx hb d_PC_arriveOutcome_25 (by decide) ?_
    refine lv_goto (tgt := 30) hx hb d_PC_arriveOutcome_26 (by decide) ?_
    refine lv_istore (lv' := [(4, .int (1)), (3, .int (nI t)), (2, .ref (gad G (s + 10))), (0, .ref (gad G (0))), (1, .ref (gad G (61 + 420)))]) hx hb d_PC_arriveOutcome_30 hl (by decide) rfl (fun ls hl => ?_)
    refine lv_iload hx hb d_PC_arriveOutcome_32 (lv_at hl 0 rfl) ?_
    refine lv_if_eq (tgt := 53) hx hb d_PC_arriveOutcome_34 (by decide) (fun c_6 => ?_) (fun c_6 => ?_)
    · exact absurd c_6 (by decide)
    · skip
      refine lv_aload_n hx hb d_PC_arriveOutcome_37 rfl (lv_at hl 4 rfl) ?_
      refine e_getN (v := .int (d (61 + 420) (6))) hx hb hts hown hK hW (F_Msg (i0 := 61) G hG (by decide)) i_Msg rfl 6 (by decide) (nf_6 hE) (fun _ h => h) rfl d_PC_arriveOutcome_38 ?_
      refine e_top (v := v) (f6) ?_
      refine lv_iconst (v := 1) hx hb d_PC_arriveOutcome_41 (by decide) ?_
      refine lv_icmp_ne (tgt := 53) hx hb d_PC_arriveOutcome_42 (by decide) (fun c_7 => ?_) (fun c_7 => ?_)
      · skip
        refine lv_aload_n hx hb d_PC_arriveOutcome_53 rfl (lv_at hl 4 rfl) ?_
        refine e_getN (v := .int (d (61 + 420) (6))) hx hb hts hown hK hW (F_Msg (i0 := 61) G hG (by decide)) i_Msg rfl 6 (by decide) (nf_6 hE) (fun _ h => h) rfl d_PC_arriveOutcome_54 ?_
        refine e_top (v := v) (f6) ?_
        refine lv_if_ne (tgt := 78) hx hb d_PC_arriveOutcome_57 (by decide) (fun c_8 => ?_) (fun c_8 => ?_)
        · skip
          exact e_vret hx hb hr hlk hW (by unfold f_arrO; rw [if_pos c_1, if_neg c_7, if_neg c_8]) (Nat.zero_le _) (Nat.zero_le _) d_PC_arriveOutcome_78
        · skip
          refine lv_iload hx hb d_PC_arriveOutcome_60 (lv_at hl 0 rfl) ?_
          refine lv_if_ne (tgt := 73) hx hb d_PC_arriveOutcome_62 (by decide) (fun c_9 => ?_) (fun c_9 => ?_)
          · skip
            refine lv_aload_n hx hb d_PC_arriveOutcome_73 rfl (lv_at hl 2 rfl) ?_
            refine lv_iload_n hx hb d_PC_arriveOutcome_74 rfl (lv_at hl 1 rfl) ?_
            refine e_cv (e_runV hx hb hml hown hts hE hbs hW (F_Store (i0 := s) G hG hs) rfl (c_Store_abort l G hG d s t hs ht) kw_227 kw_146 kw_147 kw_137 kw_144 rfl rfl hd_Store_abort ⟨Nat.le_of_ble_eq_true rfl, Nat.le_of_ble_eq_true rfl⟩ (As := [.int (nI t)]) (rest := []) rfl hl.1 rfl (Nat.le_of_ble_eq_true rfl) d_PC_arriveOutcome_75 ⟨Nat.le_of_ble_eq_true rfl, Nat.le_of_ble_eq_true rfl⟩) hW (fun d' H locs hp hW => ?_)
            have hp := hp.symm; subst hp
            exact e_vret hx hb hr hlk hW (by unfold f_arrO; rw [if_pos c_1, if_neg c_7, if_pos c_8]) (Nat.zero_le _) (Nat.zero_le _) d_PC_arriveOutcome_78
          · exact absurd c_9 (by decide)
      · skip
        refine lv_aload_n hx hb d_PC_arriveOutcome_45 rfl (lv_at hl 2 rfl) ?_
        refine lv_iload_n hx hb d_PC_arriveOutcome_46 rfl (lv_at hl 1 rfl) ?_
        refine e_cv (e_runV hx hb hml hown hts hE hbs hW (F_Store (i0 := s) G hG hs) rfl (c_Store_commit l G hG d s t hs ht) kw_258 kw_259 kw_260 kw_137 kw_257 rfl rfl hd_Store_commit ⟨Nat.le_of_ble_eq_true rfl, Nat.le_of_ble_eq_true rfl⟩ (As := [.int (nI t)]) (rest := []) rfl hl.1 rfl (Nat.le_of_ble_eq_true rfl) d_PC_arriveOutcome_47 ⟨Nat.le_of_ble_eq_true rfl, Nat.le_of_ble_eq_true rfl⟩) hW (fun d' H locs hp hW => ?_)
        have hp := hp.symm; subst hp
        refine lv_goto (tgt := 78) hx hb d_PC_arriveOutcome_50 (by decide) ?_
        exact e_vret hx hb hr hlk hW (by unfold f_arrO; rw [if_pos c_1, if_pos c_7]) (Nat.zero_le _) (Nat.zero_le _) d_PC_arriveOutcome_78
