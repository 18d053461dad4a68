theorem kw_261 : .code y_Led_keepReply b_Led_keepReply 4 none ∈ WS := List.mem_filter.mpr ⟨List.mem_append_right _ (List.mem_of_getElem? (i := 550) (by decide +kernel)), by decide +kernel⟩
theorem kw_262 : .methodLink R_PC 293 y_Led_keepReply ∈ WS := List.mem_filter.mpr ⟨List.mem_append_right _ (List.mem_of_getElem? (i := 547) (by decide +kernel)), by decide +kernel⟩
theorem kw_263 : .instanceMethod y_Led_keepReply ∈ WS := List.mem_filter.mpr ⟨List.mem_append_right _ (List.mem_of_getElem? (i := 548) (by decide +kernel)), by decide +kernel⟩
theorem kw_264 : .selects R_Led y_Led_keepReply y_Led_keepReply ∈ WS := List.mem_filter.mpr ⟨List.mem_append_right _ (List.mem_of_getElem? (i := 549) (by decide +kernel)), by decide +kernel⟩
theorem kw_265 : .code y_Led_countReplies b_Led_countReplies 3 (some .int) ∈ WS := List.mem_filter.mpr ⟨List.mem_append_right _ (List.mem_of_getElem? (i := 554) (by decide +kernel)), by decide +kernel⟩
theorem kw_266 : .methodLink R_PC 297 y_Led_countReplies ∈ WS := List.mem_filter.mpr ⟨List.mem_append_right _ (List.mem_of_getElem? (i := 551) (by decide +kernel)), by decide +kernel⟩
theorem kw_267 : .instanceMethod y_Led_countReplies ∈ WS := List.mem_filter.mpr ⟨List.mem_append_right _ (List.mem_of_getElem? (i := 552) (by decide +kernel)), by decide +kernel⟩
theorem kw_268 : .selects R_Led y_Led_countReplies y_Led_countReplies ∈ WS := List.mem_filter.mpr ⟨List.mem_append_right _ (List.mem_of_getElem? (i := 553) (by decide +kernel)), by decide +kernel⟩
theorem kw_269 : .fieldLink R_PC 43 "PaxosCommit" "majority" "I" ∈ WS := List.mem_filter.mpr ⟨List.mem_append_right _ (List.mem_of_getElem? (i := 185) (by decide +kernel)), by decide +kernel⟩
theorem kw_270 : .code y_Led_voteToPropose b_Led_voteToPropose 4 (some .int) ∈ WS := List.mem_filter.mpr ⟨List.mem_append_right _ (List.mem_of_getElem? (i := 558) (by decide +kernel)), by decide +kernel⟩
theorem kw_271 : .methodLink R_PC 300 y_Led_voteToPropose ∈ WS := List.mem_filter.mpr ⟨List.mem_append_right _ (List.mem_of_getElem? (i := 555) (by decide +kernel)), by decide +kernel⟩
theorem kw_272 : .instanceMethod y_Led_voteToPropose ∈ WS := List.mem_filter.mpr ⟨List.mem_append_right _ (List.mem_of_getElem? (i := 556) (by decide +kernel)), by decide +kernel⟩
theorem kw_273 : .selects R_Led y_Led_voteToPropose y_Led_voteToPropose ∈ WS := List.mem_filter.mpr ⟨List.mem_append_right _ (List.mem_of_getElem? (i := 557) (by decide +kernel)), by decide +kernel⟩
theorem hd_Led_keepReply : y_Led_keepReply.cls ≠ "java/lang/invoke/MethodHandle" ∧ y_Led_keepReply.cls ≠ "java/lang/invoke/VarHandle" ∧ (parseMethodDescriptor y_Led_keepReply.desc).map (fun d => d.parameters.length) = some 2 := by decide +kernel
theorem hd_Led_countReplies : y_Led_countReplies.cls ≠ "java/lang/invoke/MethodHandle" ∧ y_Led_countReplies.cls ≠ "java/lang/invoke/VarHandle" ∧ (parseMethodDescriptor y_Led_countReplies.desc).map (fun d => d.parameters.length) = some 0 := by decide +kernel
theorem hd_Led_voteToPropose : y_Led_voteToPropose.cls ≠ "java/lang/invoke/MethodHandle" ∧ y_Led_voteToPropose.cls ≠ "java/lang/invoke/VarHandle" ∧ (parseMethodDescriptor y_Led_voteToPropose.desc).map (fun d => d.parameters.length) = some 1 := by decide +kernel
set_option maxHeartbeats 4000000 in
set_option maxRecDepth 100000 in
theorem c_arriveReply (l : Launch) (G : GT) (hG : GOK G) (d : DD) (ld t a : Nat) (hld : ld < 2) (ht : t < 8) (ha : a < gn G) (b mj : Int32) (hN : NetOK d) (f1 : d 481 1 = nI t) (f3 : d 481 3 = nI a) (f4 : d 481 4 = nI ld) (f5 : d 481 5 = b) (fm : d 0 3 = mj) : Met l y_PC_arriveReply (.code y_PC_arriveReply b_PC_arriveReply 4 none :: WS) { frames := 4, cells := 0, slots := 0, locals := 108 } (cPre G [.ref (gad G (0)), .ref (gad G (61 + 420))] d) (cQv G (fun u9 => u9 = f_arrR d (gn G) (ld * 8 + t) a t b mj)) 0 0 (gAb G) := by
  refine c_start (own := R_PC) (by decide +kernel) rfl (Nat.le_of_ble_eq_true rfl) ?_
  intro p e zs zm below meth zc ls C hW hl
  obtain ⟨hx, hb, hr, hml, hown, hts, hlk, hE, hbs⟩ := C
  have hK := hE.1
  have hn3 := hG.1
  have hl : lv_has ls 4 [(0, .ref (gad G (0))), (1, .ref (gad G (61 + 420)))] := hl
  refine lv_aload_n hx hb d_PC_arriveReply_0 rfl (lv_at hl 0 rfl) ?_
  refine lv_aload_n hx hb d_PC_arriveReply_1 rfl (lv_at hl 1 rfl) ?_
  refine e_getN (v := .int (d (61 + 420) (4))) hx hb hts hown hK hW (F_Msg (i0 := 61) G hG (by decide)) i_Msg rfl 4 (by decide) (nf_4 hE) (fun _ h => h) rfl d_PC_arriveReply_2 ?_
  refine e_top (v := nI ld) (f4) ?_
  refine lv_aload_n hx hb d_PC_arriveReply_5 rfl (lv_at hl 1 rfl) ?_
  refine e_getN (v := .int (d (61 + 420) (1))) hx hb hts hown hK hW (F_Msg (i0 := 61) G hG (by decide)) i_Msg rfl 1 (by decide) (nf_1 hE) (fun _ h => h) rfl d_PC_arriveReply_6 ?_
  refine e_top (v := nI t) (f1) ?_
  refine e_cr (e_runV hx hb hml hown hts hE hbs hW (F_PC G hG) rfl (c_ledger l G hG d ld t hld ht) kw_203 kw_204 kw_205 kw_104 kw_202 rfl rfl hd_PC_ledger ⟨Nat.le_of_ble_eq_true rfl, Nat.le_of_ble_eq_true rfl⟩ (As := [.int (nI ld), .int (nI t)]) (rest := []) rfl hl.1 rfl (Nat.le_of_ble_eq_true rfl) d_PC_arriveReply_9 ⟨Nat.le_of_ble_eq_true rfl, Nat.le_of_ble_eq_true rfl⟩) hW (fun cn d' H locs hp hW => ?_)
  obtain ⟨hp1, hp2⟩ := hp
  have hp1 := hp1.symm; subst hp1
  have hp2 := hp2.symm; subst hp2
  refine lv_astore_n (lv' := [(2, .ref (gad G (ld * 8 + t + 200))), (0, .ref (gad G (0))), (1, .ref (gad G (61 + 420)))]) hx hb d_PC_arriveReply_12 rfl hl (by decide) rfl (fun ls hl => ?_)
  refine lv_aload_n hx hb d_PC_arriveReply_13 rfl (lv_at hl 2 rfl) ?_
  refine e_getN (v := .int (d (61 + 420) (5))) hx hb hts hown hK hW (F_Msg (i0 := 61) G hG (by decide)) i_Msg rfl 5 (by decide) (nf_5 hE) (fun _ h => h) rfl d_PC_arriveReply_14 ?_
  refine e_top (v := b) (f5) ?_
  refine lv_aload_n hx hb d_PC_arriveReply_17 rfl (lv_at hl 0 rfl) ?_
  refine e_getN (v := .int (d (ld * 8 + t + 200) (0))) hx hb hts hown hK hW (F_Led (i0 := ld * 8 + t) G hG (by omega)) i_Led rfl 0 (by decide) (nf_16 hE) (fun _ h => h) rfl d_PC_arriveReply_18 ?_
  refine lv_icmp_ne (tgt := 31) hx hb d_PC_arriveReply_21 (by decide) (fun c_1 => ?_) (fun c_1 => ?_)
  · skip
    exact e_vret hx hb hr hlk hW (by unfold f_arrR f_kept; rw [if_neg c_1]) (Nat.zero_le _) (Nat.zero_le _) d_PC_arriveReply_31
  · skip
    refine lv_aload_n hx hb d_PC_arriveReply_24 rfl (lv_at hl 0 rfl) ?_
    refine e_getN (v := .int (d (ld * 8 + t + 200) (1))) hx hb hts hown hK hW (F_Led (i0 := ld * 8 + t) G hG (by omega)) i_Led rfl 1 (by decide) (nf_17 hE) (fun _ h => h) rfl d_PC_arriveReply_25 ?_
    refine lv_if_eq (tgt := 32) hx hb d_PC_arriveReply_28 (by decide) (fun c_2 => ?_) (fun c_2 => ?_)
    · skip
      refine lv_aload_n hx hb d_PC_arriveReply_32 rfl (lv_at hl 0 rfl) ?_
      refine lv_aload_n hx hb d_PC_arriveReply_33 rfl (lv_at hl 2 rfl) ?_
      refine e_getN (v := .int (d (61 + 420) (3))) hx hb hts hown hK hW (F_Msg (i0 := 61) G hG (by decide)) i_Msg rfl 3 (by decide) (nf_3 hE) (fun _ h => h) rfl d_PC_arriveReply_34 ?_
      refine e_top (v := nI a) (f3) ?_
      refine lv_aload_n hx hb d_PC_arriveReply_37 rfl (lv_at hl 2 rfl) ?_
      refine e_getN (v := .ref (gad G (61 + 490))) hx hb hts hown hK hW (F_Msg (i0 := 61) G hG (by decide)) i_Msg rfl 7 (by decide) (nf_7 hE) (fun _ h => h) rfl d_PC_arriveReply_38 ?_
      refine e_cv (e_runV hx hb hml hown hts hE hbs hW (F_Led (i0 := ld * 8 + t) G hG (by omega)) rfl (c_Led_keepReply l G hG d (ld * 8 + t) a (by omega) ha) kw_262 kw_263 kw_264 kw_156 kw_261 rfl rfl hd_Led_keepReply ⟨Nat.le_of_ble_eq_true rfl, Nat.le_of_ble_eq_true rfl⟩ (As := [.int (nI a), .ref (gad G (61 + 490))]) (rest := []) rfl hl.1 rfl (Nat.le_of_ble_eq_true rfl) d_PC_arriveReply_41 ⟨Nat.le_of_ble_eq_true rfl, Nat.le_of_ble_eq_true rfl⟩) hW (fun d' H locs hp hW => ?_)
      have hp := hp.symm; subst hp
      refine lv_aload_n hx hb d_PC_arriveReply_44 rfl (lv_at hl 0 rfl) ?_
      refine e_ci (e_runV hx hb hml hown hts hE hbs hW (F_Led (i0 := ld * 8 + t) G hG (by omega)) rfl (c_Led_count l G hG (lpKR (up2 d ((ld * 8 + t) + 220) a 1) (ld * 8 + t) a 3) (ld * 8 + t) (by omega)) kw_266 kw_267 kw_268 kw_156 kw_265 rfl rfl hd_Led_countReplies ⟨Nat.le_of_ble_eq_true rfl, Nat.le_of_ble_eq_true rfl⟩ (As := []) (rest := []) rfl hl.1 rfl (Nat.le_of_ble_eq_true rfl) d_PC_arriveReply_45 ⟨Nat.le_of_ble_eq_true rfl, Nat.le_of_ble_eq_true rfl⟩) hW (fun r d' H locs hp hW => ?_)
      obtain ⟨hp1, hp2⟩ := hp
      have hp1 := hp1.symm; subst hp1
      have hp2 := hp2.symm; subst hp2
      refine lv_aload_n hx hb d_PC_arriveReply_48 rfl (lv_at hl 1 rfl) ?_
      refine e_get (v := .int ((lpKR (up2 d ((ld * 8 + t) + 220) a 1) (ld * 8 + t) a 3) (0) (3))) hx hb hts hown hK hW (F_PC G hG) i_PC rfl 3 (by decide) (hts _ kw_269) (fun _ h => h) rfl d_PC_arriveReply_49 ?_
      refine e_top (v := mj) (((congrFun ((lpKR_off (by omega)).trans (up2_off (by omega))) _).trans (fm))) ?_
      refine lv_icmp_ge (tgt := 56) hx hb d_PC_arriveReply_52 (by decide) (fun c_3 => ?_) (fun c_3 => ?_)
      · skip
        refine lv_aload_n hx hb d_PC_arriveReply_56 rfl (lv_at hl 0 rfl) ?_
        refine lv_iconst (v := 1) hx hb d_PC_arriveReply_57 (by decide) ?_
        refine e_putNz hx hb hts hown hK hW (F_Led (i0 := ld * 8 + t) G hG (by omega)) i_Led t_Led t_Led_ok n_Led rfl 1 (by decide) (nf_17 hE) (fun _ h => h) rfl (by decide +kernel) (fun _ => rfl) (fun _ => rfl) (by decide) d_PC_arriveReply_58 (fun H locs hW => ?_)
        refine lv_iconst (v := 0) hx hb d_PC_arriveReply_61 (by decide) ?_
        refine lv_istore_n (lv' := [(3, .int (0)), (2, .ref (gad G (ld * 8 + t + 200))), (0, .ref (gad G (0))), (1, .ref (gad G (61 + 420)))]) hx hb d_PC_arriveReply_62 rfl hl (by decide) rfl (fun ls hl => ?_)
        have L_63 : ∀ (N s : Nat), s ≤ 3 → 3 + 1 ≤ s + N → ∀ (H : Heap) (locs : List Loc) (ls : Array Slot), WD G zs.heap (lpPr (up2 (lpKR (up2 d (ld * 8 + t + 220) a 1) (ld * 8 + t) a 3) (ld * 8 + t + 200) 1 1) (gn G) (ld * 8 + t) t b s) H locs → lv_has ls 4 [(3, .int (nI s)), (2, .ref (gad G (ld * 8 + t + 200))), (0, .ref (gad G (0))), (1, .ref (gad G (61 + 420)))] → (NetOK (lpPr (up2 (lpKR (up2 d (ld * 8 + t + 220) a 1) (ld * 8 + t) a 3) (ld * 8 + t + 200) 1 1) (gn G) (ld * 8 + t) t b s)) → ((lpPr (up2 (lpKR (up2 d (ld * 8 + t + 220) a 1) (ld * 8 + t) a 3) (ld * 8 + t + 200) 1 1) (gn G) (ld * 8 + t) t b s) (61 + 420) (1) = nI t) → ((lpPr (up2 (lpKR (up2 d (ld * 8 + t + 220) a 1) (ld * 8 + t) a 3) (ld * 8 + t + 200) 1 1) (gn G) (ld * 8 + t) t b s) (61 + 420) (5) = b) → W p l e { frames := 4, cells := 0, slots := 0, locals := 108 } zs zm [.ref (gad G (0)), .ref (gad G (61 + 420))].toArray below meth zc H locs 0 0 (MQ below (cQv G (fun u9 => u9 = f_arrR d (gn G) (ld * 8 + t) a t b mj)) [.ref (gad G (0)), .ref (gad G (61 + 420))].toArray zs 0 0 (gAb G)) (F0 zm 63 ls []) := by
          intro N
          induction N with
          | zero => intro s h1 h2; exact absurd h2 (by omega)
          | succ N ih_s =>
            intro s hi_s hN_s H locs ls hW hl hM_s f0_s f1_s
            refine lv_iload_n hx hb d_PC_arriveReply_63 rfl (lv_at hl 0 rfl) ?_
            refine lv_iconst (v := 3) hx hb d_PC_arriveReply_64 (by decide) ?_
            refine lv_icmp_ge (tgt := 108) hx hb d_PC_arriveReply_65 (by decide) (fun c_4 => ?_) (fun c_4 => ?_)
            · skip
              have e_s : 3 = s := (lp_out rfl (by omega) hi_s c_4).symm
              subst e_s
              exact e_vret hx hb hr hlk hW (by unfold f_arrR f_kept; rw [if_pos c_1, if_pos c_2, if_pos c_3]) (Nat.zero_le _) (Nat.zero_le _) d_PC_arriveReply_108
            · skip
              have lt_s : s < 3 := lp_in rfl (by omega) hi_s c_4
              refine lv_aload_n hx hb d_PC_arriveReply_68 rfl (lv_at hl 2 rfl) ?_
              refine e_get (v := .ref (gad G (6))) hx hb hts hown hK hW (F_PC G hG) i_PC rfl 6 (by decide) (hts _ kw_220) (fun _ h => h) rfl d_PC_arriveReply_69 ?_
              refine lv_aload_n hx hb d_PC_arriveReply_72 rfl (lv_at hl 3 rfl) ?_
              refine e_getN (v := .int ((lpPr (up2 (lpKR (up2 d (ld * 8 + t + 220) a 1) (ld * 8 + t) a 3) (ld * 8 + t + 200) 1 1) (gn G) (ld * 8 + t) t b s) (61 + 420) (1))) hx hb hts hown hK hW (F_Msg (i0 := 61) G hG (by decide)) i_Msg rfl 1 (by decide) (nf_1 hE) (fun _ h => h) rfl d_PC_arriveReply_73 ?_
              refine e_top (v := nI t) (f0_s) ?_
              refine e_iald hx hb hK hW (F_Mem G hG) (j := t) ht (x := (lpPr (up2 (lpKR (up2 d (ld * 8 + t + 220) a 1) (ld * 8 + t) a 3) (ld * 8 + t + 200) 1 1) (gn G) (ld * 8 + t) t b s) (6) (t)) (rfl) rfl d_PC_arriveReply_76 ?_
              refine lv_iload_n hx hb d_PC_arriveReply_77 rfl (lv_at hl 0 rfl) ?_
              refine e_ci (e_runS hx hb hml hown hts hE hbs hW (c_has l G hG (lpPr (up2 (lpKR (up2 d (ld * 8 + t + 220) a 1) (ld * 8 + t) a 3) (ld * 8 + t + 200) 1 1) (gn G) (ld * 8 + t) t b s) s ((lpPr (up2 (lpKR (up2 d (ld * 8 + t + 220) a 1) (ld * 8 + t) a 3) (ld * 8 + t + 200) 1 1) (gn G) (ld * 8 + t) t b s) (6) (t))) kw_221 kw_142 kw_104 kw_141 rfl rfl hd_PC_has ⟨Nat.le_of_ble_eq_true rfl, Nat.le_of_ble_eq_true rfl⟩ (As := [.int ((lpPr (up2 (lpKR (up2 d (ld * 8 + t + 220) a 1) (ld * 8 + t) a 3) (ld * 8 + t + 200) 1 1) (gn G) (ld * 8 + t) t b s) (6) (t)), .int (nI s)]) (rest := []) rfl hl.1 rfl (Nat.le_of_ble_eq_true rfl) d_PC_arriveReply_78 ⟨Nat.le_of_ble_eq_true rfl, Nat.le_of_ble_eq_true rfl⟩) hW (fun r d' H locs hp hW => ?_)
              obtain ⟨hp1, hp2⟩ := hp
              have hp1 := hp1.symm; subst hp1
              have hp2 := hp2.symm; subst hp2
              refine lv_if_eq (tgt := 102) hx hb d_PC_arriveReply_81 (by decide) (fun c_5 => ?_) (fun c_5 => ?_)
              · skip
                refine lv_iinc (v := nI (s + 1)) (lv' := [(3, .int (nI (s + 1))), (2, .ref (gad G (ld * 8 + t + 200))), (0, .ref (gad G (0))), (1, .ref (gad G (61 + 420)))]) hx hb d_PC_arriveReply_102 hl (k := 0) rfl (nI_1 (s)) (by decide) rfl (fun ls hl => ?_)
                refine lv_goto (tgt := 63) hx hb d_PC_arriveReply_105 (by decide) ?_
                exact ih_s (s + 1) (by omega) (by omega) _ _ _ (by rw [show lpPr (up2 (lpKR (up2 d (ld * 8 + t + 220) a 1) (ld * 8 + t) a 3) (ld * 8 + t + 200) 1 1) (gn G) (ld * 8 + t) t b (s + 1) = (lpPr (up2 (lpKR (up2 d (ld * 8 + t + 220) a 1) (ld * 8 + t) a 3) (ld * 8 + t + 200) 1 1) (gn G) (ld * 8 + t) t b s) from if_pos c_5]; exact hW) (lv_sub hl [0, 1, 2, 3] rfl) (by rw [show lpPr (up2 (lpKR (up2 d (ld * 8 + t + 220) a 1) (ld * 8 + t) a 3) (ld * 8 + t + 200) 1 1) (gn G) (ld * 8 + t) t b (s + 1) = (lpPr (up2 (lpKR (up2 d (ld * 8 + t + 220) a 1) (ld * 8 + t) a 3) (ld * 8 + t + 200) 1 1) (gn G) (ld * 8 + t) t b s) from if_pos c_5]; exact (show NetOK (lpPr (up2 (lpKR (up2 d (ld * 8 + t + 220) a 1) (ld * 8 + t) a 3) (ld * 8 + t + 200) 1 1) (gn G) (ld * 8 + t) t b s) from hM_s)) (by rw [show lpPr (up2 (lpKR (up2 d (ld * 8 + t + 220) a 1) (ld * 8 + t) a 3) (ld * 8 + t + 200) 1 1) (gn G) (ld * 8 + t) t b (s + 1) = (lpPr (up2 (lpKR (up2 d (ld * 8 + t + 220) a 1) (ld * 8 + t) a 3) (ld * 8 + t + 200) 1 1) (gn G) (ld * 8 + t) t b s) from if_pos c_5]; exact (show (lpPr (up2 (lpKR (up2 d (ld * 8 + t + 220) a 1) (ld * 8 + t) a 3) (ld * 8 + t + 200) 1 1) (gn G) (ld * 8 + t) t b s) (61 + 420) (1) = nI t from (f0_s))) (by rw [show lpPr (up2 (lpKR (up2 d (ld * 8 + t + 220) a 1) (ld * 8 + t) a 3) (ld * 8 + t + 200) 1 1) (gn G) (ld * 8 + t) t b (s + 1) = (lpPr (up2 (lpKR (up2 d (ld * 8 + t + 220) a 1) (ld * 8 + t) a 3) (ld * 8 + t + 200) 1 1) (gn G) (ld * 8 + t) t b s) from if_pos c_5]; exact (show (lpPr (up2 (lpKR (up2 d (ld * 8 + t + 220) a 1) (ld * 8 + t) a 3) (ld * 8 + t + 200) 1 1) (gn G) (ld * 8 + t) t b s) (61 + 420) (5) = b from (f1_s)))
              · skip
                refine lv_aload_n hx hb d_PC_arriveReply_84 rfl (lv_at hl 2 rfl) ?_
                refine lv_aload_n hx hb d_PC_arriveReply_85 rfl (lv_at hl 3 rfl) ?_
                refine e_getN (v := .int ((lpPr (up2 (lpKR (up2 d (ld * 8 + t + 220) a 1) (ld * 8 + t) a 3) (ld * 8 + t + 200) 1 1) (gn G) (ld * 8 + t) t b s) (61 + 420) (1))) hx hb hts hown hK hW (F_Msg (i0 := 61) G hG (by decide)) i_Msg rfl 1 (by decide) (nf_1 hE) (fun _ h => h) rfl d_PC_arriveReply_86 ?_
                refine e_top (v := nI t) (f0_s) ?_
                refine lv_iload_n hx hb d_PC_arriveReply_89 rfl (lv_at hl 0 rfl) ?_
                refine lv_aload_n hx hb d_PC_arriveReply_90 rfl (lv_at hl 3 rfl) ?_
                refine e_getN (v := .int ((lpPr (up2 (lpKR (up2 d (ld * 8 + t + 220) a 1) (ld * 8 + t) a 3) (ld * 8 + t + 200) 1 1) (gn G) (ld * 8 + t) t b s) (61 + 420) (5))) hx hb hts hown hK hW (F_Msg (i0 := 61) G hG (by decide)) i_Msg rfl 5 (by decide) (nf_5 hE) (fun _ h => h) rfl d_PC_arriveReply_91 ?_
                refine e_top (v := b) (f1_s) ?_
                refine lv_aload_n hx hb d_PC_arriveReply_94 rfl (lv_at hl 1 rfl) ?_
                refine lv_iload_n hx hb d_PC_arriveReply_95 rfl (lv_at hl 0 rfl) ?_
                refine e_ci (e_runV hx hb hml hown hts hE hbs hW (F_Led (i0 := ld * 8 + t) G hG (by omega)) rfl (c_Led_vtp l G hG (lpPr (up2 (lpKR (up2 d (ld * 8 + t + 220) a 1) (ld * 8 + t) a 3) (ld * 8 + t + 200) 1 1) (gn G) (ld * 8 + t) t b s) (ld * 8 + t) s (by omega) (by omega)) kw_271 kw_272 kw_273 kw_156 kw_270 rfl rfl hd_Led_voteToPropose ⟨Nat.le_of_ble_eq_true rfl, Nat.le_of_ble_eq_true rfl⟩ (As := [.int (nI s)]) (rest := [.int (b), .int (nI s), .int (nI t), .ref (gad G (0))]) rfl hl.1 rfl (Nat.le_of_ble_eq_true rfl) d_PC_arriveReply_96 ⟨Nat.le_of_ble_eq_true rfl, Nat.le_of_ble_eq_true rfl⟩) hW (fun r d' H locs hp hW => ?_)
                obtain ⟨hp1, hp2⟩ := hp
                have hp1 := hp1.symm; subst hp1
                have hp2 := hp2.symm; subst hp2
                refine e_cv (e_runV hx hb hml hown hts hE hbs hW (F_PC G hG) rfl (c_sendVotes l G hG (lpPr (up2 (lpKR (up2 d (ld * 8 + t + 220) a 1) (ld * 8 + t) a 3) (ld * 8 + t + 200) 1 1) (gn G) (ld * 8 + t) t b s) (nI t) (nI s) (b) (vtpI (lpPr (up2 (lpKR (up2 d (ld * 8 + t + 220) a 1) (ld * 8 + t) a 3) (ld * 8 + t + 200) 1 1) (gn G) (ld * 8 + t) t b s) (gn G) (ld * 8 + t) s) hM_s) kw_229 kw_230 kw_231 kw_104 kw_228 rfl rfl hd_PC_sendVotes ⟨Nat.le_of_ble_eq_true rfl, Nat.le_of_ble_eq_true rfl⟩ (As := [.int (nI t), .int (nI s), .int (b), .int (vtpI (lpPr (up2 (lpKR (up2 d (ld * 8 + t + 220) a 1) (ld * 8 + t) a 3) (ld * 8 + t + 200) 1 1) (gn G) (ld * 8 + t) t b s) (gn G) (ld * 8 + t) s)]) (rest := []) rfl hl.1 rfl (Nat.le_of_ble_eq_true rfl) d_PC_arriveReply_99 ⟨Nat.le_of_ble_eq_true rfl, Nat.le_of_ble_eq_true rfl⟩) hW (fun d' H locs hp hW => ?_)
                have hp := hp.symm; subst hp
                refine lv_iinc (v := nI (s + 1)) (lv' := [(3, .int (nI (s + 1))), (2, .ref (gad G (ld * 8 + t + 200))), (0, .ref (gad G (0))), (1, .ref (gad G (61 + 420)))]) hx hb d_PC_arriveReply_102 hl (k := 0) rfl (nI_1 (s)) (by decide) rfl (fun ls hl => ?_)
                refine lv_goto (tgt := 63) hx hb d_PC_arriveReply_105 (by decide) ?_
                exact ih_s (s + 1) (by omega) (by omega) _ _ _ (by rw [show lpPr (up2 (lpKR (up2 d (ld * 8 + t + 220) a 1) (ld * 8 + t) a 3) (ld * 8 + t + 200) 1 1) (gn G) (ld * 8 + t) t b (s + 1) = (lpSV (lpPr (up2 (lpKR (up2 d (ld * 8 + t + 220) a 1) (ld * 8 + t) a 3) (ld * 8 + t + 200) 1 1) (gn G) (ld * 8 + t) t b s) (nI t) (nI s) (b) (vtpI (lpPr (up2 (lpKR (up2 d (ld * 8 + t + 220) a 1) (ld * 8 + t) a 3) (ld * 8 + t + 200) 1 1) (gn G) (ld * 8 + t) t b s) (gn G) (ld * 8 + t) s) (gn G)) from if_neg c_5]; exact hW) (lv_sub hl [0, 1, 2, 3] rfl) (by rw [show lpPr (up2 (lpKR (up2 d (ld * 8 + t + 220) a 1) (ld * 8 + t) a 3) (ld * 8 + t + 200) 1 1) (gn G) (ld * 8 + t) t b (s + 1) = (lpSV (lpPr (up2 (lpKR (up2 d (ld * 8 + t + 220) a 1) (ld * 8 + t) a 3) (ld * 8 + t + 200) 1 1) (gn G) (ld * 8 + t) t b s) (nI t) (nI s) (b) (vtpI (lpPr (up2 (lpKR (up2 d (ld * 8 + t + 220) a 1) (ld * 8 + t) a 3) (ld * 8 + t + 200) 1 1) (gn G) (ld * 8 + t) t b s) (gn G) (ld * 8 + t) s) (gn G)) from if_neg c_5]; exact (show NetOK (lpSV (lpPr (up2 (lpKR (up2 d (ld * 8 + t + 220) a 1) (ld * 8 + t) a 3) (ld * 8 + t + 200) 1 1) (gn G) (ld * 8 + t) t b s) (nI t) (nI s) (b) (vtpI (lpPr (up2 (lpKR (up2 d (ld * 8 + t + 220) a 1) (ld * 8 + t) a 3) (ld * 8 + t + 200) 1 1) (gn G) (ld * 8 + t) t b s) (gn G) (ld * 8 + t) s) (gn G)) from ((lpSV_ok hM_s _).1))) (by rw [show lpPr (up2 (lpKR (up2 d (ld * 8 + t + 220) a 1) (ld * 8 + t) a 3) (ld * 8 + t + 200) 1 1) (gn G) (ld * 8 + t) t b (s + 1) = (lpSV (lpPr (up2 (lpKR (up2 d (ld * 8 + t + 220) a 1) (ld * 8 + t) a 3) (ld * 8 + t + 200) 1 1) (gn G) (ld * 8 + t) t b s) (nI t) (nI s) (b) (vtpI (lpPr (up2 (lpKR (up2 d (ld * 8 + t + 220) a 1) (ld * 8 + t) a 3) (ld * 8 + t + 200) 1 1) (gn G) (ld * 8 + t) t b s) (gn G) (ld * 8 + t) s) (gn G)) from if_neg c_5]; exact (show (lpSV (lpPr (up2 (lpKR (up2 d (ld * 8 + t + 220) a 1) (ld * 8 + t) a 3) (ld * 8 + t + 200) 1 1) (gn G) (ld * 8 + t) t b s) (nI t) (nI s) (b) (vtpI (lpPr (up2 (lpKR (up2 d (ld * 8 + t + 220) a 1) (ld * 8 + t) a 3) (ld * 8 + t + 200) 1 1) (gn G) (ld * 8 + t) t b s) (gn G) (ld * 8 + t) s) (gn G)) (61 + 420) (1) = nI t from (((congrFun ((lpSV_ok hM_s _).2 _ (by omega) (by omega)) _).trans (f0_s))))) (by rw [show lpPr (up2 (lpKR (up2 d (ld * 8 + t + 220) a 1) (ld * 8 + t) a 3) (ld * 8 + t + 200) 1 1) (gn G) (ld * 8 + t) t b (s + 1) = (lpSV (lpPr (up2 (lpKR (up2 d (ld * 8 + t + 220) a 1) (ld * 8 + t) a 3) (ld * 8 + t + 200) 1 1) (gn G) (ld * 8 + t) t b s) (nI t) (nI s) (b) (vtpI (lpPr (up2 (lpKR (up2 d (ld * 8 + t + 220) a 1) (ld * 8 + t) a 3) (ld * 8 + t + 200) 1 1) (gn G) (ld * 8 + t) t b s) (gn G) (ld * 8 + t) s) (gn G)) from if_neg c_5]; exact (show (lpSV (lpPr (up2 (lpKR (up2 d (ld * 8 + t + 220) a 1) (ld * 8 + t) a 3) (ld * 8 + t + 200) 1 1) (gn G) (ld * 8 + t) t b s) (nI t) (nI s) (b) (vtpI (lpPr (up2 (lpKR (up2 d (ld * 8 + t + 220) a 1) (ld * 8 + t) a 3) (ld * 8 + t + 200) 1 1) (gn G) (ld * 8 + t) t b s) (gn G) (ld * 8 + t) s) (gn G)) (61 + 420) (5) = b from (((congrFun ((lpSV_ok hM_s _).2 _ (by omega) (by omega)) _).trans (f1_s)))))
        exact L_63 (3 + 1) 0 (by omega) (by omega) _ _ _ hW (lv_sub hl [0, 1, 2, 3] rfl) (show NetOK (up2 (lpKR (up2 d ((ld * 8 + t) + 220) a 1) (ld * 8 + t) a 3) (ld * 8 + t + 200) (1) (1)) from (NetOK_keep (NetOK_keep hN ((lpKR_off (by omega)).trans (up2_off (by omega))) ((lpKR_off (by omega)).trans (up2_off (by omega)))) (up2_off (by omega)) (up2_off (by omega)))) (show (up2 (lpKR (up2 d ((ld * 8 + t) + 220) a 1) (ld * 8 + t) a 3) (ld * 8 + t + 200) (1) (1)) (61 + 420) (1) = nI t from ((up2_nc (by omega)).trans (((congrFun ((lpKR_off (by omega)).trans (up2_off (by omega))) _).trans (f1))))) (show (up2 (lpKR (up2 d ((ld * 8 + t) + 220) a 1) (ld * 8 + t) a 3) (ld * 8 + t + 200) (1) (1)) (61 + 420) (5) = b from ((up2_nc (by omega)).trans (((congrFun ((lpKR_off (by omega)).trans (up2_off (by omega))) _).trans (f5)))))
      · skip
        exact e_vret hx hb hr hlk hW (by unfold f_arrR f_kept; rw [if_pos c_1, if_pos c_2, if_neg c_3]) (Nat.zero_le _) (Nat.zero_le _) d_PC_arriveReply_55
    · skip
      exact e_vret hx hb hr hlk hW (by unfold f_arrR f_kept; rw [if_pos c_1, if_neg c_2]) (Nat.zero_le _) (Nat.zero_le _) d_PC_arriveReply_31
