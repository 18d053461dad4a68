theorem kw_177 : .fieldLink R_Led 9 "PaxosCommit$Ledger" "ballot" "I" ∈ WS := List.mem_filter.mpr ⟨List.mem_append_right _ (List.mem_of_getElem? (i := 160) (by decide +kernel)), by decide +kernel⟩
theorem kw_178 : .code y_Math_floorMod b_Math_floorMod 3 (some .int) ∈ WS := List.mem_filter.mpr ⟨List.mem_append_right _ (List.mem_of_getElem? (i := 463) (by decide +kernel)), by decide +kernel⟩
theorem kw_179 : .methodLink R_Led 40 y_Math_floorMod ∈ WS := List.mem_filter.mpr ⟨List.mem_append_right _ (List.mem_of_getElem? (i := 461) (by decide +kernel)), by decide +kernel⟩
theorem kw_180 : .static y_Math_floorMod ∈ WS := List.mem_filter.mpr ⟨List.mem_append_right _ (List.mem_of_getElem? (i := 462) (by decide +kernel)), by decide +kernel⟩
theorem kw_181 : .fieldLink R_Led 15 "PaxosCommit$Ledger" "proposed" "Z" ∈ WS := List.mem_filter.mpr ⟨List.mem_append_right _ (List.mem_of_getElem? (i := 162) (by decide +kernel)), by decide +kernel⟩
theorem kw_182 : .code y_Led_dropReplies b_Led_dropReplies 2 none ∈ WS := List.mem_filter.mpr ⟨List.mem_append_right _ (List.mem_of_getElem? (i := 467) (by decide +kernel)), by decide +kernel⟩
theorem kw_183 : .methodLink R_Led 46 y_Led_dropReplies ∈ WS := List.mem_filter.mpr ⟨List.mem_append_right _ (List.mem_of_getElem? (i := 464) (by decide +kernel)), by decide +kernel⟩
theorem kw_184 : .instanceMethod y_Led_dropReplies ∈ WS := List.mem_filter.mpr ⟨List.mem_append_right _ (List.mem_of_getElem? (i := 465) (by decide +kernel)), by decide +kernel⟩
theorem kw_185 : .selects R_Led y_Led_dropReplies y_Led_dropReplies ∈ WS := List.mem_filter.mpr ⟨List.mem_append_right _ (List.mem_of_getElem? (i := 466) (by decide +kernel)), by decide +kernel⟩
theorem kw_186 : .fieldLink R_Led 19 "PaxosCommit$Ledger" "known" "I" ∈ WS := List.mem_filter.mpr ⟨List.mem_append_right _ (List.mem_of_getElem? (i := 164) (by decide +kernel)), by decide +kernel⟩
theorem kw_187 : .methodLink R_Led 34 y_Arrays_fill ∈ WS := List.mem_filter.mpr ⟨List.mem_append_right _ (List.mem_of_getElem? (i := 159) (by decide +kernel)), by decide +kernel⟩
theorem kw_188 : .code y_Integer_bitCount b_Integer_bitCount 1 (some .int) ∈ WS := List.mem_filter.mpr ⟨List.mem_append_right _ (List.mem_of_getElem? (i := 387) (by decide +kernel)), by decide +kernel⟩
theorem kw_189 : .methodLink R_Store 39 y_Integer_bitCount ∈ WS := List.mem_filter.mpr ⟨List.mem_append_right _ (List.mem_of_getElem? (i := 385) (by decide +kernel)), by decide +kernel⟩
theorem kw_190 : .static y_Integer_bitCount ∈ WS := List.mem_filter.mpr ⟨List.mem_append_right _ (List.mem_of_getElem? (i := 386) (by decide +kernel)), by decide +kernel⟩
theorem kw_191 : .code y_Msg_receiverKind b_Msg_receiverKind 1 (some .int) ∈ WS := List.mem_filter.mpr ⟨List.mem_append_right _ (List.mem_of_getElem? (i := 515) (by decide +kernel)), by decide +kernel⟩
theorem kw_192 : .methodLink R_Msg 49 y_Msg_receiverKind ∈ WS := List.mem_filter.mpr ⟨List.mem_append_right _ (List.mem_of_getElem? (i := 520) (by decide +kernel)), by decide +kernel⟩
theorem kw_193 : .instanceMethod y_Msg_receiverKind ∈ WS := List.mem_filter.mpr ⟨List.mem_append_right _ (List.mem_of_getElem? (i := 513) (by decide +kernel)), by decide +kernel⟩
theorem kw_194 : .selects R_Msg y_Msg_receiverKind y_Msg_receiverKind ∈ WS := List.mem_filter.mpr ⟨List.mem_append_right _ (List.mem_of_getElem? (i := 514) (by decide +kernel)), by decide +kernel⟩
theorem hd_Math_floorMod : y_Math_floorMod.cls ≠ "java/lang/invoke/MethodHandle" ∧ y_Math_floorMod.cls ≠ "java/lang/invoke/VarHandle" ∧ (parseMethodDescriptor y_Math_floorMod.desc).map (fun d => d.parameters.length) = some 2 := by decide +kernel
theorem hd_Led_dropReplies : y_Led_dropReplies.cls ≠ "java/lang/invoke/MethodHandle" ∧ y_Led_dropReplies.cls ≠ "java/lang/invoke/VarHandle" ∧ (parseMethodDescriptor y_Led_dropReplies.desc).map (fun d => d.parameters.length) = some 0 := by decide +kernel
theorem hd_Integer_bitCount : y_Integer_bitCount.cls ≠ "java/lang/invoke/MethodHandle" ∧ y_Integer_bitCount.cls ≠ "java/lang/invoke/VarHandle" ∧ (parseMethodDescriptor y_Integer_bitCount.desc).map (fun d => d.parameters.length) = some 1 := by decide +kernel
theorem hd_Msg_receiverKind : y_Msg_receiverKind.cls ≠ "java/lang/invoke/MethodHandle" ∧ y_Msg_receiverKind.cls ≠ "java/lang/invoke/VarHandle" ∧ (parseMethodDescriptor y_Msg_receiverKind.desc).map (fun d => d.parameters.length) = some 0 := by decide +kernel
set_option maxHeartbeats 4000000 in
set_option maxRecDepth 100000 in
theorem c_Led_raise (l : Launch) (G : GT) (hG : GOK G) (d : DD) (i : Nat) (hi : i < 16) (ld : Int32) : Met l y_Led_raiseBallot (.code y_Led_raiseBallot b_Led_raiseBallot 2 (some .int) :: WS) { frames := 1, cells := 0, slots := 0, locals := 22 } (cPre G [.ref (gad G (i + 200)), .int (ld)] d) (cQi G (fun r9 u9 => r9 = rsI (d (i + 200) 0) ld ∧ u9 = f_raise d (gn G) i ld)) 0 0 (gAb G) := by
  refine c_start (own := R_Led) (by decide +kernel) rfl (Nat.le_of_ble_eq_true rfl) ?_
  intro p e zs zm below meth zc ls C hW hl
  obtain ⟨hx, hb, hr, hml, hown, hts, hlk, hE, hbs⟩ := C
  have hK := hE.1
  have hn3 := hG.1
  have hl : lv_has ls 2 [(0, .ref (gad G (i + 200))), (1, .int (ld))] := hl
  refine lv_aload_n hx hb d_Led_raiseBallot_0 rfl (lv_at hl 0 rfl) ?_
  refine lv_dup hx hb d_Led_raiseBallot_1 rfl ?_
  refine e_get (v := .int (d (i + 200) (0))) hx hb hts hown hK hW (F_Led (i0 := i) G hG hi) i_Led rfl 0 (by decide) (hts _ kw_177) (fun _ h => h) rfl d_Led_raiseBallot_2 ?_
  refine lv_iconst (v := 1) hx hb d_Led_raiseBallot_5 (by decide) ?_
  refine lv_iadd hx hb d_Led_raiseBallot_6 ?_
  refine e_put hx hb hts hown hK hW (F_Led (i0 := i) G hG hi) i_Led t_Led t_Led_ok n_Led rfl 0 (by decide) (hts _ kw_177) (fun _ h => h) rfl (by decide +kernel) (fun _ => rfl) (fun _ => rfl) d_Led_raiseBallot_7 (fun H locs hW => ?_)
  refine lv_aload_n hx hb d_Led_raiseBallot_10 rfl (lv_at hl 0 rfl) ?_
  refine e_get (v := .int ((up2 d (i + 200) (0) ((d (i + 200) (0)) + (1))) (i + 200) (0))) hx hb hts hown hK hW (F_Led (i0 := i) G hG hi) i_Led rfl 0 (by decide) (hts _ kw_177) (fun _ h => h) rfl d_Led_raiseBallot_11 ?_
  refine e_top (v := (d (i + 200) (0)) + (1)) (up2_self) ?_
  refine lv_iconst (v := 2) hx hb d_Led_raiseBallot_14 (by decide) ?_
  refine e_ci (e_runS hx hb hml hown hts hE hbs hW (c_floorMod l G hG (up2 d (i + 200) (0) ((d (i + 200) (0)) + (1))) ((d (i + 200) (0)) + (1)) (2) (by decide)) kw_179 kw_180 kw_1 kw_178 rfl rfl hd_Math_floorMod ⟨Nat.le_of_ble_eq_true rfl, Nat.le_of_ble_eq_true rfl⟩ (As := [.int ((d (i + 200) (0)) + (1)), .int (2)]) (rest := []) rfl hl.1 rfl (Nat.le_of_ble_eq_true rfl) d_Led_raiseBallot_15 ⟨Nat.le_of_ble_eq_true rfl, Nat.le_of_ble_eq_true rfl⟩) hW (fun r d' H locs hp hW => ?_)
  obtain ⟨hp1, hp2⟩ := hp
  have hp1 := hp1.symm; subst hp1
  have hp2 := hp2.symm; subst hp2
  refine lv_iload_n hx hb d_Led_raiseBallot_18 rfl (lv_at hl 1 rfl) ?_
  refine lv_icmp_eq (tgt := 32) hx hb d_Led_raiseBallot_19 (by decide) (fun c_1 => ?_) (fun c_1 => ?_)
  · skip
    refine lv_aload_n hx hb d_Led_raiseBallot_32 rfl (lv_at hl 0 rfl) ?_
    refine lv_iconst (v := 0) hx hb d_Led_raiseBallot_33 (by decide) ?_
    refine e_putz hx hb hts hown hK hW (F_Led (i0 := i) G hG hi) i_Led t_Led t_Led_ok n_Led rfl 1 (by decide) (hts _ kw_181) (fun _ h => h) rfl (by decide +kernel) (fun _ => rfl) (fun _ => rfl) (by decide) d_Led_raiseBallot_34 (fun H locs hW => ?_)
    refine lv_aload_n hx hb d_Led_raiseBallot_37 rfl (lv_at hl 0 rfl) ?_
    refine e_cv (e_runV hx hb hml hown hts hE hbs hW (F_Led (i0 := i) G hG hi) rfl (c_Led_drop l G hG (up2 (up2 d (i + 200) (0) ((d (i + 200) (0)) + (1))) (i + 200) (1) (0)) i hi) kw_183 kw_184 kw_185 kw_156 kw_182 rfl rfl hd_Led_dropReplies ⟨Nat.le_of_ble_eq_true rfl, Nat.le_of_ble_eq_true rfl⟩ (As := []) (rest := []) rfl hl.1 rfl (Nat.le_of_ble_eq_true rfl) d_Led_raiseBallot_38 ⟨Nat.le_of_ble_eq_true rfl, Nat.le_of_ble_eq_true rfl⟩) hW (fun d' H locs hp hW => ?_)
    have hp := hp.symm; subst hp
    refine lv_aload_n hx hb d_Led_raiseBallot_41 rfl (lv_at hl 0 rfl) ?_
    refine e_get (v := .int ((lpDrop (up2 (up2 d (i + 200) (0) ((d (i + 200) (0)) + (1))) (i + 200) (1) (0)) i (gn G)) (i + 200) (0))) hx hb hts hown hK hW (F_Led (i0 := i) G hG hi) i_Led rfl 0 (by decide) (hts _ kw_177) (fun _ h => h) rfl d_Led_raiseBallot_42 ?_
    refine e_top (v := (d (i + 200) (0)) + (1)) (((congrFun (lpDrop_off (by omega)) _).trans ((up2_nk (by decide)).trans up2_self))) ?_
    exact e_iret hx hb hr hlk hW ⟨by unfold rsI; rw [if_pos c_1], by unfold f_raise f_raise0; rw [if_pos c_1]⟩ (Nat.zero_le _) (Nat.zero_le _) d_Led_raiseBallot_45
  · skip
    refine lv_aload_n hx hb d_Led_raiseBallot_22 rfl (lv_at hl 0 rfl) ?_
    refine lv_dup hx hb d_Led_raiseBallot_23 rfl ?_
    refine e_get (v := .int ((up2 d (i + 200) (0) ((d (i + 200) (0)) + (1))) (i + 200) (0))) hx hb hts hown hK hW (F_Led (i0 := i) G hG hi) i_Led rfl 0 (by decide) (hts _ kw_177) (fun _ h => h) rfl d_Led_raiseBallot_24 ?_
    refine e_top (v := (d (i + 200) (0)) + (1)) (up2_self) ?_
    refine lv_iconst (v := 1) hx hb d_Led_raiseBallot_27 (by decide) ?_
    refine lv_iadd hx hb d_Led_raiseBallot_28 ?_
    refine e_put hx hb hts hown hK hW (F_Led (i0 := i) G hG hi) i_Led t_Led t_Led_ok n_Led rfl 0 (by decide) (hts _ kw_177) (fun _ h => h) rfl (by decide +kernel) (fun _ => rfl) (fun _ => rfl) d_Led_raiseBallot_29 (fun H locs hW => ?_)
    refine lv_aload_n hx hb d_Led_raiseBallot_32 rfl (lv_at hl 0 rfl) ?_
    refine lv_iconst (v := 0) hx hb d_Led_raiseBallot_33 (by decide) ?_
    refine e_putz hx hb hts hown hK hW (F_Led (i0 := i) G hG hi) i_Led t_Led t_Led_ok n_Led rfl 1 (by decide) (hts _ kw_181) (fun _ h => h) rfl (by decide +kernel) (fun _ => rfl) (fun _ => rfl) (by decide) d_Led_raiseBallot_34 (fun H locs hW => ?_)
    refine lv_aload_n hx hb d_Led_raiseBallot_37 rfl (lv_at hl 0 rfl) ?_
    refine e_cv (e_runV hx hb hml hown hts hE hbs hW (F_Led (i0 := i) G hG hi) rfl (c_Led_drop l G hG (up2 (up2 (up2 d (i + 200) (0) ((d (i + 200) (0)) + (1))) (i + 200) (0) (((d (i + 200) (0)) + (1)) + (1))) (i + 200) (1) (0)) i hi) kw_183 kw_184 kw_185 kw_156 kw_182 rfl rfl hd_Led_dropReplies ⟨Nat.le_of_ble_eq_true rfl, Nat.le_of_ble_eq_true rfl⟩ (As := []) (rest := []) rfl hl.1 rfl (Nat.le_of_ble_eq_true rfl) d_Led_raiseBallot_38 ⟨Nat.le_of_ble_eq_true rfl, Nat.le_of_ble_eq_true rfl⟩) hW (fun d' H locs hp hW => ?_)
    have hp := hp.symm; subst hp
    refine lv_aload_n hx hb d_Led_raiseBallot_41 rfl (lv_at hl 0 rfl) ?_
    refine e_get (v := .int ((lpDrop (up2 (up2 (up2 d (i + 200) (0) ((d (i + 200) (0)) + (1))) (i + 200) (0) (((d (i + 200) (0)) + (1)) + (1))) (i + 200) (1) (0)) i (gn G)) (i + 200) (0))) hx hb hts hown hK hW (F_Led (i0 := i) G hG hi) i_Led rfl 0 (by decide) (hts _ kw_177) (fun _ h => h) rfl d_Led_raiseBallot_42 ?_
    refine e_top (v := ((d (i + 200) (0)) + (1)) + (1)) (((congrFun (lpDrop_off (by omega)) _).trans ((up2_nk (by decide)).trans up2_self))) ?_
    exact e_iret hx hb hr hlk hW ⟨by unfold rsI; rw [if_neg c_1], by unfold f_raise f_raise0; rw [if_neg c_1]⟩ (Nat.zero_le _) (Nat.zero_le _) d_Led_raiseBallot_45
set_option maxHeartbeats 4000000 in
set_option maxRecDepth 100000 in
theorem c_Led_forget (l : Launch) (G : GT) (hG : GOK G) (d : DD) (i : Nat) (hi : i < 16) : Met l y_Led_forget (.code y_Led_forget b_Led_forget 2 none :: WS) { frames := 1, cells := 0, slots := 0, locals := 23 } (cPre G [.ref (gad G (i + 200))] d) (cQv G (fun u9 => u9 = f_forget d (gn G) i)) 0 0 (gAb G) := by
  refine c_start (own := R_Led) (by decide +kernel) rfl (Nat.le_of_ble_eq_true rfl) ?_
  intro p e zs zm below meth zc ls C hW hl
  obtain ⟨hx, hb, hr, hml, hown, hts, hlk, hE, hbs⟩ := C
  have hK := hE.1
  have hn3 := hG.1
  have hl : lv_has ls 2 [(0, .ref (gad G (i + 200)))] := hl
  refine lv_aload_n hx hb d_Led_forget_0 rfl (lv_at hl 0 rfl) ?_
  refine lv_iconst (v := 1) hx hb d_Led_forget_1 (by decide) ?_
  refine e_putz hx hb hts hown hK hW (F_Led (i0 := i) G hG hi) i_Led t_Led t_Led_ok n_Led rfl 1 (by decide) (hts _ kw_181) (fun _ h => h) rfl (by decide +kernel) (fun _ => rfl) (fun _ => rfl) (by decide) d_Led_forget_2 (fun H locs hW => ?_)
  refine lv_aload_n hx hb d_Led_forget_5 rfl (lv_at hl 0 rfl) ?_
  refine lv_iconst (v := -1) hx hb d_Led_forget_6 (by decide) ?_
  refine e_put hx hb hts hown hK hW (F_Led (i0 := i) G hG hi) i_Led t_Led t_Led_ok n_Led rfl 2 (by decide) (hts _ kw_186) (fun _ h => h) rfl (by decide +kernel) (fun _ => rfl) (fun _ => rfl) d_Led_forget_7 (fun H locs hW => ?_)
  refine lv_aload_n hx hb d_Led_forget_10 rfl (lv_at hl 0 rfl) ?_
  refine e_cv (e_runV hx hb hml hown hts hE hbs hW (F_Led (i0 := i) G hG hi) rfl (c_Led_drop l G hG (up2 (up2 d (i + 200) (1) (1)) (i + 200) (2) (-1)) i hi) kw_183 kw_184 kw_185 kw_156 kw_182 rfl rfl hd_Led_dropReplies ⟨Nat.le_of_ble_eq_true rfl, Nat.le_of_ble_eq_true rfl⟩ (As := []) (rest := []) rfl hl.1 rfl (Nat.le_of_ble_eq_true rfl) d_Led_forget_11 ⟨Nat.le_of_ble_eq_true rfl, Nat.le_of_ble_eq_true rfl⟩) hW (fun d' H locs hp hW => ?_)
  have hp := hp.symm; subst hp
  refine lv_iconst (v := 0) hx hb d_Led_forget_14 (by decide) ?_
  refine lv_istore_n (lv' := [(1, .int (0)), (0, .ref (gad G (i + 200)))]) hx hb d_Led_forget_15 rfl hl (by decide) rfl (fun ls hl => ?_)
  have L_16 : ∀ (N a : Nat), a ≤ gn G → gn G + 1 ≤ a + N → ∀ (H : Heap) (locs : List Loc) (ls : Array Slot), WD G zs.heap (lpForget (lpDrop (up2 (up2 d (i + 200) 1 1) (i + 200) 2 (-1)) i (gn G)) i a) H locs → lv_has ls 2 [(1, .int (nI a)), (0, .ref (gad G (i + 200)))] → W p l e { frames := 1, cells := 0, slots := 0, locals := 23 } zs zm [.ref (gad G (i + 200))].toArray below meth zc H locs 0 0 (MQ below (cQv G (fun u9 => u9 = f_forget d (gn G) i)) [.ref (gad G (i + 200))].toArray zs 0 0 (gAb G)) (F0 zm 16 ls []) := by
    intro N
    induction N with
    | zero => intro a h1 h2; exact absurd h2 (by omega)
    | succ N ih_a =>
      intro a hi_a hN_a H locs ls hW hl
      refine lv_iload_n hx hb d_Led_forget_16 rfl (lv_at hl 0 rfl) ?_
      refine lv_aload_n hx hb d_Led_forget_17 rfl (lv_at hl 1 rfl) ?_
      refine e_get (v := .ref (gad G (i + 260))) hx hb hts hown hK hW (F_Led (i0 := i) G hG hi) i_Led rfl 5 (by decide) (hts _ kw_153) (fun _ h => h) rfl d_Led_forget_18 ?_
      refine e_lenA hx hb hK hW (F_Lat (i0 := i) G hG hi) d_Led_forget_21 ?_
      refine lv_icmp_ge (tgt := 41) hx hb d_Led_forget_22 (by decide) (fun c_1 => ?_) (fun c_1 => ?_)
      · skip
        have e_a : gn G = a := (lp_out rfl (by omega) hi_a c_1).symm
        subst e_a
        exact e_vret hx hb hr hlk hW (by exact rfl) (Nat.zero_le _) (Nat.zero_le _) d_Led_forget_41
      · skip
        have lt_a : a < gn G := lp_in rfl (by omega) hi_a c_1
        refine lv_aload_n hx hb d_Led_forget_25 rfl (lv_at hl 1 rfl) ?_
        refine e_get (v := .ref (gad G (i + 260))) hx hb hts hown hK hW (F_Led (i0 := i) G hG hi) i_Led rfl 5 (by decide) (hts _ kw_153) (fun _ h => h) rfl d_Led_forget_26 ?_
        refine lv_iload_n hx hb d_Led_forget_29 rfl (lv_at hl 0 rfl) ?_
        refine e_aldA hx hb hK hW (F_Lat (i0 := i) G hG hi) (j := a) (by omega) (q := 4 * i + a + 350) rfl rfl d_Led_forget_30 ?_
        refine lv_iconst (v := -1) hx hb d_Led_forget_31 (by decide) ?_
        refine e_cv (e_runS hx hb hml hown hts hE hbs hW (c_fill l G hG (lpForget (lpDrop (up2 (up2 d (i + 200) 1 1) (i + 200) 2 (-1)) i (gn G)) i a) (4 * i + a + 350) (3) (-1) (F_LtR (i0 := i) (i1 := a) G hG hi (by omega))) kw_187 kw_162 kw_26 kw_160 rfl rfl hd_Arrays_fill ⟨Nat.le_of_ble_eq_true rfl, Nat.le_of_ble_eq_true rfl⟩ (As := [.ref (gad G (4 * i + a + 350)), .int (-1)]) (rest := []) rfl hl.1 rfl (Nat.le_of_ble_eq_true rfl) d_Led_forget_32 ⟨Nat.le_of_ble_eq_true rfl, Nat.le_of_ble_eq_true rfl⟩) hW (fun d' H locs hp hW => ?_)
        have hp := hp.symm; subst hp
        refine lv_iinc (v := nI (a + 1)) (lv' := [(1, .int (nI (a + 1))), (0, .ref (gad G (i + 200)))]) hx hb d_Led_forget_35 hl (k := 0) rfl (nI_1 (a)) (by decide) rfl (fun ls hl => ?_)
        refine lv_goto (tgt := 16) hx hb d_Led_forget_38 (by decide) ?_
        exact ih_a (a + 1) (by omega) (by omega) _ _ _ hW (lv_sub hl [0, 1] rfl)
  exact L_16 (gn G + 1) 0 (by omega) (by omega) _ _ _ hW (lv_sub hl [0, 1] rfl)
set_option maxHeartbeats 4000000 in
set_option maxRecDepth 100000 in
theorem c_Store_keys (l : Launch) (G : GT) (hG : GOK G) (d : DD) (s t : Nat) (hs : s < 3) (ht : t < 8) : Met l y_Store_keysWritten (.code y_Store_keysWritten b_Store_keysWritten 2 (some .int) :: WS) { frames := 1, cells := 0, slots := 0, locals := 20 } (cPre G [.ref (gad G (s + 10)), .int (nI t)] d) (cQi G (fun r9 u9 => r9 = bcI (d (s + 50) t) ∧ u9 = d)) 0 0 (gAb G) := by
  refine c_start (own := R_Store) (by decide +kernel) rfl (Nat.le_of_ble_eq_true rfl) ?_
  intro p e zs zm below meth zc ls C hW hl
  obtain ⟨hx, hb, hr, hml, hown, hts, hlk, hE, hbs⟩ := C
  have hK := hE.1
  have hn3 := hG.1
  have hl : lv_has ls 2 [(0, .ref (gad G (s + 10))), (1, .int (nI t))] := hl
  refine lv_aload_n hx hb d_Store_keysWritten_0 rfl (lv_at hl 0 rfl) ?_
  refine e_get (v := .ref (gad G (s + 50))) hx hb hts hown hK hW (F_Store (i0 := s) G hG hs) i_Store rfl 3 (by decide) (hts _ kw_132) (fun _ h => h) rfl d_Store_keysWritten_1 ?_
  refine lv_iload_n hx hb d_Store_keysWritten_4 rfl (lv_at hl 1 rfl) ?_
  refine e_iald hx hb hK hW (F_Wrt (i0 := s) G hG hs) (j := t) ht (x := d (s + 50) (t)) (rfl) rfl d_Store_keysWritten_5 ?_
  refine e_ci (e_runS hx hb hml hown hts hE hbs hW (c_bitCount l G hG d (d (s + 50) (t))) kw_189 kw_190 kw_49 kw_188 rfl rfl hd_Integer_bitCount ⟨Nat.le_of_ble_eq_true rfl, Nat.le_of_ble_eq_true rfl⟩ (As := [.int (d (s + 50) (t))]) (rest := []) rfl hl.1 rfl (Nat.le_of_ble_eq_true rfl) d_Store_keysWritten_6 ⟨Nat.le_of_ble_eq_true rfl, Nat.le_of_ble_eq_true rfl⟩) hW (fun r d' H locs hp hW => ?_)
  obtain ⟨hp1, hp2⟩ := hp
  have hp1 := hp1.symm; subst hp1
  have hp2 := hp2.symm; subst hp2
  exact e_iret hx hb hr hlk hW ⟨by exact rfl, by exact rfl⟩ (Nat.zero_le _) (Nat.zero_le _) d_Store_keysWritten_9
set_option maxHeartbeats 4000000 in
set_option maxRecDepth 100000 in
theorem c_Msg_rcv (l : Launch) (G : GT) (hG : GOK G) (d : DD) (j : Nat) (hj : j < 62) : Met l y_Msg_receiver (.code y_Msg_receiver b_Msg_receiver 1 (some .int) :: WS) { frames := 1, cells := 0, slots := 0, locals := 20 } (cPre G [.ref (gad G (j + 420))] d) (cQi G (fun r9 u9 => r9 = rcvI d j ∧ u9 = d)) 0 0 (gAb G) := by
  refine c_start (own := R_Msg) (by decide +kernel) rfl (Nat.le_of_ble_eq_true rfl) ?_
  intro p e zs zm below meth zc ls C hW hl
  obtain ⟨hx, hb, hr, hml, hown, hts, hlk, hE, hbs⟩ := C
  have hK := hE.1
  have hn3 := hG.1
  have hl : lv_has ls 1 [(0, .ref (gad G (j + 420)))] := hl
  refine lv_aload_n hx hb d_Msg_receiver_0 rfl (lv_at hl 0 rfl) ?_
  refine e_ci (e_runV hx hb hml hown hts hE hbs hW (F_Msg (i0 := j) G hG hj) rfl (c_Msg_rk l G hG d j hj) kw_192 kw_193 kw_194 kw_115 kw_191 rfl rfl hd_Msg_receiverKind ⟨Nat.le_of_ble_eq_true rfl, Nat.le_of_ble_eq_true rfl⟩ (As := []) (rest := []) rfl hl.1 rfl (Nat.le_of_ble_eq_true rfl) d_Msg_receiver_1 ⟨Nat.le_of_ble_eq_true rfl, Nat.le_of_ble_eq_true rfl⟩) hW (fun r d' H locs hp hW => ?_)
  obtain ⟨hp1, hp2⟩ := hp
  have hp1 := hp1.symm; subst hp1
  have hp2 := hp2.symm; subst hp2
  by_cases c_1 : (rkI (d (j + 420) 0)) = 0
  · skip
    refine lv_lookup (off := 28) (tgt := 32) hx hb d_Msg_receiver_4 (by decide) (by rw [c_1]; decide) (by decide) ?_
    refine lv_aload_n hx hb d_Msg_receiver_32 rfl (lv_at hl 0 rfl) ?_
    refine e_get (v := .int (d (j + 420) (2))) hx hb hts hown hK hW (F_Msg (i0 := j) G hG hj) i_Msg rfl 2 (by decide) (hts _ kw_118) (fun _ h => h) rfl d_Msg_receiver_33 ?_
    exact e_iret hx hb hr hlk hW ⟨by unfold rcvI; rw [if_pos c_1], by exact rfl⟩ (Nat.zero_le _) (Nat.zero_le _) d_Msg_receiver_36
  · skip
    by_cases c_2 : (rkI (d (j + 420) 0)) = 1
    · skip
      refine lv_lookup (off := 33) (tgt := 37) hx hb d_Msg_receiver_4 (by decide) (by rw [c_2]; decide) (by decide) ?_
      refine lv_aload_n hx hb d_Msg_receiver_37 rfl (lv_at hl 0 rfl) ?_
      refine e_get (v := .int (d (j + 420) (3))) hx hb hts hown hK hW (F_Msg (i0 := j) G hG hj) i_Msg rfl 3 (by decide) (hts _ kw_119) (fun _ h => h) rfl d_Msg_receiver_38 ?_
      exact e_iret hx hb hr hlk hW ⟨by unfold rcvI; rw [if_neg c_1, if_pos c_2], by exact rfl⟩ (Nat.zero_le _) (Nat.zero_le _) d_Msg_receiver_41
    · skip
      refine lv_lookup (off := 38) (tgt := 42) hx hb d_Msg_receiver_4 (by decide) (by show Op.lookupswitch.offset [(0, 28), (1, 33)] 38 _ = _; rw [lv_osw c_1 (by decide), lv_osw c_2 (by decide)]; rfl) (by decide) ?_
      refine lv_aload_n hx hb d_Msg_receiver_42 rfl (lv_at hl 0 rfl) ?_
      refine e_get (v := .int (d (j + 420) (4))) hx hb hts hown hK hW (F_Msg (i0 := j) G hG hj) i_Msg rfl 4 (by decide) (hts _ kw_120) (fun _ h => h) rfl d_Msg_receiver_43 ?_
      exact e_iret hx hb hr hlk hW ⟨by unfold rcvI; rw [if_neg c_1, if_neg c_2], by exact rfl⟩ (Nat.zero_le _) (Nat.zero_le _) d_Msg_receiver_46
set_option maxHeartbeats 4000000 in
set_option maxRecDepth 100000 in
theorem c_Net_remove (l : Launch) (G : GT) (hG : GOK G) (d : DD) (i z q : Nat) (hq : q < 60) (hiz : i < z) (hz60 : z ≤ 60) (fz : d 5 1 = nI z) (fq : d 8 i = nI q) (hrow : ∀ j, j < 60 → ∃ q, q < 60 ∧ d 8 j = nI q) : Met l y_Net_remove (.code y_Net_remove b_Net_remove 4 none :: WS) { frames := 0, cells := 0, slots := 0, locals := 0 } (cPre G [.ref (gad G (5)), .int (nI i)] d) (cQv G (fun u9 => u9 = f_remove d i z q)) 0 0 (gAb G) := by
  refine c_start (own := R_Net) (by decide +kernel) rfl (Nat.le_of_ble_eq_true rfl) ?_
  intro p e zs zm below meth zc ls C hW hl
  obtain ⟨hx, hb, hr, hml, hown, hts, hlk, hE, hbs⟩ := C
  have hK := hE.1
  have hn3 := hG.1
  have hl : lv_has ls 4 [(0, .ref (gad G (5))), (1, .int (nI i))] := hl
  refine lv_aload_n hx hb d_Net_remove_0 rfl (lv_at hl 0 rfl) ?_
  refine e_get (v := .ref (gad G (8))) hx hb hts hown hK hW (F_Net G hG) i_Net rfl 0 (by decide) (hts _ kw_170) (fun _ h => h) rfl d_Net_remove_1 ?_
  refine lv_iload_n hx hb d_Net_remove_4 rfl (lv_at hl 1 rfl) ?_
  refine e_aldq hx hb hK hW (F_Row G hG) (j := i) (by omega) (q := q + 420) (rw_at (fq) (by omega)) rfl d_Net_remove_5 ?_
  refine lv_astore_n (lv' := [(2, .ref (gad G (q + 420))), (0, .ref (gad G (5))), (1, .int (nI i))]) hx hb d_Net_remove_6 rfl hl (by decide) rfl (fun ls hl => ?_)
  refine lv_iload_n hx hb d_Net_remove_7 rfl (lv_at hl 2 rfl) ?_
  refine lv_istore_n (lv' := [(3, .int (nI i)), (2, .ref (gad G (q + 420))), (0, .ref (gad G (5))), (1, .int (nI i))]) hx hb d_Net_remove_8 rfl hl (by decide) rfl (fun ls hl => ?_)
  have L_9 : ∀ (N m : Nat), m ≤ z - 1 - i → z - 1 - i + 1 ≤ m + N → ∀ (H : Heap) (locs : List Loc) (ls : Array Slot), WD G zs.heap (shR d i m) H locs → lv_has ls 4 [(3, .int (nI (i + m))), (2, .ref (gad G (q + 420))), (0, .ref (gad G (5))), (1, .int (nI i))] → ((shR d i m) (5) (1) = nI z) → W p l e { frames := 0, cells := 0, slots := 0, locals := 0 } zs zm [.ref (gad G (5)), .int (nI i)].toArray below meth zc H locs 0 0 (MQ below (cQv G (fun u9 => u9 = f_remove d i z q)) [.ref (gad G (5)), .int (nI i)].toArray zs 0 0 (gAb G)) (F0 zm 9 ls []) := by
    intro N
    induction N with
    | zero => intro m h1 h2; exact absurd h2 (by omega)
    | succ N ih_m =>
      intro m hi_m hN_m H locs ls hW hl f0_m
      refine lv_iload_n hx hb d_Net_remove_9 rfl (lv_at hl 0 rfl) ?_
      refine lv_aload_n hx hb d_Net_remove_10 rfl (lv_at hl 2 rfl) ?_
      refine e_get (v := .int ((shR d i m) (5) (1))) hx hb hts hown hK hW (F_Net G hG) i_Net rfl 1 (by decide) (hts _ kw_169) (fun _ h => h) rfl d_Net_remove_11 ?_
      refine e_top (v := nI z) (f0_m) ?_
      refine lv_iconst (v := 1) hx hb d_Net_remove_14 (by decide) ?_
      refine lv_isub hx hb d_Net_remove_15 ?_
      refine e_top (v := nI (z - 1)) (pk_sub (a := z) (b := 1) (by omega)) ?_
      refine lv_icmp_ge (tgt := 39) hx hb d_Net_remove_16 (by decide) (fun c_1 => ?_) (fun c_1 => ?_)
      · skip
        have e_m : z - 1 - i = m := by have := lp_out (k := i + m) (B := z - 1) rfl (by omega) (by omega) c_1; omega
        subst e_m
        refine lv_aload_n hx hb d_Net_remove_39 rfl (lv_at hl 2 rfl) ?_
        refine lv_dup hx hb d_Net_remove_40 rfl ?_
        refine e_get (v := .int ((shR d i (z - 1 - i)) (5) (1))) hx hb hts hown hK hW (F_Net G hG) i_Net rfl 1 (by decide) (hts _ kw_169) (fun _ h => h) rfl d_Net_remove_41 ?_
        refine e_top (v := nI z) (f0_m) ?_
        refine lv_iconst (v := 1) hx hb d_Net_remove_44 (by decide) ?_
        refine lv_isub hx hb d_Net_remove_45 ?_
        refine e_top (v := nI (z - 1)) (pk_sub (a := z) (b := 1) (by omega)) ?_
        refine e_put hx hb hts hown hK hW (F_Net G hG) i_Net t_Net t_Net_ok n_Net rfl 1 (by decide) (hts _ kw_169) (fun _ h => h) rfl (by decide +kernel) (fun _ => rfl) (fun _ => rfl) d_Net_remove_46 (fun H locs hW => ?_)
        refine lv_aload_n hx hb d_Net_remove_49 rfl (lv_at hl 2 rfl) ?_
        refine e_get (v := .ref (gad G (8))) hx hb hts hown hK hW (F_Net G hG) i_Net rfl 0 (by decide) (hts _ kw_170) (fun _ h => h) rfl d_Net_remove_50 ?_
        refine lv_aload_n hx hb d_Net_remove_53 rfl (lv_at hl 2 rfl) ?_
        refine e_get (v := .int ((up2 (shR d i (z - 1 - i)) (5) (1) (nI (z - 1))) (5) (1))) hx hb hts hown hK hW (F_Net G hG) i_Net rfl 1 (by decide) (hts _ kw_169) (fun _ h => h) rfl d_Net_remove_54 ?_
        refine e_top (v := nI (z - 1)) (up2_self) ?_
        refine lv_aload_n hx hb d_Net_remove_57 rfl (lv_at hl 1 rfl) ?_
        refine e_astR hG hx hb hK hW (j := z - 1) (by omega) (q := q) (by omega) rfl d_Net_remove_58 (fun H locs hW => ?_)
        exact e_vret hx hb hr hlk hW (by exact rfl) (Nat.zero_le _) (Nat.zero_le _) d_Net_remove_59
      · skip
        have lt_m : m < z - 1 - i := by have := lp_in (k := i + m) (B := z - 1) rfl (by omega) (by omega) c_1; omega
        obtain ⟨q2, hq2, fq2⟩ := shR_row (i := i) hrow m (by omega) (i + m + 1) (by omega)
        refine lv_aload_n hx hb d_Net_remove_19 rfl (lv_at hl 2 rfl) ?_
        refine e_get (v := .ref (gad G (8))) hx hb hts hown hK hW (F_Net G hG) i_Net rfl 0 (by decide) (hts _ kw_170) (fun _ h => h) rfl d_Net_remove_20 ?_
        refine lv_iload_n hx hb d_Net_remove_23 rfl (lv_at hl 0 rfl) ?_
        refine lv_aload_n hx hb d_Net_remove_24 rfl (lv_at hl 2 rfl) ?_
        refine e_get (v := .ref (gad G (8))) hx hb hts hown hK hW (F_Net G hG) i_Net rfl 0 (by decide) (hts _ kw_170) (fun _ h => h) rfl d_Net_remove_25 ?_
        refine lv_iload_n hx hb d_Net_remove_28 rfl (lv_at hl 0 rfl) ?_
        refine lv_iconst (v := 1) hx hb d_Net_remove_29 (by decide) ?_
        refine lv_iadd hx hb d_Net_remove_30 ?_
        refine e_top (v := nI (i + m + 1)) (nI_add (i + m) (1)) ?_
        refine e_aldq hx hb hK hW (F_Row G hG) (j := i + m + 1) (by omega) (q := q2 + 420) (rw_at (fq2) (by omega)) rfl d_Net_remove_31 ?_
        refine e_astR hG hx hb hK hW (j := i + m) (by omega) (q := q2) (by omega) rfl d_Net_remove_32 (fun H locs hW => ?_)
        refine lv_iinc (v := nI (i + m + 1)) (lv' := [(3, .int (nI (i + m + 1))), (2, .ref (gad G (q + 420))), (0, .ref (gad G (5))), (1, .int (nI i))]) hx hb d_Net_remove_33 hl (k := 0) rfl (nI_1 (i + m)) (by decide) rfl (fun ls hl => ?_)
        refine lv_goto (tgt := 9) hx hb d_Net_remove_36 (by decide) ?_
        exact ih_m (m + 1) (by omega) (by omega) _ _ _ (by rw [show shR d i (m + 1) = (up2 (shR d i m) (8) (i + m) (nI q2)) from (by rw [shR, fq2])]; exact hW) (by rw [show nI (i + (m + 1)) = nI (i + m + 1) from rfl]; exact lv_sub hl [0, 1, 2, 3] rfl) (by rw [show shR d i (m + 1) = (up2 (shR d i m) (8) (i + m) (nI q2)) from (by rw [shR, fq2])]; exact (show (up2 (shR d i m) (8) (i + m) (nI q2)) (5) (1) = nI z from ((up2_nc (by omega)).trans (f0_m))))
  exact L_9 (z - 1 - i + 1) 0 (by omega) (by omega) _ _ _ hW (lv_sub hl [0, 1, 2, 3] rfl) (show d (5) (1) = nI z from (fz))
