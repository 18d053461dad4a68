theorem kw_323 : .code y_PC_checkRange b_PC_checkRange 2 none ∈ WS := List.mem_filter.mpr ⟨List.mem_append_right _ (List.mem_of_getElem? (i := 303) (by decide +kernel)), by decide +kernel⟩
theorem kw_324 : .methodLink R_PC 64 y_PC_checkRange ∈ WS := List.mem_filter.mpr ⟨List.mem_append_right _ (List.mem_of_getElem? (i := 301) (by decide +kernel)), by decide +kernel⟩
theorem kw_325 : .static y_PC_checkRange ∈ WS := List.mem_filter.mpr ⟨List.mem_append_right _ (List.mem_of_getElem? (i := 302) (by decide +kernel)), by decide +kernel⟩
theorem kw_326 : .code y_PC_checkBegun b_PC_checkBegun 2 none ∈ WS := List.mem_filter.mpr ⟨List.mem_append_right _ (List.mem_of_getElem? (i := 323) (by decide +kernel)), by decide +kernel⟩
theorem kw_327 : .methodLink R_PC 68 y_PC_checkBegun ∈ WS := List.mem_filter.mpr ⟨List.mem_append_right _ (List.mem_of_getElem? (i := 320) (by decide +kernel)), by decide +kernel⟩
theorem kw_328 : .instanceMethod y_PC_checkBegun ∈ WS := List.mem_filter.mpr ⟨List.mem_append_right _ (List.mem_of_getElem? (i := 322) (by decide +kernel)), by decide +kernel⟩
theorem kw_329 : .selects R_PC y_PC_checkBegun y_PC_checkBegun ∈ WS := List.mem_filter.mpr ⟨List.mem_append_left _ (List.mem_of_getElem? (i := 1) (by decide +kernel)), by decide +kernel⟩
theorem kw_330 : .code y_PC_checkUp b_PC_checkUp 3 none ∈ WS := List.mem_filter.mpr ⟨List.mem_append_right _ (List.mem_of_getElem? (i := 343) (by decide +kernel)), by decide +kernel⟩
theorem kw_331 : .methodLink R_PC 71 y_PC_checkUp ∈ WS := List.mem_filter.mpr ⟨List.mem_append_right _ (List.mem_of_getElem? (i := 340) (by decide +kernel)), by decide +kernel⟩
theorem kw_332 : .instanceMethod y_PC_checkUp ∈ WS := List.mem_filter.mpr ⟨List.mem_append_right _ (List.mem_of_getElem? (i := 342) (by decide +kernel)), by decide +kernel⟩
theorem kw_333 : .selects R_PC y_PC_checkUp y_PC_checkUp ∈ WS := List.mem_filter.mpr ⟨List.mem_append_left _ (List.mem_of_getElem? (i := 2) (by decide +kernel)), by decide +kernel⟩
theorem kw_334 : .code y_Store_isLockedByAnother b_Store_isLockedByAnother 3 (some .boolean) ∈ WS := List.mem_filter.mpr ⟨List.mem_append_right _ (List.mem_of_getElem? (i := 351) (by decide +kernel)), by decide +kernel⟩
theorem kw_335 : .methodLink R_PC 74 y_Store_isLockedByAnother ∈ WS := List.mem_filter.mpr ⟨List.mem_append_right _ (List.mem_of_getElem? (i := 348) (by decide +kernel)), by decide +kernel⟩
theorem kw_336 : .instanceMethod y_Store_isLockedByAnother ∈ WS := List.mem_filter.mpr ⟨List.mem_append_right _ (List.mem_of_getElem? (i := 349) (by decide +kernel)), by decide +kernel⟩
theorem kw_337 : .selects R_Store y_Store_isLockedByAnother y_Store_isLockedByAnother ∈ WS := List.mem_filter.mpr ⟨List.mem_append_right _ (List.mem_of_getElem? (i := 350) (by decide +kernel)), by decide +kernel⟩
theorem kw_338 : .fieldLink R_PC 35 "PaxosCommit" "closed" "[Z" ∈ WS := List.mem_filter.mpr ⟨List.mem_append_right _ (List.mem_of_getElem? (i := 189) (by decide +kernel)), by decide +kernel⟩
theorem kw_339 : .classLink R_PC 84 "java/lang/UnsupportedOperationException" ∈ WS := List.mem_filter.mpr ⟨List.mem_append_right _ (List.mem_of_getElem? (i := 357) (by decide +kernel)), by decide +kernel⟩
theorem kw_340 : .initialized "java/lang/UnsupportedOperationException" ∈ WS := List.mem_filter.mpr ⟨List.mem_append_right _ (List.mem_of_getElem? (i := 15) (by decide +kernel)), by decide +kernel⟩
theorem kw_341 : .code y_Store_keep b_Store_keep 4 none ∈ WS := List.mem_filter.mpr ⟨List.mem_append_right _ (List.mem_of_getElem? (i := 376) (by decide +kernel)), by decide +kernel⟩
theorem kw_342 : .methodLink R_PC 89 y_Store_keep ∈ WS := List.mem_filter.mpr ⟨List.mem_append_right _ (List.mem_of_getElem? (i := 373) (by decide +kernel)), by decide +kernel⟩
theorem kw_343 : .instanceMethod y_Store_keep ∈ WS := List.mem_filter.mpr ⟨List.mem_append_right _ (List.mem_of_getElem? (i := 374) (by decide +kernel)), by decide +kernel⟩
theorem kw_344 : .selects R_Store y_Store_keep y_Store_keep ∈ WS := List.mem_filter.mpr ⟨List.mem_append_right _ (List.mem_of_getElem? (i := 375) (by decide +kernel)), by decide +kernel⟩
theorem kw_345 : .methodLink R_PC 93 y_PC_with ∈ WS := List.mem_filter.mpr ⟨List.mem_append_right _ (List.mem_of_getElem? (i := 380) (by decide +kernel)), by decide +kernel⟩
theorem kw_346 : .code y_Store_keysWritten b_Store_keysWritten 2 (some .int) ∈ WS := List.mem_filter.mpr ⟨List.mem_append_right _ (List.mem_of_getElem? (i := 384) (by decide +kernel)), by decide +kernel⟩
theorem kw_347 : .methodLink R_PC 97 y_Store_keysWritten ∈ WS := List.mem_filter.mpr ⟨List.mem_append_right _ (List.mem_of_getElem? (i := 381) (by decide +kernel)), by decide +kernel⟩
theorem kw_348 : .instanceMethod y_Store_keysWritten ∈ WS := List.mem_filter.mpr ⟨List.mem_append_right _ (List.mem_of_getElem? (i := 382) (by decide +kernel)), by decide +kernel⟩
theorem kw_349 : .selects R_Store y_Store_keysWritten y_Store_keysWritten ∈ WS := List.mem_filter.mpr ⟨List.mem_append_right _ (List.mem_of_getElem? (i := 383) (by decide +kernel)), by decide +kernel⟩
theorem hd_PC_checkRange : y_PC_checkRange.cls ≠ "java/lang/invoke/MethodHandle" ∧ y_PC_checkRange.cls ≠ "java/lang/invoke/VarHandle" ∧ (parseMethodDescriptor y_PC_checkRange.desc).map (fun d => d.parameters.length) = some 2 := by decide +kernel
theorem hd_PC_checkBegun : y_PC_checkBegun.cls ≠ "java/lang/invoke/MethodHandle" ∧ y_PC_checkBegun.cls ≠ "java/lang/invoke/VarHandle" ∧ (parseMethodDescriptor y_PC_checkBegun.desc).map (fun d => d.parameters.length) = some 1 := by decide +kernel
theorem hd_PC_checkUp : y_PC_checkUp.cls ≠ "java/lang/invoke/MethodHandle" ∧ y_PC_checkUp.cls ≠ "java/lang/invoke/VarHandle" ∧ (parseMethodDescriptor y_PC_checkUp.desc).map (fun d => d.parameters.length) = some 2 := by decide +kernel
theorem hd_Store_isLockedByAnother : y_Store_isLockedByAnother.cls ≠ "java/lang/invoke/MethodHandle" ∧ y_Store_isLockedByAnother.cls ≠ "java/lang/invoke/VarHandle" ∧ (parseMethodDescriptor y_Store_isLockedByAnother.desc).map (fun d => d.parameters.length) = some 2 := by decide +kernel
theorem hd_Store_keep : y_Store_keep.cls ≠ "java/lang/invoke/MethodHandle" ∧ y_Store_keep.cls ≠ "java/lang/invoke/VarHandle" ∧ (parseMethodDescriptor y_Store_keep.desc).map (fun d => d.parameters.length) = some 3 := by decide +kernel
theorem hd_Store_keysWritten : y_Store_keysWritten.cls ≠ "java/lang/invoke/MethodHandle" ∧ y_Store_keysWritten.cls ≠ "java/lang/invoke/VarHandle" ∧ (parseMethodDescriptor y_Store_keysWritten.desc).map (fun d => d.parameters.length) = some 1 := by decide +kernel
theorem xt_PC_UnsupportedOperationException : XT R_PC 84 88 "java/lang/UnsupportedOperationException" := ⟨by decide +kernel, kw_339, kw_340, xt_good (by decide +kernel), by decide +kernel, by decide +kernel, by decide +kernel⟩
set_option maxHeartbeats 4000000 in
set_option maxRecDepth 100000 in
theorem c_begin (l : Launch) (hst : l.stackTraces = false) (G : GT) (hG : GOK G) (d : DD) : vx_Met l y_PC_begin (.code y_PC_begin b_PC_begin 1 (some .int) :: WS) { frames := 6, cells := 1, slots := 6, locals := 90 } (cPre G [.ref (gad G (0))] d) (cQi G (fun r9 u9 => bnX d = none ∧ r9 = d 0 8 + 1 - 1 ∧ u9 = up2 d 0 8 (d 0 8 + 1))) (cX G (fun E9 u9 => bnX d = some E9 ∧ u9 = d)) 1 6 (gAb G) := by
  refine c_startX (own := R_PC) (by decide +kernel) rfl (Nat.le_of_ble_eq_true rfl) ?_
  intro p e zs zm below meth zc ls hno C hW hl
  obtain ⟨hx, hb, hr, hml, hown, hts, hlk, hE, hbs⟩ := C
  have hK := hE.1
  have hn3 := hG.1
  have hl : lv_has ls 1 [(0, .ref (gad G (0)))] := hl
  refine lv_aload_n hx hb d_PC_begin_0 rfl (lv_at hl 0 rfl) ?_
  refine e_get (v := .int (d (0) (8))) hx hb hts hown hK hW (F_PC G hG) i_PC rfl 8 (by decide) (hts _ kw_318) (fun _ h => h) rfl d_PC_begin_1 ?_
  refine lv_bipush (v := 8) hx hb d_PC_begin_4 (by decide) ?_
  refine lv_icmp_lt (tgt := 19) hx hb d_PC_begin_6 (by decide) (fun c_1 => ?_) (fun c_1 => ?_)
  · skip
    refine lv_aload_n hx hb d_PC_begin_19 rfl (lv_at hl 0 rfl) ?_
    refine lv_dup hx hb d_PC_begin_20 rfl ?_
    refine e_get (v := .int (d (0) (8))) hx hb hts hown hK hW (F_PC G hG) i_PC rfl 8 (by decide) (hts _ kw_318) (fun _ h => h) rfl d_PC_begin_21 ?_
    refine lv_iconst (v := 1) hx hb d_PC_begin_24 (by decide) ?_
    refine lv_iadd hx hb d_PC_begin_25 ?_
    refine e_put hx hb hts hown hK hW (F_PC G hG) i_PC t_PC t_PC_ok n_PC rfl 8 (by decide) (hts _ kw_318) (fun _ h => h) rfl (by decide +kernel) (fun _ => rfl) (fun _ => rfl) d_PC_begin_26 (fun H locs hW => ?_)
    refine lv_aload_n hx hb d_PC_begin_29 rfl (lv_at hl 0 rfl) ?_
    refine e_get (v := .int ((up2 d (0) (8) ((d (0) (8)) + (1))) (0) (8))) hx hb hts hown hK hW (F_PC G hG) i_PC rfl 8 (by decide) (hts _ kw_318) (fun _ h => h) rfl d_PC_begin_30 ?_
    refine e_top (v := (d (0) (8)) + (1)) (up2_self) ?_
    refine lv_iconst (v := 1) hx hb d_PC_begin_33 (by decide) ?_
    refine lv_isub hx hb d_PC_begin_34 ?_
    exact e_xiret hx hb hr hlk hW ⟨by unfold bnX; rw [if_pos c_1] <;> rfl, by exact rfl, by exact rfl⟩ (Nat.le_of_ble_eq_true rfl) (Nat.le_of_ble_eq_true rfl) d_PC_begin_35
  · skip
    exact e_thr hst hx hb hown hts hE hW hml hl.1 hno hlk xt_PC_IllegalStateException ks_59 d_PC_begin_9 d_PC_begin_12 d_PC_begin_13 d_PC_begin_15 d_PC_begin_18 (Nat.le_of_ble_eq_true rfl) (Nat.le_of_ble_eq_true rfl) (Nat.le_of_ble_eq_true rfl) (Nat.le_of_ble_eq_true rfl) (Nat.le_of_ble_eq_true rfl) (Nat.le_of_ble_eq_true rfl) ⟨by unfold bnX; rw [if_neg c_1] <;> rfl, by exact rfl⟩
set_option maxHeartbeats 4000000 in
set_option maxRecDepth 100000 in
theorem c_write (l : Launch) (hst : l.stackTraces = false) (G : GT) (hG : GOK G) (d : DD) (x0 x1 x2 v : Int32) : vx_Met l y_PC_write (.code y_PC_write b_PC_write 6 (some .int) :: WS) { frames := 7, cells := 6, slots := 36, locals := 112 } (cPre G [.ref (gad G (0)), .int (x0), .int (x1), .int (x2), .int (v)] d) (cQi G (fun r9 u9 => wrX d x0 x1 x2 = none ∧ r9 = bcI (f_write d (cl x0) (cl x1) (cl x2) v (cl x1 + 50) (cl x0)) ∧ u9 = f_write d (cl x0) (cl x1) (cl x2) v)) (cX G (fun E9 u9 => wrX d x0 x1 x2 = some E9 ∧ u9 = d)) 6 36 (gAb G) := by
  refine c_startX (own := R_PC) (by decide +kernel) rfl (Nat.le_of_ble_eq_true rfl) ?_
  intro p e zs zm below meth zc ls hno C hW hl
  obtain ⟨hx, hb, hr, hml, hown, hts, hlk, hE, hbs⟩ := C
  have hK := hE.1
  have hn3 := hG.1
  have hl : lv_has ls 6 [(0, .ref (gad G (0))), (1, .int (x0)), (2, .int (x1)), (3, .int (x2)), (4, .int (v))] := hl
  refine lv_iload_n hx hb d_PC_write_0 rfl (lv_at hl 1 rfl) ?_
  refine lv_bipush (v := 8) hx hb d_PC_write_1 (by decide) ?_
  refine e_xv (e_xrunS hx hb hml hown hts hE hbs hW (c_checkRange l hst G hG d (x0) (8)) kw_324 kw_325 kw_104 kw_323 rfl rfl hd_PC_checkRange ⟨Nat.le_of_ble_eq_true rfl, Nat.le_of_ble_eq_true rfl⟩ (As := [.int (x0), .int (8)]) (rest := []) rfl hl.1 rfl (Nat.le_of_ble_eq_true rfl) d_PC_write_3 ⟨Nat.le_of_ble_eq_true rfl, Nat.le_of_ble_eq_true rfl⟩) hW (fun E9 ce q9 d' H locs hp hW g1 g2 g3 => ?_) (fun d' H locs hp hW => ?_)
  · obtain ⟨hp1, hp2⟩ := hp
    have hp2 := hp2.symm; subst hp2
    exact e_xout hno hlk hW g1 g2 g3 ⟨by unfold wrX; rw [hp1] <;> rfl, by exact rfl⟩ (Nat.le_of_ble_eq_true rfl) (Nat.le_of_ble_eq_true rfl)
  obtain ⟨h_1, hp2⟩ := hp
  have hp2 := hp2.symm; subst hp2
  obtain ⟨t, ht, et⟩ := rg_nat (B := 8) (by omega) h_1
  subst et
  refine lv_iload_n hx hb d_PC_write_6 rfl (lv_at hl 2 rfl) ?_
  refine lv_iconst (v := 3) hx hb d_PC_write_7 (by decide) ?_
  refine e_xv (e_xrunS hx hb hml hown hts hE hbs hW (c_checkRange l hst G hG d (x1) (3)) kw_324 kw_325 kw_104 kw_323 rfl rfl hd_PC_checkRange ⟨Nat.le_of_ble_eq_true rfl, Nat.le_of_ble_eq_true rfl⟩ (As := [.int (x1), .int (3)]) (rest := []) rfl hl.1 rfl (Nat.le_of_ble_eq_true rfl) d_PC_write_8 ⟨Nat.le_of_ble_eq_true rfl, Nat.le_of_ble_eq_true rfl⟩) hW (fun E9 ce q9 d' H locs hp hW g1 g2 g3 => ?_) (fun d' H locs hp hW => ?_)
  · obtain ⟨hp1, hp2⟩ := hp
    have hp2 := hp2.symm; subst hp2
    exact e_xout hno hlk hW g1 g2 g3 ⟨by unfold wrX; (try simp only [cl_nI (show t < 2147483648 by omega)]); rw [h_1, hp1] <;> rfl, by exact rfl⟩ (Nat.le_of_ble_eq_true rfl) (Nat.le_of_ble_eq_true rfl)
  obtain ⟨h_2, hp2⟩ := hp
  have hp2 := hp2.symm; subst hp2
  obtain ⟨s, hs, et⟩ := rg_nat (B := 3) (by omega) h_2
  subst et
  refine lv_iload_n hx hb d_PC_write_11 rfl (lv_at hl 3 rfl) ?_
  refine lv_iconst (v := 4) hx hb d_PC_write_12 (by decide) ?_
  refine e_xv (e_xrunS hx hb hml hown hts hE hbs hW (c_checkRange l hst G hG d (x2) (4)) kw_324 kw_325 kw_104 kw_323 rfl rfl hd_PC_checkRange ⟨Nat.le_of_ble_eq_true rfl, Nat.le_of_ble_eq_true rfl⟩ (As := [.int (x2), .int (4)]) (rest := []) rfl hl.1 rfl (Nat.le_of_ble_eq_true rfl) d_PC_write_13 ⟨Nat.le_of_ble_eq_true rfl, Nat.le_of_ble_eq_true rfl⟩) hW (fun E9 ce q9 d' H locs hp hW g1 g2 g3 => ?_) (fun d' H locs hp hW => ?_)
  · obtain ⟨hp1, hp2⟩ := hp
    have hp2 := hp2.symm; subst hp2
    exact e_xout hno hlk hW g1 g2 g3 ⟨by unfold wrX; (try simp only [cl_nI (show t < 2147483648 by omega), cl_nI (show s < 2147483648 by omega)]); rw [h_1, h_2, hp1] <;> rfl, by exact rfl⟩ (Nat.le_of_ble_eq_true rfl) (Nat.le_of_ble_eq_true rfl)
  obtain ⟨h_3, hp2⟩ := hp
  have hp2 := hp2.symm; subst hp2
  obtain ⟨k, hk, et⟩ := rg_nat (B := 4) (by omega) h_3
  subst et
  refine lv_aload_n hx hb d_PC_write_16 rfl (lv_at hl 0 rfl) ?_
  refine lv_iload_n hx hb d_PC_write_17 rfl (lv_at hl 1 rfl) ?_
  refine e_xv (e_xrunV hx hb hml hown hts hE hbs hW (F_PC G hG) rfl (c_checkBegun l hst G hG d (nI t)) kw_327 kw_328 kw_329 kw_104 kw_326 rfl rfl hd_PC_checkBegun ⟨Nat.le_of_ble_eq_true rfl, Nat.le_of_ble_eq_true rfl⟩ (As := [.int (nI t)]) (rest := []) rfl hl.1 rfl (Nat.le_of_ble_eq_true rfl) d_PC_write_18 ⟨Nat.le_of_ble_eq_true rfl, Nat.le_of_ble_eq_true rfl⟩) hW (fun E9 ce q9 d' H locs hp hW g1 g2 g3 => ?_) (fun d' H locs hp hW => ?_)
  · obtain ⟨hp1, hp2⟩ := hp
    have hp2 := hp2.symm; subst hp2
    exact e_xout hno hlk hW g1 g2 g3 ⟨by unfold wrX; (try simp only [cl_nI (show t < 2147483648 by omega), cl_nI (show s < 2147483648 by omega), cl_nI (show k < 2147483648 by omega)]); rw [h_1, h_2, h_3, hp1] <;> rfl, by exact rfl⟩ (Nat.le_of_ble_eq_true rfl) (Nat.le_of_ble_eq_true rfl)
  obtain ⟨h_4, hp2⟩ := hp
  have hp2 := hp2.symm; subst hp2
  refine lv_aload_n hx hb d_PC_write_21 rfl (lv_at hl 0 rfl) ?_
  refine lv_iconst (v := 0) hx hb d_PC_write_22 (by decide) ?_
  refine lv_iload_n hx hb d_PC_write_23 rfl (lv_at hl 2 rfl) ?_
  refine e_xv (e_xrunV hx hb hml hown hts hE hbs hW (F_PC G hG) rfl (c_checkUp l hst G hG d 0 s (by decide)) kw_331 kw_332 kw_333 kw_104 kw_330 rfl rfl hd_PC_checkUp ⟨Nat.le_of_ble_eq_true rfl, Nat.le_of_ble_eq_true rfl⟩ (As := [.int (0), .int (nI s)]) (rest := []) rfl hl.1 rfl (Nat.le_of_ble_eq_true rfl) d_PC_write_24 ⟨Nat.le_of_ble_eq_true rfl, Nat.le_of_ble_eq_true rfl⟩) hW (fun E9 ce q9 d' H locs hp hW g1 g2 g3 => ?_) (fun d' H locs hp hW => ?_)
  · obtain ⟨hp1, hp2⟩ := hp
    have hp2 := hp2.symm; subst hp2
    exact e_xout hno hlk hW g1 g2 g3 ⟨by unfold wrX; (try simp only [cl_nI (show t < 2147483648 by omega), cl_nI (show s < 2147483648 by omega), cl_nI (show k < 2147483648 by omega)]); rw [h_1, h_2, h_3, h_4, hp1] <;> rfl, by exact rfl⟩ (Nat.le_of_ble_eq_true rfl) (Nat.le_of_ble_eq_true rfl)
  obtain ⟨h_5, hp2⟩ := hp
  have hp2 := hp2.symm; subst hp2
  refine lv_aload_n hx hb d_PC_write_27 rfl (lv_at hl 0 rfl) ?_
  refine e_get (v := .ref (gad G (1))) hx hb hts hown hK hW (F_PC G hG) i_PC rfl 0 (by decide) (hts _ kw_197) (fun _ h => h) rfl d_PC_write_28 ?_
  refine lv_iload_n hx hb d_PC_write_31 rfl (lv_at hl 2 rfl) ?_
  refine e_aldq hx hb hK hW (F_Stores G hG) (j := s) hs (q := s + 10) rfl rfl d_PC_write_32 ?_
  refine lv_astore (lv' := [(5, .ref (gad G (s + 10))), (0, .ref (gad G (0))), (1, .int (nI t)), (2, .int (nI s)), (3, .int (nI k)), (4, .int (v))]) hx hb d_PC_write_33 hl (by decide) rfl (fun ls hl => ?_)
  refine lv_aload hx hb d_PC_write_35 (lv_at hl 0 rfl) ?_
  refine lv_iload_n hx hb d_PC_write_37 rfl (lv_at hl 2 rfl) ?_
  refine lv_iload_n hx hb d_PC_write_38 rfl (lv_at hl 4 rfl) ?_
  refine e_ci (e_runV hx hb hml hown hts hE hbs hW (F_Store (i0 := s) G hG hs) rfl (c_Store_isLocked l G hG d s t k hs ht hk) kw_335 kw_336 kw_337 kw_137 kw_334 rfl rfl hd_Store_isLockedByAnother ⟨Nat.le_of_ble_eq_true rfl, Nat.le_of_ble_eq_true rfl⟩ (As := [.int (nI t), .int (nI k)]) (rest := []) rfl hl.1 rfl (Nat.le_of_ble_eq_true rfl) d_PC_write_39 ⟨Nat.le_of_ble_eq_true rfl, Nat.le_of_ble_eq_true rfl⟩) hW (fun r d' H locs hp hW => ?_)
  obtain ⟨hp1, hp2⟩ := hp
  have hp1 := hp1.symm; subst hp1
  have hp2 := hp2.symm; subst hp2
  refine lv_if_eq (tgt := 55) hx hb d_PC_write_42 (by decide) (fun c_6 => ?_) (fun c_6 => ?_)
  · skip
    refine lv_aload_n hx hb d_PC_write_55 rfl (lv_at hl 1 rfl) ?_
    refine e_get (v := .ref (gad G (7))) hx hb hts hown hK hW (F_PC G hG) i_PC rfl 7 (by decide) (hts _ kw_338) (fun _ h => h) rfl d_PC_write_56 ?_
    refine lv_iload_n hx hb d_PC_write_59 rfl (lv_at hl 2 rfl) ?_
    refine e_zald hx hb hK hW (F_Clo G hG) (j := t) ht (x := d (7) (t)) (rfl) rfl d_PC_write_60 ?_
    refine lv_if_ne (tgt := 73) hx hb d_PC_write_61 (by decide) (fun c_7 => ?_) (fun c_7 => ?_)
    · skip
      exact e_thr hst hx hb hown hts hE hW hml hl.1 hno hlk xt_PC_UnsupportedOperationException ks_86 d_PC_write_73 d_PC_write_76 d_PC_write_77 d_PC_write_79 d_PC_write_82 (Nat.le_of_ble_eq_true rfl) (Nat.le_of_ble_eq_true rfl) (Nat.le_of_ble_eq_true rfl) (Nat.le_of_ble_eq_true rfl) (Nat.le_of_ble_eq_true rfl) (Nat.le_of_ble_eq_true rfl) ⟨by unfold wrX; (try simp only [cl_nI (show t < 2147483648 by omega), cl_nI (show s < 2147483648 by omega), cl_nI (show k < 2147483648 by omega)]); rw [h_1, h_2, h_3, h_4, h_5, if_pos c_6, if_neg c_7] <;> rfl, by exact rfl⟩
    · skip
      refine lv_aload hx hb d_PC_write_64 (lv_at hl 0 rfl) ?_
      refine lv_iload_n hx hb d_PC_write_66 rfl (lv_at hl 2 rfl) ?_
      refine e_ci (e_runV hx hb hml hown hts hE hbs hW (F_Store (i0 := s) G hG hs) rfl (c_Store_isOpen l G hG d s t hs ht) kw_254 kw_255 kw_256 kw_137 kw_253 rfl rfl hd_Store_isOpenFor ⟨Nat.le_of_ble_eq_true rfl, Nat.le_of_ble_eq_true rfl⟩ (As := [.int (nI t)]) (rest := []) rfl hl.1 rfl (Nat.le_of_ble_eq_true rfl) d_PC_write_67 ⟨Nat.le_of_ble_eq_true rfl, Nat.le_of_ble_eq_true rfl⟩) hW (fun r d' H locs hp hW => ?_)
      obtain ⟨hp1, hp2⟩ := hp
      have hp1 := hp1.symm; subst hp1
      have hp2 := hp2.symm; subst hp2
      refine lv_if_ne (tgt := 83) hx hb d_PC_write_70 (by decide) (fun c_8 => ?_) (fun c_8 => ?_)
      · skip
        refine lv_aload hx hb d_PC_write_83 (lv_at hl 0 rfl) ?_
        refine lv_iload_n hx hb d_PC_write_85 rfl (lv_at hl 2 rfl) ?_
        refine lv_iload_n hx hb d_PC_write_86 rfl (lv_at hl 4 rfl) ?_
        refine lv_iload hx hb d_PC_write_87 (lv_at hl 5 rfl) ?_
        refine e_cv (e_runV hx hb hml hown hts hE hbs hW (F_Store (i0 := s) G hG hs) rfl (c_Store_keep l G hG d s t k hs ht hk (v)) kw_342 kw_343 kw_344 kw_137 kw_341 rfl rfl hd_Store_keep ⟨Nat.le_of_ble_eq_true rfl, Nat.le_of_ble_eq_true rfl⟩ (As := [.int (nI t), .int (nI k), .int (v)]) (rest := []) rfl hl.1 rfl (Nat.le_of_ble_eq_true rfl) d_PC_write_89 ⟨Nat.le_of_ble_eq_true rfl, Nat.le_of_ble_eq_true rfl⟩) hW (fun d' H locs hp hW => ?_)
        have hp := hp.symm; subst hp
        refine lv_aload_n hx hb d_PC_write_92 rfl (lv_at hl 1 rfl) ?_
        refine e_get (v := .ref (gad G (6))) hx hb hts hown hK hW (F_PC G hG) i_PC rfl 6 (by decide) (hts _ kw_220) (fun _ h => h) rfl d_PC_write_93 ?_
        refine lv_iload_n hx hb d_PC_write_96 rfl (lv_at hl 2 rfl) ?_
        refine lv_aload_n hx hb d_PC_write_97 rfl (lv_at hl 1 rfl) ?_
        refine e_get (v := .ref (gad G (6))) hx hb hts hown hK hW (F_PC G hG) i_PC rfl 6 (by decide) (hts _ kw_220) (fun _ h => h) rfl d_PC_write_98 ?_
        refine lv_iload_n hx hb d_PC_write_101 rfl (lv_at hl 2 rfl) ?_
        refine e_iald hx hb hK hW (F_Mem G hG) (j := t) ht (x := (f_keep d s t k (v)) (6) (t)) (rfl) rfl d_PC_write_102 ?_
        refine lv_iload_n hx hb d_PC_write_103 rfl (lv_at hl 3 rfl) ?_
        refine e_ci (e_runS hx hb hml hown hts hE hbs hW (c_with l G hG (f_keep d s t k (v)) s ((f_keep d s t k (v)) (6) (t))) kw_345 kw_134 kw_104 kw_133 rfl rfl hd_PC_with ⟨Nat.le_of_ble_eq_true rfl, Nat.le_of_ble_eq_true rfl⟩ (As := [.int ((f_keep d s t k (v)) (6) (t)), .int (nI s)]) (rest := [.int (nI t), .ref (gad G (6))]) rfl hl.1 rfl (Nat.le_of_ble_eq_true rfl) d_PC_write_104 ⟨Nat.le_of_ble_eq_true rfl, Nat.le_of_ble_eq_true rfl⟩) hW (fun r d' H locs hp hW => ?_)
        obtain ⟨hp1, hp2⟩ := hp
        have hp1 := hp1.symm; subst hp1
        have hp2 := hp2.symm; subst hp2
        refine e_iast hx hb hK hW (F_Mem G hG) (j := t) ht rfl d_PC_write_107 (fun H locs hW => ?_)
        refine lv_aload hx hb d_PC_write_108 (lv_at hl 0 rfl) ?_
        refine lv_iload_n hx hb d_PC_write_110 rfl (lv_at hl 2 rfl) ?_
        refine e_ci (e_runV hx hb hml hown hts hE hbs hW (F_Store (i0 := s) G hG hs) rfl (c_Store_keys l G hG (up2 (f_keep d s t k (v)) (6) (t) (withI ((f_keep d s t k (v)) (6) (t)) s)) s t hs ht) kw_347 kw_348 kw_349 kw_137 kw_346 rfl rfl hd_Store_keysWritten ⟨Nat.le_of_ble_eq_true rfl, Nat.le_of_ble_eq_true rfl⟩ (As := [.int (nI t)]) (rest := []) rfl hl.1 rfl (Nat.le_of_ble_eq_true rfl) d_PC_write_111 ⟨Nat.le_of_ble_eq_true rfl, Nat.le_of_ble_eq_true rfl⟩) hW (fun r d' H locs hp hW => ?_)
        obtain ⟨hp1, hp2⟩ := hp
        have hp1 := hp1.symm; subst hp1
        have hp2 := hp2.symm; subst hp2
        exact e_xiret hx hb hr hlk hW ⟨by unfold wrX; (try simp only [cl_nI (show t < 2147483648 by omega), cl_nI (show s < 2147483648 by omega), cl_nI (show k < 2147483648 by omega)]); rw [h_1, h_2, h_3, h_4, h_5, if_pos c_6, if_pos c_7, if_neg c_8] <;> rfl, by first | (simp only [cl_nI (show t < 2147483648 by omega), cl_nI (show s < 2147483648 by omega), cl_nI (show k < 2147483648 by omega)]; done) | (simp only [cl_nI (show t < 2147483648 by omega), cl_nI (show s < 2147483648 by omega), cl_nI (show k < 2147483648 by omega)]; rfl) | (exact rfl), by first | (simp only [cl_nI (show t < 2147483648 by omega), cl_nI (show s < 2147483648 by omega), cl_nI (show k < 2147483648 by omega)]; done) | (simp only [cl_nI (show t < 2147483648 by omega), cl_nI (show s < 2147483648 by omega), cl_nI (show k < 2147483648 by omega)]; rfl) | (exact rfl)⟩ (Nat.le_of_ble_eq_true rfl) (Nat.le_of_ble_eq_true rfl) d_PC_write_114
      · skip
        exact e_thr hst hx hb hown hts hE hW hml hl.1 hno hlk xt_PC_UnsupportedOperationException ks_86 d_PC_write_73 d_PC_write_76 d_PC_write_77 d_PC_write_79 d_PC_write_82 (Nat.le_of_ble_eq_true rfl) (Nat.le_of_ble_eq_true rfl) (Nat.le_of_ble_eq_true rfl) (Nat.le_of_ble_eq_true rfl) (Nat.le_of_ble_eq_true rfl) (Nat.le_of_ble_eq_true rfl) ⟨by unfold wrX; (try simp only [cl_nI (show t < 2147483648 by omega), cl_nI (show s < 2147483648 by omega), cl_nI (show k < 2147483648 by omega)]); rw [h_1, h_2, h_3, h_4, h_5, if_pos c_6, if_pos c_7, if_pos c_8] <;> rfl, by exact rfl⟩
  · skip
    exact e_thr hst hx hb hown hts hE hW hml hl.1 hno hlk xt_PC_IllegalStateException ks_78 d_PC_write_45 d_PC_write_48 d_PC_write_49 d_PC_write_51 d_PC_write_54 (Nat.le_of_ble_eq_true rfl) (Nat.le_of_ble_eq_true rfl) (Nat.le_of_ble_eq_true rfl) (Nat.le_of_ble_eq_true rfl) (Nat.le_of_ble_eq_true rfl) (Nat.le_of_ble_eq_true rfl) ⟨by unfold wrX; (try simp only [cl_nI (show t < 2147483648 by omega), cl_nI (show s < 2147483648 by omega), cl_nI (show k < 2147483648 by omega)]); rw [h_1, h_2, h_3, h_4, h_5, if_neg c_6] <;> rfl, by exact rfl⟩
set_option maxHeartbeats 4000000 in
set_option maxRecDepth 100000 in
theorem c_value (l : Launch) (hst : l.stackTraces = false) (G : GT) (hG : GOK G) (d : DD) (x0 x1 : Int32) : vx_Met l y_PC_value (.code y_PC_value b_PC_value 3 (some .int) :: WS) { frames := 7, cells := 2, slots := 12, locals := 111 } (cPre G [.ref (gad G (0)), .int (x0), .int (x1)] d) (cQi G (fun r9 u9 => vlX x0 x1 = none ∧ r9 = d (cl x0 + 20) (cl x1) ∧ u9 = d)) (cX G (fun E9 u9 => vlX x0 x1 = some E9 ∧ u9 = d)) 2 12 (gAb G) := by
  refine c_startX (own := R_PC) (by decide +kernel) rfl (Nat.le_of_ble_eq_true rfl) ?_
  intro p e zs zm below meth zc ls hno C hW hl
  obtain ⟨hx, hb, hr, hml, hown, hts, hlk, hE, hbs⟩ := C
  have hK := hE.1
  have hn3 := hG.1
  have hl : lv_has ls 3 [(0, .ref (gad G (0))), (1, .int (x0)), (2, .int (x1))] := hl
  refine lv_iload_n hx hb d_PC_value_0 rfl (lv_at hl 1 rfl) ?_
  refine lv_iconst (v := 3) hx hb d_PC_value_1 (by decide) ?_
  refine e_xv (e_xrunS hx hb hml hown hts hE hbs hW (c_checkRange l hst G hG d (x0) (3)) kw_324 kw_325 kw_104 kw_323 rfl rfl hd_PC_checkRange ⟨Nat.le_of_ble_eq_true rfl, Nat.le_of_ble_eq_true rfl⟩ (As := [.int (x0), .int (3)]) (rest := []) rfl hl.1 rfl (Nat.le_of_ble_eq_true rfl) d_PC_value_2 ⟨Nat.le_of_ble_eq_true rfl, Nat.le_of_ble_eq_true rfl⟩) hW (fun E9 ce q9 d' H locs hp hW g1 g2 g3 => ?_) (fun d' H locs hp hW => ?_)
  · obtain ⟨hp1, hp2⟩ := hp
    have hp2 := hp2.symm; subst hp2
    exact e_xout hno hlk hW g1 g2 g3 ⟨by unfold vlX; rw [hp1] <;> rfl, by exact rfl⟩ (Nat.le_of_ble_eq_true rfl) (Nat.le_of_ble_eq_true rfl)
  obtain ⟨h_1, hp2⟩ := hp
  have hp2 := hp2.symm; subst hp2
  obtain ⟨s, hs, et⟩ := rg_nat (B := 3) (by omega) h_1
  subst et
  refine lv_iload_n hx hb d_PC_value_5 rfl (lv_at hl 2 rfl) ?_
  refine lv_iconst (v := 4) hx hb d_PC_value_6 (by decide) ?_
  refine e_xv (e_xrunS hx hb hml hown hts hE hbs hW (c_checkRange l hst G hG d (x1) (4)) kw_324 kw_325 kw_104 kw_323 rfl rfl hd_PC_checkRange ⟨Nat.le_of_ble_eq_true rfl, Nat.le_of_ble_eq_true rfl⟩ (As := [.int (x1), .int (4)]) (rest := []) rfl hl.1 rfl (Nat.le_of_ble_eq_true rfl) d_PC_value_7 ⟨Nat.le_of_ble_eq_true rfl, Nat.le_of_ble_eq_true rfl⟩) hW (fun E9 ce q9 d' H locs hp hW g1 g2 g3 => ?_) (fun d' H locs hp hW => ?_)
  · obtain ⟨hp1, hp2⟩ := hp
    have hp2 := hp2.symm; subst hp2
    exact e_xout hno hlk hW g1 g2 g3 ⟨by unfold vlX; (try simp only [cl_nI (show s < 2147483648 by omega)]); rw [h_1, hp1] <;> rfl, by exact rfl⟩ (Nat.le_of_ble_eq_true rfl) (Nat.le_of_ble_eq_true rfl)
  obtain ⟨h_2, hp2⟩ := hp
  have hp2 := hp2.symm; subst hp2
  obtain ⟨k, hk, et⟩ := rg_nat (B := 4) (by omega) h_2
  subst et
  refine lv_aload_n hx hb d_PC_value_10 rfl (lv_at hl 0 rfl) ?_
  refine e_get (v := .ref (gad G (1))) hx hb hts hown hK hW (F_PC G hG) i_PC rfl 0 (by decide) (hts _ kw_197) (fun _ h => h) rfl d_PC_value_11 ?_
  refine lv_iload_n hx hb d_PC_value_14 rfl (lv_at hl 1 rfl) ?_
  refine e_aldq hx hb hK hW (F_Stores G hG) (j := s) hs (q := s + 10) rfl rfl d_PC_value_15 ?_
  refine e_getN (v := .ref (gad G (s + 20))) hx hb hts hown hK hW (F_Store (i0 := s) G hG hs) i_Store rfl 0 (by decide) (nf_11 hE) (fun _ h => h) rfl d_PC_value_16 ?_
  refine lv_iload_n hx hb d_PC_value_19 rfl (lv_at hl 2 rfl) ?_
  refine e_iald hx hb hK hW (F_Val (i0 := s) G hG hs) (j := k) hk (x := d (s + 20) (k)) (rfl) rfl d_PC_value_20 ?_
  exact e_xiret hx hb hr hlk hW ⟨by unfold vlX; (try simp only [cl_nI (show s < 2147483648 by omega), cl_nI (show k < 2147483648 by omega)]); rw [h_1, h_2] <;> rfl, by first | (simp only [cl_nI (show s < 2147483648 by omega), cl_nI (show k < 2147483648 by omega)]; done) | (simp only [cl_nI (show s < 2147483648 by omega), cl_nI (show k < 2147483648 by omega)]; rfl) | (exact rfl), by first | (simp only [cl_nI (show s < 2147483648 by omega), cl_nI (show k < 2147483648 by omega)]; done) | (simp only [cl_nI (show s < 2147483648 by omega), cl_nI (show k < 2147483648 by omega)]; rfl) | (exact rfl)⟩ (Nat.le_of_ble_eq_true rfl) (Nat.le_of_ble_eq_true rfl) d_PC_value_21
set_option maxHeartbeats 4000000 in
set_option maxRecDepth 100000 in
theorem c_lock (l : Launch) (hst : l.stackTraces = false) (G : GT) (hG : GOK G) (d : DD) (x0 x1 : Int32) : vx_Met l y_PC_lock (.code y_PC_lock b_PC_lock 3 (some .int) :: WS) { frames := 7, cells := 2, slots := 12, locals := 111 } (cPre G [.ref (gad G (0)), .int (x0), .int (x1)] d) (cQi G (fun r9 u9 => vlX x0 x1 = none ∧ r9 = d (cl x0 + 30) (cl x1) ∧ u9 = d)) (cX G (fun E9 u9 => vlX x0 x1 = some E9 ∧ u9 = d)) 2 12 (gAb G) := by
  refine c_startX (own := R_PC) (by decide +kernel) rfl (Nat.le_of_ble_eq_true rfl) ?_
  intro p e zs zm below meth zc ls hno C hW hl
  obtain ⟨hx, hb, hr, hml, hown, hts, hlk, hE, hbs⟩ := C
  have hK := hE.1
  have hn3 := hG.1
  have hl : lv_has ls 3 [(0, .ref (gad G (0))), (1, .int (x0)), (2, .int (x1))] := hl
  refine lv_iload_n hx hb d_PC_lock_0 rfl (lv_at hl 1 rfl) ?_
  refine lv_iconst (v := 3) hx hb d_PC_lock_1 (by decide) ?_
  refine e_xv (e_xrunS hx hb hml hown hts hE hbs hW (c_checkRange l hst G hG d (x0) (3)) kw_324 kw_325 kw_104 kw_323 rfl rfl hd_PC_checkRange ⟨Nat.le_of_ble_eq_true rfl, Nat.le_of_ble_eq_true rfl⟩ (As := [.int (x0), .int (3)]) (rest := []) rfl hl.1 rfl (Nat.le_of_ble_eq_true rfl) d_PC_lock_2 ⟨Nat.le_of_ble_eq_true rfl, Nat.le_of_ble_eq_true rfl⟩) hW (fun E9 ce q9 d' H locs hp hW g1 g2 g3 => ?_) (fun d' H locs hp hW => ?_)
  · obtain ⟨hp1, hp2⟩ := hp
    have hp2 := hp2.symm; subst hp2
    exact e_xout hno hlk hW g1 g2 g3 ⟨by unfold vlX; rw [hp1] <;> rfl, by exact rfl⟩ (Nat.le_of_ble_eq_true rfl) (Nat.le_of_ble_eq_true rfl)
  obtain ⟨h_1, hp2⟩ := hp
  have hp2 := hp2.symm; subst hp2
  obtain ⟨s, hs, et⟩ := rg_nat (B := 3) (by omega) h_1
  subst et
  refine lv_iload_n hx hb d_PC_lock_5 rfl (lv_at hl 2 rfl) ?_
  refine lv_iconst (v := 4) hx hb d_PC_lock_6 (by decide) ?_
  refine e_xv (e_xrunS hx hb hml hown hts hE hbs hW (c_checkRange l hst G hG d (x1) (4)) kw_324 kw_325 kw_104 kw_323 rfl rfl hd_PC_checkRange ⟨Nat.le_of_ble_eq_true rfl, Nat.le_of_ble_eq_true rfl⟩ (As := [.int (x1), .int (4)]) (rest := []) rfl hl.1 rfl (Nat.le_of_ble_eq_true rfl) d_PC_lock_7 ⟨Nat.le_of_ble_eq_true rfl, Nat.le_of_ble_eq_true rfl⟩) hW (fun E9 ce q9 d' H locs hp hW g1 g2 g3 => ?_) (fun d' H locs hp hW => ?_)
  · obtain ⟨hp1, hp2⟩ := hp
    have hp2 := hp2.symm; subst hp2
    exact e_xout hno hlk hW g1 g2 g3 ⟨by unfold vlX; (try simp only [cl_nI (show s < 2147483648 by omega)]); rw [h_1, hp1] <;> rfl, by exact rfl⟩ (Nat.le_of_ble_eq_true rfl) (Nat.le_of_ble_eq_true rfl)
  obtain ⟨h_2, hp2⟩ := hp
  have hp2 := hp2.symm; subst hp2
  obtain ⟨k, hk, et⟩ := rg_nat (B := 4) (by omega) h_2
  subst et
  refine lv_aload_n hx hb d_PC_lock_10 rfl (lv_at hl 0 rfl) ?_
  refine e_get (v := .ref (gad G (1))) hx hb hts hown hK hW (F_PC G hG) i_PC rfl 0 (by decide) (hts _ kw_197) (fun _ h => h) rfl d_PC_lock_11 ?_
  refine lv_iload_n hx hb d_PC_lock_14 rfl (lv_at hl 1 rfl) ?_
  refine e_aldq hx hb hK hW (F_Stores G hG) (j := s) hs (q := s + 10) rfl rfl d_PC_lock_15 ?_
  refine e_getN (v := .ref (gad G (s + 30))) hx hb hts hown hK hW (F_Store (i0 := s) G hG hs) i_Store rfl 1 (by decide) (nf_12 hE) (fun _ h => h) rfl d_PC_lock_16 ?_
  refine lv_iload_n hx hb d_PC_lock_19 rfl (lv_at hl 2 rfl) ?_
  refine e_iald hx hb hK hW (F_Loc (i0 := s) G hG hs) (j := k) hk (x := d (s + 30) (k)) (rfl) rfl d_PC_lock_20 ?_
  exact e_xiret hx hb hr hlk hW ⟨by unfold vlX; (try simp only [cl_nI (show s < 2147483648 by omega), cl_nI (show k < 2147483648 by omega)]); rw [h_1, h_2] <;> rfl, by first | (simp only [cl_nI (show s < 2147483648 by omega), cl_nI (show k < 2147483648 by omega)]; done) | (simp only [cl_nI (show s < 2147483648 by omega), cl_nI (show k < 2147483648 by omega)]; rfl) | (exact rfl), by first | (simp only [cl_nI (show s < 2147483648 by omega), cl_nI (show k < 2147483648 by omega)]; done) | (simp only [cl_nI (show s < 2147483648 by omega), cl_nI (show k < 2147483648 by omega)]; rfl) | (exact rfl)⟩ (Nat.le_of_ble_eq_true rfl) (Nat.le_of_ble_eq_true rfl) d_PC_lock_21
set_option maxHeartbeats 4000000 in
set_option maxRecDepth 100000 in
theorem c_state (l : Launch) (hst : l.stackTraces = false) (G : GT) (hG : GOK G) (d : DD) (x0 x1 : Int32) : vx_Met l y_PC_state (.code y_PC_state b_PC_state 3 (some .int) :: WS) { frames := 7, cells := 3, slots := 18, locals := 111 } (cPre G [.ref (gad G (0)), .int (x0), .int (x1)] d) (cQi G (fun r9 u9 => stX d x0 x1 = none ∧ r9 = d (cl x1 + 40) (cl x0) ∧ u9 = d)) (cX G (fun E9 u9 => stX d x0 x1 = some E9 ∧ u9 = d)) 3 18 (gAb G) := by
  refine c_startX (own := R_PC) (by decide +kernel) rfl (Nat.le_of_ble_eq_true rfl) ?_
  intro p e zs zm below meth zc ls hno C hW hl
  obtain ⟨hx, hb, hr, hml, hown, hts, hlk, hE, hbs⟩ := C
  have hK := hE.1
  have hn3 := hG.1
  have hl : lv_has ls 3 [(0, .ref (gad G (0))), (1, .int (x0)), (2, .int (x1))] := hl
  refine lv_iload_n hx hb d_PC_state_0 rfl (lv_at hl 1 rfl) ?_
  refine lv_bipush (v := 8) hx hb d_PC_state_1 (by decide) ?_
  refine e_xv (e_xrunS hx hb hml hown hts hE hbs hW (c_checkRange l hst G hG d (x0) (8)) kw_324 kw_325 kw_104 kw_323 rfl rfl hd_PC_checkRange ⟨Nat.le_of_ble_eq_true rfl, Nat.le_of_ble_eq_true rfl⟩ (As := [.int (x0), .int (8)]) (rest := []) rfl hl.1 rfl (Nat.le_of_ble_eq_true rfl) d_PC_state_3 ⟨Nat.le_of_ble_eq_true rfl, Nat.le_of_ble_eq_true rfl⟩) hW (fun E9 ce q9 d' H locs hp hW g1 g2 g3 => ?_) (fun d' H locs hp hW => ?_)
  · obtain ⟨hp1, hp2⟩ := hp
    have hp2 := hp2.symm; subst hp2
    exact e_xout hno hlk hW g1 g2 g3 ⟨by unfold stX; rw [hp1] <;> rfl, by exact rfl⟩ (Nat.le_of_ble_eq_true rfl) (Nat.le_of_ble_eq_true rfl)
  obtain ⟨h_1, hp2⟩ := hp
  have hp2 := hp2.symm; subst hp2
  obtain ⟨t, ht, et⟩ := rg_nat (B := 8) (by omega) h_1
  subst et
  refine lv_iload_n hx hb d_PC_state_6 rfl (lv_at hl 2 rfl) ?_
  refine lv_iconst (v := 3) hx hb d_PC_state_7 (by decide) ?_
  refine e_xv (e_xrunS hx hb hml hown hts hE hbs hW (c_checkRange l hst G hG d (x1) (3)) kw_324 kw_325 kw_104 kw_323 rfl rfl hd_PC_checkRange ⟨Nat.le_of_ble_eq_true rfl, Nat.le_of_ble_eq_true rfl⟩ (As := [.int (x1), .int (3)]) (rest := []) rfl hl.1 rfl (Nat.le_of_ble_eq_true rfl) d_PC_state_8 ⟨Nat.le_of_ble_eq_true rfl, Nat.le_of_ble_eq_true rfl⟩) hW (fun E9 ce q9 d' H locs hp hW g1 g2 g3 => ?_) (fun d' H locs hp hW => ?_)
  · obtain ⟨hp1, hp2⟩ := hp
    have hp2 := hp2.symm; subst hp2
    exact e_xout hno hlk hW g1 g2 g3 ⟨by unfold stX; (try simp only [cl_nI (show t < 2147483648 by omega)]); rw [h_1, hp1] <;> rfl, by exact rfl⟩ (Nat.le_of_ble_eq_true rfl) (Nat.le_of_ble_eq_true rfl)
  obtain ⟨h_2, hp2⟩ := hp
  have hp2 := hp2.symm; subst hp2
  obtain ⟨s, hs, et⟩ := rg_nat (B := 3) (by omega) h_2
  subst et
  refine lv_aload_n hx hb d_PC_state_11 rfl (lv_at hl 0 rfl) ?_
  refine lv_iload_n hx hb d_PC_state_12 rfl (lv_at hl 1 rfl) ?_
  refine e_xv (e_xrunV hx hb hml hown hts hE hbs hW (F_PC G hG) rfl (c_checkBegun l hst G hG d (nI t)) kw_327 kw_328 kw_329 kw_104 kw_326 rfl rfl hd_PC_checkBegun ⟨Nat.le_of_ble_eq_true rfl, Nat.le_of_ble_eq_true rfl⟩ (As := [.int (nI t)]) (rest := []) rfl hl.1 rfl (Nat.le_of_ble_eq_true rfl) d_PC_state_13 ⟨Nat.le_of_ble_eq_true rfl, Nat.le_of_ble_eq_true rfl⟩) hW (fun E9 ce q9 d' H locs hp hW g1 g2 g3 => ?_) (fun d' H locs hp hW => ?_)
  · obtain ⟨hp1, hp2⟩ := hp
    have hp2 := hp2.symm; subst hp2
    exact e_xout hno hlk hW g1 g2 g3 ⟨by unfold stX; (try simp only [cl_nI (show t < 2147483648 by omega), cl_nI (show s < 2147483648 by omega)]); rw [h_1, h_2, hp1] <;> rfl, by exact rfl⟩ (Nat.le_of_ble_eq_true rfl) (Nat.le_of_ble_eq_true rfl)
  obtain ⟨h_3, hp2⟩ := hp
  have hp2 := hp2.symm; subst hp2
  refine lv_aload_n hx hb d_PC_state_16 rfl (lv_at hl 0 rfl) ?_
  refine e_get (v := .ref (gad G (1))) hx hb hts hown hK hW (F_PC G hG) i_PC rfl 0 (by decide) (hts _ kw_197) (fun _ h => h) rfl d_PC_state_17 ?_
  refine lv_iload_n hx hb d_PC_state_20 rfl (lv_at hl 2 rfl) ?_
  refine e_aldq hx hb hK hW (F_Stores G hG) (j := s) hs (q := s + 10) rfl rfl d_PC_state_21 ?_
  refine e_getN (v := .ref (gad G (s + 40))) hx hb hts hown hK hW (F_Store (i0 := s) G hG hs) i_Store rfl 2 (by decide) (nf_13 hE) (fun _ h => h) rfl d_PC_state_22 ?_
  refine lv_iload_n hx hb d_PC_state_25 rfl (lv_at hl 1 rfl) ?_
  refine e_iald hx hb hK hW (F_Sta (i0 := s) G hG hs) (j := t) ht (x := d (s + 40) (t)) (rfl) rfl d_PC_state_26 ?_
  exact e_xiret hx hb hr hlk hW ⟨by unfold stX; (try simp only [cl_nI (show t < 2147483648 by omega), cl_nI (show s < 2147483648 by omega)]); rw [h_1, h_2, h_3] <;> rfl, by first | (simp only [cl_nI (show t < 2147483648 by omega), cl_nI (show s < 2147483648 by omega)]; done) | (simp only [cl_nI (show t < 2147483648 by omega), cl_nI (show s < 2147483648 by omega)]; rfl) | (exact rfl), by first | (simp only [cl_nI (show t < 2147483648 by omega), cl_nI (show s < 2147483648 by omega)]; done) | (simp only [cl_nI (show t < 2147483648 by omega), cl_nI (show s < 2147483648 by omega)]; rfl) | (exact rfl)⟩ (Nat.le_of_ble_eq_true rfl) (Nat.le_of_ble_eq_true rfl) d_PC_state_27
set_option maxHeartbeats 4000000 in
set_option maxRecDepth 100000 in
theorem c_outcome (l : Launch) (hst : l.stackTraces = false) (G : GT) (hG : GOK G) (d : DD) (x0 x1 : Int32) : vx_Met l y_PC_outcome (.code y_PC_outcome b_PC_outcome 4 (some .int) :: WS) { frames := 7, cells := 4, slots := 24, locals := 111 } (cPre G [.ref (gad G (0)), .int (x0), .int (x1)] d) (cQi G (fun r9 u9 => ocX d x0 x1 = none ∧ r9 = ocI (d (cl x0 * 8 + cl x1 + 200) 2) ∧ u9 = d)) (cX G (fun E9 u9 => ocX d x0 x1 = some E9 ∧ u9 = d)) 4 24 (gAb G) := by
  refine c_startX (own := R_PC) (by decide +kernel) rfl (Nat.le_of_ble_eq_true rfl) ?_
  intro p e zs zm below meth zc ls hno C hW hl
  obtain ⟨hx, hb, hr, hml, hown, hts, hlk, hE, hbs⟩ := C
  have hK := hE.1
  have hn3 := hG.1
  have hl : lv_has ls 4 [(0, .ref (gad G (0))), (1, .int (x0)), (2, .int (x1))] := hl
  refine lv_iload_n hx hb d_PC_outcome_0 rfl (lv_at hl 1 rfl) ?_
  refine lv_iconst (v := 2) hx hb d_PC_outcome_1 (by decide) ?_
  refine e_xv (e_xrunS hx hb hml hown hts hE hbs hW (c_checkRange l hst G hG d (x0) (2)) kw_324 kw_325 kw_104 kw_323 rfl rfl hd_PC_checkRange ⟨Nat.le_of_ble_eq_true rfl, Nat.le_of_ble_eq_true rfl⟩ (As := [.int (x0), .int (2)]) (rest := []) rfl hl.1 rfl (Nat.le_of_ble_eq_true rfl) d_PC_outcome_2 ⟨Nat.le_of_ble_eq_true rfl, Nat.le_of_ble_eq_true rfl⟩) hW (fun E9 ce q9 d' H locs hp hW g1 g2 g3 => ?_) (fun d' H locs hp hW => ?_)
  · obtain ⟨hp1, hp2⟩ := hp
    have hp2 := hp2.symm; subst hp2
    exact e_xout hno hlk hW g1 g2 g3 ⟨by unfold ocX; rw [hp1] <;> rfl, by exact rfl⟩ (Nat.le_of_ble_eq_true rfl) (Nat.le_of_ble_eq_true rfl)
  obtain ⟨h_1, hp2⟩ := hp
  have hp2 := hp2.symm; subst hp2
  obtain ⟨ld, hld, et⟩ := rg_nat (B := 2) (by omega) h_1
  subst et
  refine lv_iload_n hx hb d_PC_outcome_5 rfl (lv_at hl 2 rfl) ?_
  refine lv_bipush (v := 8) hx hb d_PC_outcome_6 (by decide) ?_
  refine e_xv (e_xrunS hx hb hml hown hts hE hbs hW (c_checkRange l hst G hG d (x1) (8)) kw_324 kw_325 kw_104 kw_323 rfl rfl hd_PC_checkRange ⟨Nat.le_of_ble_eq_true rfl, Nat.le_of_ble_eq_true rfl⟩ (As := [.int (x1), .int (8)]) (rest := []) rfl hl.1 rfl (Nat.le_of_ble_eq_true rfl) d_PC_outcome_8 ⟨Nat.le_of_ble_eq_true rfl, Nat.le_of_ble_eq_true rfl⟩) hW (fun E9 ce q9 d' H locs hp hW g1 g2 g3 => ?_) (fun d' H locs hp hW => ?_)
  · obtain ⟨hp1, hp2⟩ := hp
    have hp2 := hp2.symm; subst hp2
    exact e_xout hno hlk hW g1 g2 g3 ⟨by unfold ocX; (try simp only [cl_nI (show ld < 2147483648 by omega)]); rw [h_1, hp1] <;> rfl, by exact rfl⟩ (Nat.le_of_ble_eq_true rfl) (Nat.le_of_ble_eq_true rfl)
  obtain ⟨h_2, hp2⟩ := hp
  have hp2 := hp2.symm; subst hp2
  obtain ⟨t, ht, et⟩ := rg_nat (B := 8) (by omega) h_2
  subst et
  refine lv_aload_n hx hb d_PC_outcome_11 rfl (lv_at hl 0 rfl) ?_
  refine lv_iload_n hx hb d_PC_outcome_12 rfl (lv_at hl 2 rfl) ?_
  refine e_xv (e_xrunV hx hb hml hown hts hE hbs hW (F_PC G hG) rfl (c_checkBegun l hst G hG d (nI t)) kw_327 kw_328 kw_329 kw_104 kw_326 rfl rfl hd_PC_checkBegun ⟨Nat.le_of_ble_eq_true rfl, Nat.le_of_ble_eq_true rfl⟩ (As := [.int (nI t)]) (rest := []) rfl hl.1 rfl (Nat.le_of_ble_eq_true rfl) d_PC_outcome_13 ⟨Nat.le_of_ble_eq_true rfl, Nat.le_of_ble_eq_true rfl⟩) hW (fun E9 ce q9 d' H locs hp hW g1 g2 g3 => ?_) (fun d' H locs hp hW => ?_)
  · obtain ⟨hp1, hp2⟩ := hp
    have hp2 := hp2.symm; subst hp2
    exact e_xout hno hlk hW g1 g2 g3 ⟨by unfold ocX; (try simp only [cl_nI (show ld < 2147483648 by omega), cl_nI (show t < 2147483648 by omega)]); rw [h_1, h_2, hp1] <;> rfl, by exact rfl⟩ (Nat.le_of_ble_eq_true rfl) (Nat.le_of_ble_eq_true rfl)
  obtain ⟨h_3, hp2⟩ := hp
  have hp2 := hp2.symm; subst hp2
  refine lv_aload_n hx hb d_PC_outcome_16 rfl (lv_at hl 0 rfl) ?_
  refine lv_iload_n hx hb d_PC_outcome_17 rfl (lv_at hl 1 rfl) ?_
  refine lv_iload_n hx hb d_PC_outcome_18 rfl (lv_at hl 2 rfl) ?_
  refine e_cr (e_runV hx hb hml hown hts hE hbs hW (F_PC G hG) rfl (c_ledger l G hG d ld t hld ht) kw_203 kw_204 kw_205 kw_104 kw_202 rfl rfl hd_PC_ledger ⟨Nat.le_of_ble_eq_true rfl, Nat.le_of_ble_eq_true rfl⟩ (As := [.int (nI ld), .int (nI t)]) (rest := []) rfl hl.1 rfl (Nat.le_of_ble_eq_true rfl) d_PC_outcome_19 ⟨Nat.le_of_ble_eq_true rfl, Nat.le_of_ble_eq_true rfl⟩) hW (fun cn d' H locs hp hW => ?_)
  obtain ⟨hp1, hp2⟩ := hp
  have hp1 := hp1.symm; subst hp1
  have hp2 := hp2.symm; subst hp2
  refine e_getN (v := .int (d (ld * 8 + t + 200) (2))) hx hb hts hown hK hW (F_Led (i0 := ld * 8 + t) G hG (by omega)) i_Led rfl 2 (by decide) (nf_18 hE) (fun _ h => h) rfl d_PC_outcome_22 ?_
  refine lv_istore_n (lv' := [(3, .int (d (ld * 8 + t + 200) (2))), (0, .ref (gad G (0))), (1, .int (nI ld)), (2, .int (nI t))]) hx hb d_PC_outcome_25 rfl hl (by decide) rfl (fun ls hl => ?_)
  refine lv_iload_n hx hb d_PC_outcome_26 rfl (lv_at hl 0 rfl) ?_
  refine lv_iconst (v := -1) hx hb d_PC_outcome_27 (by decide) ?_
  refine lv_icmp_ne (tgt := 41) hx hb d_PC_outcome_28 (by decide) (fun c_4 => ?_) (fun c_4 => ?_)
  · skip
    refine lv_iload_n hx hb d_PC_outcome_41 rfl (lv_at hl 0 rfl) ?_
    refine lv_iconst (v := 1) hx hb d_PC_outcome_42 (by decide) ?_
    refine lv_icmp_ne (tgt := 50) hx hb d_PC_outcome_43 (by decide) (fun c_5 => ?_) (fun c_5 => ?_)
    · skip
      refine lv_iconst (v := 1) hx hb d_PC_outcome_50 (by decide) ?_
      exact e_xiret hx hb hr hlk hW ⟨by unfold ocX; (try simp only [cl_nI (show ld < 2147483648 by omega), cl_nI (show t < 2147483648 by omega)]); rw [h_1, h_2, h_3, if_neg c_4] <;> rfl, by simp only [cl_nI (show ld < 2147483648 by omega), cl_nI (show t < 2147483648 by omega)]; unfold ocI; rw [if_neg c_5], by exact rfl⟩ (Nat.le_of_ble_eq_true rfl) (Nat.le_of_ble_eq_true rfl) d_PC_outcome_51
    · skip
      refine lv_iconst (v := 0) hx hb d_PC_outcome_46 (by decide) ?_
      refine lv_goto (tgt := 51) hx hb d_PC_outcome_47 (by decide) ?_
      exact e_xiret hx hb hr hlk hW ⟨by unfold ocX; (try simp only [cl_nI (show ld < 2147483648 by omega), cl_nI (show t < 2147483648 by omega)]); rw [h_1, h_2, h_3, if_neg c_4] <;> rfl, by simp only [cl_nI (show ld < 2147483648 by omega), cl_nI (show t < 2147483648 by omega)]; unfold ocI; rw [if_pos c_5], by exact rfl⟩ (Nat.le_of_ble_eq_true rfl) (Nat.le_of_ble_eq_true rfl) d_PC_outcome_51
  · skip
    exact e_thr hst hx hb hown hts hE hW hml hl.1 hno hlk xt_PC_IllegalStateException ks_201 d_PC_outcome_31 d_PC_outcome_34 d_PC_outcome_35 d_PC_outcome_37 d_PC_outcome_40 (Nat.le_of_ble_eq_true rfl) (Nat.le_of_ble_eq_true rfl) (Nat.le_of_ble_eq_true rfl) (Nat.le_of_ble_eq_true rfl) (Nat.le_of_ble_eq_true rfl) (Nat.le_of_ble_eq_true rfl) ⟨by unfold ocX; (try simp only [cl_nI (show ld < 2147483648 by omega), cl_nI (show t < 2147483648 by omega)]); rw [h_1, h_2, h_3, if_pos c_4] <;> rfl, by exact rfl⟩
set_option maxHeartbeats 4000000 in
set_option maxRecDepth 100000 in
theorem c_taken (l : Launch) (hst : l.stackTraces = false) (G : GT) (hG : GOK G) (d : DD) (x0 x1 x2 x3 : Int32) : vx_Met l y_PC_taken (.code y_PC_taken b_PC_taken 6 (some .int) :: WS) { frames := 7, cells := 4, slots := 24, locals := 111 } (cPre G [.ref (gad G (0)), .int (x0), .int (x1), .int (x2), .int (x3)] d) (cQi G (fun r9 u9 => tnX (gn G) d x0 x1 x2 = none ∧ r9 = tnI d (cl x0) (cl x1) (cl x2) x3 ∧ u9 = d)) (cX G (fun E9 u9 => tnX (gn G) d x0 x1 x2 = some E9 ∧ u9 = d)) 4 24 (gAb G) := by
  refine c_startX (own := R_PC) (by decide +kernel) rfl (Nat.le_of_ble_eq_true rfl) ?_
  intro p e zs zm below meth zc ls hno C hW hl
  obtain ⟨hx, hb, hr, hml, hown, hts, hlk, hE, hbs⟩ := C
  have hK := hE.1
  have hn3 := hG.1
  have hl : lv_has ls 6 [(0, .ref (gad G (0))), (1, .int (x0)), (2, .int (x1)), (3, .int (x2)), (4, .int (x3))] := hl
  refine lv_iload_n hx hb d_PC_taken_0 rfl (lv_at hl 1 rfl) ?_
  refine lv_aload_n hx hb d_PC_taken_1 rfl (lv_at hl 0 rfl) ?_
  refine e_get (v := .ref (gad G (2))) hx hb hts hown hK hW (F_PC G hG) i_PC rfl 1 (by decide) (hts _ kw_196) (fun _ h => h) rfl d_PC_taken_2 ?_
  refine e_lenQ hx hb hK hW (F_Accs G hG) d_PC_taken_5 ?_
  refine e_xv (e_xrunS hx hb hml hown hts hE hbs hW (c_checkRange l hst G hG d (x0) (nI (gn G))) kw_324 kw_325 kw_104 kw_323 rfl rfl hd_PC_checkRange ⟨Nat.le_of_ble_eq_true rfl, Nat.le_of_ble_eq_true rfl⟩ (As := [.int (x0), .int (nI (gn G))]) (rest := []) rfl hl.1 rfl (Nat.le_of_ble_eq_true rfl) d_PC_taken_6 ⟨Nat.le_of_ble_eq_true rfl, Nat.le_of_ble_eq_true rfl⟩) hW (fun E9 ce q9 d' H locs hp hW g1 g2 g3 => ?_) (fun d' H locs hp hW => ?_)
  · obtain ⟨hp1, hp2⟩ := hp
    have hp2 := hp2.symm; subst hp2
    exact e_xout hno hlk hW g1 g2 g3 ⟨by unfold tnX; rw [hp1] <;> rfl, by exact rfl⟩ (Nat.le_of_ble_eq_true rfl) (Nat.le_of_ble_eq_true rfl)
  obtain ⟨h_1, hp2⟩ := hp
  have hp2 := hp2.symm; subst hp2
  obtain ⟨a, ha, et⟩ := rg_nat (B := gn G) (by omega) h_1
  subst et
  refine lv_iload_n hx hb d_PC_taken_9 rfl (lv_at hl 2 rfl) ?_
  refine lv_bipush (v := 8) hx hb d_PC_taken_10 (by decide) ?_
  refine e_xv (e_xrunS hx hb hml hown hts hE hbs hW (c_checkRange l hst G hG d (x1) (8)) kw_324 kw_325 kw_104 kw_323 rfl rfl hd_PC_checkRange ⟨Nat.le_of_ble_eq_true rfl, Nat.le_of_ble_eq_true rfl⟩ (As := [.int (x1), .int (8)]) (rest := []) rfl hl.1 rfl (Nat.le_of_ble_eq_true rfl) d_PC_taken_12 ⟨Nat.le_of_ble_eq_true rfl, Nat.le_of_ble_eq_true rfl⟩) hW (fun E9 ce q9 d' H locs hp hW g1 g2 g3 => ?_) (fun d' H locs hp hW => ?_)
  · obtain ⟨hp1, hp2⟩ := hp
    have hp2 := hp2.symm; subst hp2
    exact e_xout hno hlk hW g1 g2 g3 ⟨by unfold tnX; (try simp only [cl_nI (show a < 2147483648 by omega)]); rw [h_1, hp1] <;> rfl, by exact rfl⟩ (Nat.le_of_ble_eq_true rfl) (Nat.le_of_ble_eq_true rfl)
  obtain ⟨h_2, hp2⟩ := hp
  have hp2 := hp2.symm; subst hp2
  obtain ⟨t, ht, et⟩ := rg_nat (B := 8) (by omega) h_2
  subst et
  refine lv_iload_n hx hb d_PC_taken_15 rfl (lv_at hl 3 rfl) ?_
  refine lv_iconst (v := 3) hx hb d_PC_taken_16 (by decide) ?_
  refine e_xv (e_xrunS hx hb hml hown hts hE hbs hW (c_checkRange l hst G hG d (x2) (3)) kw_324 kw_325 kw_104 kw_323 rfl rfl hd_PC_checkRange ⟨Nat.le_of_ble_eq_true rfl, Nat.le_of_ble_eq_true rfl⟩ (As := [.int (x2), .int (3)]) (rest := []) rfl hl.1 rfl (Nat.le_of_ble_eq_true rfl) d_PC_taken_17 ⟨Nat.le_of_ble_eq_true rfl, Nat.le_of_ble_eq_true rfl⟩) hW (fun E9 ce q9 d' H locs hp hW g1 g2 g3 => ?_) (fun d' H locs hp hW => ?_)
  · obtain ⟨hp1, hp2⟩ := hp
    have hp2 := hp2.symm; subst hp2
    exact e_xout hno hlk hW g1 g2 g3 ⟨by unfold tnX; (try simp only [cl_nI (show a < 2147483648 by omega), cl_nI (show t < 2147483648 by omega)]); rw [h_1, h_2, hp1] <;> rfl, by exact rfl⟩ (Nat.le_of_ble_eq_true rfl) (Nat.le_of_ble_eq_true rfl)
  obtain ⟨h_3, hp2⟩ := hp
  have hp2 := hp2.symm; subst hp2
  obtain ⟨s, hs, et⟩ := rg_nat (B := 3) (by omega) h_3
  subst et
  refine lv_aload_n hx hb d_PC_taken_20 rfl (lv_at hl 0 rfl) ?_
  refine lv_iload_n hx hb d_PC_taken_21 rfl (lv_at hl 2 rfl) ?_
  refine e_xv (e_xrunV hx hb hml hown hts hE hbs hW (F_PC G hG) rfl (c_checkBegun l hst G hG d (nI t)) kw_327 kw_328 kw_329 kw_104 kw_326 rfl rfl hd_PC_checkBegun ⟨Nat.le_of_ble_eq_true rfl, Nat.le_of_ble_eq_true rfl⟩ (As := [.int (nI t)]) (rest := []) rfl hl.1 rfl (Nat.le_of_ble_eq_true rfl) d_PC_taken_22 ⟨Nat.le_of_ble_eq_true rfl, Nat.le_of_ble_eq_true rfl⟩) hW (fun E9 ce q9 d' H locs hp hW g1 g2 g3 => ?_) (fun d' H locs hp hW => ?_)
  · obtain ⟨hp1, hp2⟩ := hp
    have hp2 := hp2.symm; subst hp2
    exact e_xout hno hlk hW g1 g2 g3 ⟨by unfold tnX; (try simp only [cl_nI (show a < 2147483648 by omega), cl_nI (show t < 2147483648 by omega), cl_nI (show s < 2147483648 by omega)]); rw [h_1, h_2, h_3, hp1] <;> rfl, by exact rfl⟩ (Nat.le_of_ble_eq_true rfl) (Nat.le_of_ble_eq_true rfl)
  obtain ⟨h_4, hp2⟩ := hp
  have hp2 := hp2.symm; subst hp2
  refine lv_aload_n hx hb d_PC_taken_25 rfl (lv_at hl 0 rfl) ?_
  refine e_get (v := .ref (gad G (2))) hx hb hts hown hK hW (F_PC G hG) i_PC rfl 1 (by decide) (hts _ kw_196) (fun _ h => h) rfl d_PC_taken_26 ?_
  refine lv_iload_n hx hb d_PC_taken_29 rfl (lv_at hl 1 rfl) ?_
  refine e_aldq hx hb hK hW (F_Accs G hG) (j := a) ha (q := a + 100) rfl rfl d_PC_taken_30 ?_
  refine lv_astore (lv' := [(5, .ref (gad G (a + 100))), (0, .ref (gad G (0))), (1, .int (nI a)), (2, .int (nI t)), (3, .int (nI s)), (4, .int (x3))]) hx hb d_PC_taken_31 hl (by decide) rfl (fun ls hl => ?_)
  refine lv_iload hx hb d_PC_taken_33 (lv_at hl 5 rfl) ?_
  refine lv_if_eq (tgt := 50) hx hb d_PC_taken_35 (by decide) (fun c_5 => ?_) (fun c_5 => ?_)
  · skip
    refine lv_aload hx hb d_PC_taken_50 (lv_at hl 0 rfl) ?_
    refine e_getN (v := .ref (gad G (a + 120))) hx hb hts hown hK hW (F_Acc (i0 := a) G hG ha) i_Acc rfl 1 (by decide) (nf_15 hE) (fun _ h => h) rfl d_PC_taken_52 ?_
    refine lv_iload_n hx hb d_PC_taken_55 rfl (lv_at hl 3 rfl) ?_
    refine e_aldA hx hb hK hW (F_Tak (i0 := a) G hG ha) (j := t) ht (q := 8 * a + t + 160) rfl rfl d_PC_taken_56 ?_
    refine lv_iload_n hx hb d_PC_taken_57 rfl (lv_at hl 4 rfl) ?_
    refine e_iald hx hb hK hW (F_TkR (i0 := a) (i1 := t) G hG ha ht) (j := s) hs (x := d (8 * a + t + 160) (s)) (rfl) rfl d_PC_taken_58 ?_
    exact e_xiret hx hb hr hlk hW ⟨by unfold tnX; (try simp only [cl_nI (show a < 2147483648 by omega), cl_nI (show t < 2147483648 by omega), cl_nI (show s < 2147483648 by omega)]); rw [h_1, h_2, h_3, h_4] <;> rfl, by simp only [cl_nI (show a < 2147483648 by omega), cl_nI (show t < 2147483648 by omega), cl_nI (show s < 2147483648 by omega)]; unfold tnI; rw [if_pos c_5], by exact rfl⟩ (Nat.le_of_ble_eq_true rfl) (Nat.le_of_ble_eq_true rfl) d_PC_taken_59
  · skip
    refine lv_aload hx hb d_PC_taken_38 (lv_at hl 0 rfl) ?_
    refine e_getN (v := .ref (gad G (a + 110))) hx hb hts hown hK hW (F_Acc (i0 := a) G hG ha) i_Acc rfl 0 (by decide) (nf_14 hE) (fun _ h => h) rfl d_PC_taken_40 ?_
    refine lv_iload_n hx hb d_PC_taken_43 rfl (lv_at hl 3 rfl) ?_
    refine e_aldA hx hb hK hW (F_Pro (i0 := a) G hG ha) (j := t) ht (q := 8 * a + t + 130) rfl rfl d_PC_taken_44 ?_
    refine lv_iload_n hx hb d_PC_taken_45 rfl (lv_at hl 4 rfl) ?_
    refine e_iald hx hb hK hW (F_PrR (i0 := a) (i1 := t) G hG ha ht) (j := s) hs (x := d (8 * a + t + 130) (s)) (rfl) rfl d_PC_taken_46 ?_
    refine lv_goto (tgt := 59) hx hb d_PC_taken_47 (by decide) ?_
    exact e_xiret hx hb hr hlk hW ⟨by unfold tnX; (try simp only [cl_nI (show a < 2147483648 by omega), cl_nI (show t < 2147483648 by omega), cl_nI (show s < 2147483648 by omega)]); rw [h_1, h_2, h_3, h_4] <;> rfl, by simp only [cl_nI (show a < 2147483648 by omega), cl_nI (show t < 2147483648 by omega), cl_nI (show s < 2147483648 by omega)]; unfold tnI; rw [if_neg c_5], by exact rfl⟩ (Nat.le_of_ble_eq_true rfl) (Nat.le_of_ble_eq_true rfl) d_PC_taken_59
set_option maxHeartbeats 4000000 in
set_option maxRecDepth 100000 in
theorem c_count (l : Launch) (hst : l.stackTraces = false) (G : GT) (hG : GOK G) (d : DD) (x0 : Int32) : vx_Met l y_PC_count (.code y_PC_count b_PC_count 2 (some .int) :: WS) { frames := 7, cells := 1, slots := 6, locals := 111 } (cPre G [.ref (gad G (0)), .int (x0)] d) (cQi G (fun r9 u9 => rgX x0 7 = none ∧ r9 = ctI d (gn G) x0 ∧ u9 = d)) (cX G (fun E9 u9 => rgX x0 7 = some E9 ∧ u9 = d)) 1 6 (gAb G) := by
  refine c_startX (own := R_PC) (by decide +kernel) rfl (Nat.le_of_ble_eq_true rfl) ?_
  intro p e zs zm below meth zc ls hno C hW hl
  obtain ⟨hx, hb, hr, hml, hown, hts, hlk, hE, hbs⟩ := C
  have hK := hE.1
  have hn3 := hG.1
  have hl : lv_has ls 2 [(0, .ref (gad G (0))), (1, .int (x0))] := hl
  refine lv_iload_n hx hb d_PC_count_0 rfl (lv_at hl 1 rfl) ?_
  refine lv_bipush (v := 7) hx hb d_PC_count_1 (by decide) ?_
  refine e_xv (e_xrunS hx hb hml hown hts hE hbs hW (c_checkRange l hst G hG d (x0) (7)) kw_324 kw_325 kw_104 kw_323 rfl rfl hd_PC_checkRange ⟨Nat.le_of_ble_eq_true rfl, Nat.le_of_ble_eq_true rfl⟩ (As := [.int (x0), .int (7)]) (rest := []) rfl hl.1 rfl (Nat.le_of_ble_eq_true rfl) d_PC_count_3 ⟨Nat.le_of_ble_eq_true rfl, Nat.le_of_ble_eq_true rfl⟩) hW (fun E9 ce q9 d' H locs hp hW g1 g2 g3 => ?_) (fun d' H locs hp hW => ?_)
  · obtain ⟨hp1, hp2⟩ := hp
    have hp2 := hp2.symm; subst hp2
    exact e_xout hno hlk hW g1 g2 g3 ⟨by exact hp1, by exact rfl⟩ (Nat.le_of_ble_eq_true rfl) (Nat.le_of_ble_eq_true rfl)
  obtain ⟨h_1, hp2⟩ := hp
  have hp2 := hp2.symm; subst hp2
  refine lv_iload_n hx hb d_PC_count_6 rfl (lv_at hl 1 rfl) ?_
  by_cases c_2 : (x0) = 0
  · skip
    refine lv_tableIn (off := 37) (tgt := 44) hx hb d_PC_count_7 (by rw [c_2]; decide) (by rw [c_2]; decide) (by rw [c_2]; decide) (by decide) ?_
    refine lv_aload_n hx hb d_PC_count_44 rfl (lv_at hl 0 rfl) ?_
    refine e_get (v := .ref (gad G (5))) hx hb hts hown hK hW (F_PC G hG) i_PC rfl 5 (by decide) (hts _ kw_210) (fun _ h => h) rfl d_PC_count_45 ?_
    refine e_getN (v := .int (d (5) (1))) hx hb hts hown hK hW (F_Net G hG) i_Net rfl 1 (by decide) (nf_9 hE) (fun _ h => h) rfl d_PC_count_48 ?_
    exact e_xiret hx hb hr hlk hW ⟨by exact h_1, by unfold ctI; rw [if_pos c_2], by exact rfl⟩ (Nat.le_of_ble_eq_true rfl) (Nat.le_of_ble_eq_true rfl) d_PC_count_51
  · skip
    by_cases c_3 : (x0) = 1
    · skip
      refine lv_tableIn (off := 45) (tgt := 52) hx hb d_PC_count_7 (by rw [c_3]; decide) (by rw [c_3]; decide) (by rw [c_3]; decide) (by decide) ?_
      refine lv_aload_n hx hb d_PC_count_52 rfl (lv_at hl 0 rfl) ?_
      refine e_get (v := .ref (gad G (5))) hx hb hts hown hK hW (F_PC G hG) i_PC rfl 5 (by decide) (hts _ kw_210) (fun _ h => h) rfl d_PC_count_53 ?_
      refine e_getN (v := .int (d (5) (2))) hx hb hts hown hK hW (F_Net G hG) i_Net rfl 2 (by decide) (nf_10 hE) (fun _ h => h) rfl d_PC_count_56 ?_
      exact e_xiret hx hb hr hlk hW ⟨by exact h_1, by unfold ctI; rw [if_neg c_2, if_pos c_3], by exact rfl⟩ (Nat.le_of_ble_eq_true rfl) (Nat.le_of_ble_eq_true rfl) d_PC_count_59
    · skip
      by_cases c_4 : (x0) = 2
      · skip
        refine lv_tableIn (off := 53) (tgt := 60) hx hb d_PC_count_7 (by rw [c_4]; decide) (by rw [c_4]; decide) (by rw [c_4]; decide) (by decide) ?_
        refine lv_aload_n hx hb d_PC_count_60 rfl (lv_at hl 0 rfl) ?_
        refine e_get (v := .int (d (0) (8))) hx hb hts hown hK hW (F_PC G hG) i_PC rfl 8 (by decide) (hts _ kw_318) (fun _ h => h) rfl d_PC_count_61 ?_
        exact e_xiret hx hb hr hlk hW ⟨by exact h_1, by unfold ctI; rw [if_neg c_2, if_neg c_3, if_pos c_4], by exact rfl⟩ (Nat.le_of_ble_eq_true rfl) (Nat.le_of_ble_eq_true rfl) d_PC_count_64
      · skip
        by_cases c_5 : (x0) = 3
        · skip
          refine lv_tableIn (off := 58) (tgt := 65) hx hb d_PC_count_7 (by rw [c_5]; decide) (by rw [c_5]; decide) (by rw [c_5]; decide) (by decide) ?_
          refine lv_aload_n hx hb d_PC_count_65 rfl (lv_at hl 0 rfl) ?_
          refine e_get (v := .ref (gad G (2))) hx hb hts hown hK hW (F_PC G hG) i_PC rfl 1 (by decide) (hts _ kw_196) (fun _ h => h) rfl d_PC_count_66 ?_
          refine e_lenQ hx hb hK hW (F_Accs G hG) d_PC_count_69 ?_
          exact e_xiret hx hb hr hlk hW ⟨by exact h_1, by unfold ctI; rw [if_neg c_2, if_neg c_3, if_neg c_4, if_pos c_5], by exact rfl⟩ (Nat.le_of_ble_eq_true rfl) (Nat.le_of_ble_eq_true rfl) d_PC_count_70
        · skip
          by_cases c_6 : (x0) = 4
          · skip
            refine lv_tableIn (off := 64) (tgt := 71) hx hb d_PC_count_7 (by rw [c_6]; decide) (by rw [c_6]; decide) (by rw [c_6]; decide) (by decide) ?_
            refine lv_aload_n hx hb d_PC_count_71 rfl (lv_at hl 0 rfl) ?_
            refine e_get (v := .ref (gad G (4))) hx hb hts hown hK hW (F_PC G hG) i_PC rfl 4 (by decide) (hts _ kw_286) (fun _ h => h) rfl d_PC_count_72 ?_
            refine lv_iconst (v := 0) hx hb d_PC_count_75 (by decide) ?_
            refine e_iald hx hb hK hW (F_UpS G hG) (j := 0) (by decide) (x := d (4) (0)) (rfl) rfl d_PC_count_76 ?_
            exact e_xiret hx hb hr hlk hW ⟨by exact h_1, by unfold ctI; rw [if_neg c_2, if_neg c_3, if_neg c_4, if_neg c_5, if_pos c_6], by exact rfl⟩ (Nat.le_of_ble_eq_true rfl) (Nat.le_of_ble_eq_true rfl) d_PC_count_77
          · skip
            by_cases c_7 : (x0) = 5
            · skip
              refine lv_tableIn (off := 71) (tgt := 78) hx hb d_PC_count_7 (by rw [c_7]; decide) (by rw [c_7]; decide) (by rw [c_7]; decide) (by decide) ?_
              refine lv_aload_n hx hb d_PC_count_78 rfl (lv_at hl 0 rfl) ?_
              refine e_get (v := .ref (gad G (4))) hx hb hts hown hK hW (F_PC G hG) i_PC rfl 4 (by decide) (hts _ kw_286) (fun _ h => h) rfl d_PC_count_79 ?_
              refine lv_iconst (v := 1) hx hb d_PC_count_82 (by decide) ?_
              refine e_iald hx hb hK hW (F_UpS G hG) (j := 1) (by decide) (x := d (4) (1)) (rfl) rfl d_PC_count_83 ?_
              exact e_xiret hx hb hr hlk hW ⟨by exact h_1, by unfold ctI; rw [if_neg c_2, if_neg c_3, if_neg c_4, if_neg c_5, if_neg c_6, if_pos c_7], by exact rfl⟩ (Nat.le_of_ble_eq_true rfl) (Nat.le_of_ble_eq_true rfl) d_PC_count_84
            · skip
              refine lv_tableOut (tgt := 85) hx hb d_PC_count_7 (by have q0 := lv_neT c_2 (a := 0) (by decide); have q1 := lv_neT c_3 (a := 1) (by decide); have q2 := lv_neT c_4 (a := 2) (by decide); have q3 := lv_neT c_5 (a := 3) (by decide); have q4 := lv_neT c_6 (a := 4) (by decide); have q5 := lv_neT c_7 (a := 5) (by decide); omega) (by decide) ?_
              refine lv_aload_n hx hb d_PC_count_85 rfl (lv_at hl 0 rfl) ?_
              refine e_get (v := .ref (gad G (4))) hx hb hts hown hK hW (F_PC G hG) i_PC rfl 4 (by decide) (hts _ kw_286) (fun _ h => h) rfl d_PC_count_86 ?_
              refine lv_iconst (v := 2) hx hb d_PC_count_89 (by decide) ?_
              refine e_iald hx hb hK hW (F_UpS G hG) (j := 2) (by decide) (x := d (4) (2)) (rfl) rfl d_PC_count_90 ?_
              exact e_xiret hx hb hr hlk hW ⟨by exact h_1, by unfold ctI; rw [if_neg c_2, if_neg c_3, if_neg c_4, if_neg c_5, if_neg c_6, if_neg c_7], by exact rfl⟩ (Nat.le_of_ble_eq_true rfl) (Nat.le_of_ble_eq_true rfl) d_PC_count_91
