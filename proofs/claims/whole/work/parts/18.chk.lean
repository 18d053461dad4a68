theorem kw_316 : .classLink R_PC 166 "java/lang/IllegalArgumentException" ∈ WS := List.mem_filter.mpr ⟨List.mem_append_right _ (List.mem_of_getElem? (i := 304) (by decide +kernel)), by decide +kernel⟩
theorem kw_317 : .initialized "java/lang/IllegalArgumentException" ∈ WS := List.mem_filter.mpr ⟨List.mem_append_right _ (List.mem_of_getElem? (i := 13) (by decide +kernel)), by decide +kernel⟩
theorem kw_318 : .fieldLink R_PC 39 "PaxosCommit" "begun" "I" ∈ WS := List.mem_filter.mpr ⟨List.mem_append_right _ (List.mem_of_getElem? (i := 190) (by decide +kernel)), by decide +kernel⟩
theorem kw_319 : .classLink R_PC 57 "java/lang/IllegalStateException" ∈ WS := List.mem_filter.mpr ⟨List.mem_append_right _ (List.mem_of_getElem? (i := 221) (by decide +kernel)), by decide +kernel⟩
theorem kw_320 : .initialized "java/lang/IllegalStateException" ∈ WS := List.mem_filter.mpr ⟨List.mem_append_right _ (List.mem_of_getElem? (i := 12) (by decide +kernel)), by decide +kernel⟩
theorem kw_321 : .classLink R_PC 222 "java/lang/IndexOutOfBoundsException" ∈ WS := List.mem_filter.mpr ⟨List.mem_append_right _ (List.mem_of_getElem? (i := 484) (by decide +kernel)), by decide +kernel⟩
theorem kw_322 : .initialized "java/lang/IndexOutOfBoundsException" ∈ WS := List.mem_filter.mpr ⟨List.mem_append_right _ (List.mem_of_getElem? (i := 19) (by decide +kernel)), by decide +kernel⟩
theorem xt_PC_IllegalArgumentException : XT R_PC 166 170 "java/lang/IllegalArgumentException" := ⟨by decide +kernel, kw_316, kw_317, xt_good (by decide +kernel), by decide +kernel, by decide +kernel, by decide +kernel⟩
theorem xt_PC_IllegalStateException : XT R_PC 57 61 "java/lang/IllegalStateException" := ⟨by decide +kernel, kw_319, kw_320, xt_good (by decide +kernel), by decide +kernel, by decide +kernel, by decide +kernel⟩
theorem xt_PC_IndexOutOfBoundsException : XT R_PC 222 226 "java/lang/IndexOutOfBoundsException" := ⟨by decide +kernel, kw_321, kw_322, xt_good (by decide +kernel), by decide +kernel, by decide +kernel, by decide +kernel⟩
set_option maxHeartbeats 4000000 in
set_option maxRecDepth 100000 in
theorem c_checkRange (l : Launch) (hst : l.stackTraces = false) (G : GT) (hG : GOK G) (d : DD) (x y : Int32) : vx_Met l y_PC_checkRange (.code y_PC_checkRange b_PC_checkRange 2 none :: WS) { frames := 6, cells := 1, slots := 6, locals := 90 } (cPre G [.int (x), .int (y)] d) (cQv G (fun u9 => rgX x y = none ∧ u9 = d)) (cX G (fun E9 u9 => rgX x y = some E9 ∧ u9 = d)) 1 6 (gAb G) := by
  refine c_startX (own := R_PC) (by decide +kernel) rfl (Nat.le_of_ble_eq_true rfl) ?_
  intro p e zs zm below meth zc ls hno C hW hl
  obtain ⟨hx, hb, hr, hml, hown, hts, hlk, hE, hbs⟩ := C
  have hK := hE.1
  have hn3 := hG.1
  have hl : lv_has ls 2 [(0, .int (x)), (1, .int (y))] := hl
  refine lv_iload_n hx hb d_PC_checkRange_0 rfl (lv_at hl 0 rfl) ?_
  refine lv_if_lt (tgt := 9) hx hb d_PC_checkRange_1 (by decide) (fun c_1 => ?_) (fun c_1 => ?_)
  · skip
    exact e_thr hst hx hb hown hts hE hW hml hl.1 hno hlk xt_PC_IllegalArgumentException ks_213 d_PC_checkRange_9 d_PC_checkRange_12 d_PC_checkRange_13 d_PC_checkRange_15 d_PC_checkRange_18 (Nat.le_of_ble_eq_true rfl) (Nat.le_of_ble_eq_true rfl) (Nat.le_of_ble_eq_true rfl) (Nat.le_of_ble_eq_true rfl) (Nat.le_of_ble_eq_true rfl) (Nat.le_of_ble_eq_true rfl) ⟨by unfold rgX; rw [if_pos c_1] <;> rfl, by exact rfl⟩
  · skip
    refine lv_iload_n hx hb d_PC_checkRange_4 rfl (lv_at hl 0 rfl) ?_
    refine lv_iload_n hx hb d_PC_checkRange_5 rfl (lv_at hl 1 rfl) ?_
    refine lv_icmp_lt (tgt := 19) hx hb d_PC_checkRange_6 (by decide) (fun c_2 => ?_) (fun c_2 => ?_)
    · skip
      exact e_xvret hx hb hr hlk hW ⟨by unfold rgX; rw [if_neg c_1, if_pos c_2] <;> rfl, by exact rfl⟩ (Nat.le_of_ble_eq_true rfl) (Nat.le_of_ble_eq_true rfl) d_PC_checkRange_19
    · skip
      exact e_thr hst hx hb hown hts hE hW hml hl.1 hno hlk xt_PC_IllegalArgumentException ks_213 d_PC_checkRange_9 d_PC_checkRange_12 d_PC_checkRange_13 d_PC_checkRange_15 d_PC_checkRange_18 (Nat.le_of_ble_eq_true rfl) (Nat.le_of_ble_eq_true rfl) (Nat.le_of_ble_eq_true rfl) (Nat.le_of_ble_eq_true rfl) (Nat.le_of_ble_eq_true rfl) (Nat.le_of_ble_eq_true rfl) ⟨by unfold rgX; rw [if_neg c_1, if_neg c_2] <;> rfl, by exact rfl⟩
set_option maxHeartbeats 4000000 in
set_option maxRecDepth 100000 in
theorem c_checkBegun (l : Launch) (hst : l.stackTraces = false) (G : GT) (hG : GOK G) (d : DD) (x : Int32) : vx_Met l y_PC_checkBegun (.code y_PC_checkBegun b_PC_checkBegun 2 none :: WS) { frames := 6, cells := 1, slots := 6, locals := 90 } (cPre G [.ref (gad G (0)), .int (x)] d) (cQv G (fun u9 => bgX d x = none ∧ u9 = d)) (cX G (fun E9 u9 => bgX d x = some E9 ∧ u9 = d)) 1 6 (gAb G) := by
  refine c_startX (own := R_PC) (by decide +kernel) rfl (Nat.le_of_ble_eq_true rfl) ?_
  intro p e zs zm below meth zc ls hno C hW hl
  obtain ⟨hx, hb, hr, hml, hown, hts, hlk, hE, hbs⟩ := C
  have hK := hE.1
  have hn3 := hG.1
  have hl : lv_has ls 2 [(0, .ref (gad G (0))), (1, .int (x))] := hl
  refine lv_iload_n hx hb d_PC_checkBegun_0 rfl (lv_at hl 1 rfl) ?_
  refine lv_aload_n hx hb d_PC_checkBegun_1 rfl (lv_at hl 0 rfl) ?_
  refine e_get (v := .int (d (0) (8))) hx hb hts hown hK hW (F_PC G hG) i_PC rfl 8 (by decide) (hts _ kw_318) (fun _ h => h) rfl d_PC_checkBegun_2 ?_
  refine lv_icmp_lt (tgt := 18) hx hb d_PC_checkBegun_5 (by decide) (fun c_1 => ?_) (fun c_1 => ?_)
  · skip
    exact e_xvret hx hb hr hlk hW ⟨by unfold bgX; rw [if_pos c_1] <;> rfl, by exact rfl⟩ (Nat.le_of_ble_eq_true rfl) (Nat.le_of_ble_eq_true rfl) d_PC_checkBegun_18
  · skip
    exact e_thrN hst hx hb hown hts hE hW hml hl.1 hno hlk ⟨rfl, rfl, rfl, rfl⟩ ks_217 d_PC_checkBegun_8 d_PC_checkBegun_11 d_PC_checkBegun_12 d_PC_checkBegun_14 d_PC_checkBegun_17 (Nat.le_of_ble_eq_true rfl) (Nat.le_of_ble_eq_true rfl) (Nat.le_of_ble_eq_true rfl) (Nat.le_of_ble_eq_true rfl) (Nat.le_of_ble_eq_true rfl) (Nat.le_of_ble_eq_true rfl) ⟨by unfold bgX; rw [if_neg c_1] <;> rfl, by exact rfl⟩
set_option maxHeartbeats 4000000 in
set_option maxRecDepth 100000 in
theorem c_checkUp (l : Launch) (hst : l.stackTraces = false) (G : GT) (hG : GOK G) (d : DD) (k w : Nat) (hk : k < 3) : vx_Met l y_PC_checkUp (.code y_PC_checkUp b_PC_checkUp 3 none :: WS) { frames := 6, cells := 1, slots := 6, locals := 90 } (cPre G [.ref (gad G (0)), .int (nI k), .int (nI w)] d) (cQv G (fun u9 => upX d k w = none ∧ u9 = d)) (cX G (fun E9 u9 => upX d k w = some E9 ∧ u9 = d)) 1 6 (gAb G) := by
  refine c_startX (own := R_PC) (by decide +kernel) rfl (Nat.le_of_ble_eq_true rfl) ?_
  intro p e zs zm below meth zc ls hno C hW hl
  obtain ⟨hx, hb, hr, hml, hown, hts, hlk, hE, hbs⟩ := C
  have hK := hE.1
  have hn3 := hG.1
  have hl : lv_has ls 3 [(0, .ref (gad G (0))), (1, .int (nI k)), (2, .int (nI w))] := hl
  refine lv_aload_n hx hb d_PC_checkUp_0 rfl (lv_at hl 0 rfl) ?_
  refine e_get (v := .ref (gad G (4))) hx hb hts hown hK hW (F_PC G hG) i_PC rfl 4 (by decide) (hts _ kw_286) (fun _ h => h) rfl d_PC_checkUp_1 ?_
  refine lv_iload_n hx hb d_PC_checkUp_4 rfl (lv_at hl 1 rfl) ?_
  refine e_iald hx hb hK hW (F_UpS G hG) (j := k) hk (x := d (4) (k)) (rfl) rfl d_PC_checkUp_5 ?_
  refine lv_iload_n hx hb d_PC_checkUp_6 rfl (lv_at hl 2 rfl) ?_
  refine e_ci (e_runS hx hb hml hown hts hE hbs hW (c_has l G hG d w (d (4) (k))) kw_221 kw_142 kw_104 kw_141 rfl rfl hd_PC_has ⟨Nat.le_of_ble_eq_true rfl, Nat.le_of_ble_eq_true rfl⟩ (As := [.int (d (4) (k)), .int (nI w)]) (rest := []) rfl hl.1 rfl (Nat.le_of_ble_eq_true rfl) d_PC_checkUp_7 ⟨Nat.le_of_ble_eq_true rfl, Nat.le_of_ble_eq_true rfl⟩) hW (fun r d' H locs hp hW => ?_)
  obtain ⟨hp1, hp2⟩ := hp
  have hp1 := hp1.symm; subst hp1
  have hp2 := hp2.symm; subst hp2
  refine lv_if_ne (tgt := 23) hx hb d_PC_checkUp_10 (by decide) (fun c_1 => ?_) (fun c_1 => ?_)
  · skip
    exact e_xvret hx hb hr hlk hW ⟨by unfold upX; rw [if_neg c_1] <;> rfl, by exact rfl⟩ (Nat.le_of_ble_eq_true rfl) (Nat.le_of_ble_eq_true rfl) d_PC_checkUp_23
  · skip
    exact e_thr hst hx hb hown hts hE hW hml hl.1 hno hlk xt_PC_IllegalStateException ks_220 d_PC_checkUp_13 d_PC_checkUp_16 d_PC_checkUp_17 d_PC_checkUp_19 d_PC_checkUp_22 (Nat.le_of_ble_eq_true rfl) (Nat.le_of_ble_eq_true rfl) (Nat.le_of_ble_eq_true rfl) (Nat.le_of_ble_eq_true rfl) (Nat.le_of_ble_eq_true rfl) (Nat.le_of_ble_eq_true rfl) ⟨by unfold upX; rw [if_pos c_1] <;> rfl, by exact rfl⟩
set_option maxHeartbeats 4000000 in
set_option maxRecDepth 100000 in
theorem c_checkMessage (l : Launch) (hst : l.stackTraces = false) (G : GT) (hG : GOK G) (d : DD) (x : Int32) : vx_Met l y_PC_checkMessage (.code y_PC_checkMessage b_PC_checkMessage 2 none :: WS) { frames := 6, cells := 1, slots := 6, locals := 90 } (cPre G [.ref (gad G (0)), .int (x)] d) (cQv G (fun u9 => msX d x = none ∧ u9 = d)) (cX G (fun E9 u9 => msX d x = some E9 ∧ u9 = d)) 1 6 (gAb G) := by
  refine c_startX (own := R_PC) (by decide +kernel) rfl (Nat.le_of_ble_eq_true rfl) ?_
  intro p e zs zm below meth zc ls hno C hW hl
  obtain ⟨hx, hb, hr, hml, hown, hts, hlk, hE, hbs⟩ := C
  have hK := hE.1
  have hn3 := hG.1
  have hl : lv_has ls 2 [(0, .ref (gad G (0))), (1, .int (x))] := hl
  refine lv_iload_n hx hb d_PC_checkMessage_0 rfl (lv_at hl 1 rfl) ?_
  refine lv_if_lt (tgt := 15) hx hb d_PC_checkMessage_1 (by decide) (fun c_1 => ?_) (fun c_1 => ?_)
  · skip
    exact e_thr hst hx hb hown hts hE hW hml hl.1 hno hlk xt_PC_IndexOutOfBoundsException ks_224 d_PC_checkMessage_15 d_PC_checkMessage_18 d_PC_checkMessage_19 d_PC_checkMessage_21 d_PC_checkMessage_24 (Nat.le_of_ble_eq_true rfl) (Nat.le_of_ble_eq_true rfl) (Nat.le_of_ble_eq_true rfl) (Nat.le_of_ble_eq_true rfl) (Nat.le_of_ble_eq_true rfl) (Nat.le_of_ble_eq_true rfl) ⟨by unfold msX; rw [if_pos c_1] <;> rfl, by exact rfl⟩
  · skip
    refine lv_iload_n hx hb d_PC_checkMessage_4 rfl (lv_at hl 1 rfl) ?_
    refine lv_aload_n hx hb d_PC_checkMessage_5 rfl (lv_at hl 0 rfl) ?_
    refine e_get (v := .ref (gad G (5))) hx hb hts hown hK hW (F_PC G hG) i_PC rfl 5 (by decide) (hts _ kw_210) (fun _ h => h) rfl d_PC_checkMessage_6 ?_
    refine e_getN (v := .int (d (5) (1))) hx hb hts hown hK hW (F_Net G hG) i_Net rfl 1 (by decide) (nf_9 hE) (fun _ h => h) rfl d_PC_checkMessage_9 ?_
    refine lv_icmp_lt (tgt := 25) hx hb d_PC_checkMessage_12 (by decide) (fun c_2 => ?_) (fun c_2 => ?_)
    · skip
      exact e_xvret hx hb hr hlk hW ⟨by unfold msX; rw [if_neg c_1, if_pos c_2] <;> rfl, by exact rfl⟩ (Nat.le_of_ble_eq_true rfl) (Nat.le_of_ble_eq_true rfl) d_PC_checkMessage_25
    · skip
      exact e_thr hst hx hb hown hts hE hW hml hl.1 hno hlk xt_PC_IndexOutOfBoundsException ks_224 d_PC_checkMessage_15 d_PC_checkMessage_18 d_PC_checkMessage_19 d_PC_checkMessage_21 d_PC_checkMessage_24 (Nat.le_of_ble_eq_true rfl) (Nat.le_of_ble_eq_true rfl) (Nat.le_of_ble_eq_true rfl) (Nat.le_of_ble_eq_true rfl) (Nat.le_of_ble_eq_true rfl) (Nat.le_of_ble_eq_true rfl) ⟨by unfold msX; rw [if_neg c_1, if_neg c_2] <;> rfl, by exact rfl⟩
