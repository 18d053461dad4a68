theorem kw_160 : .code y_Arrays_fill b_Arrays_fill 4 none ∈ WS := List.mem_filter.mpr ⟨List.mem_append_right _ (List.mem_of_getElem? (i := 116) (by decide +kernel)), by decide +kernel⟩
theorem kw_161 : .methodLink R_Msg 37 y_Arrays_fill ∈ WS := List.mem_filter.mpr ⟨List.mem_append_right _ (List.mem_of_getElem? (i := 412) (by decide +kernel)), by decide +kernel⟩
theorem kw_162 : .static y_Arrays_fill ∈ WS := List.mem_filter.mpr ⟨List.mem_append_right _ (List.mem_of_getElem? (i := 115) (by decide +kernel)), by decide +kernel⟩
theorem kw_163 : .methodLink R_Msg 43 arraycopyName ∈ WS := List.mem_filter.mpr ⟨List.mem_append_right _ (List.mem_of_getElem? (i := 421) (by decide +kernel)), by decide +kernel⟩
theorem kw_164 : .fieldLink R_Net 25 "PaxosCommit$Net" "draft" "LPaxosCommit$Message;" ∈ WS := List.mem_filter.mpr ⟨List.mem_append_right _ (List.mem_of_getElem? (i := 92) (by decide +kernel)), by decide +kernel⟩
theorem kw_165 : .code y_Msg_clear b_Msg_clear 3 none ∈ WS := List.mem_filter.mpr ⟨List.mem_append_right _ (List.mem_of_getElem? (i := 411) (by decide +kernel)), by decide +kernel⟩
theorem kw_166 : .methodLink R_Net 32 y_Msg_clear ∈ WS := List.mem_filter.mpr ⟨List.mem_append_right _ (List.mem_of_getElem? (i := 408) (by decide +kernel)), by decide +kernel⟩
theorem kw_167 : .instanceMethod y_Msg_clear ∈ WS := List.mem_filter.mpr ⟨List.mem_append_right _ (List.mem_of_getElem? (i := 409) (by decide +kernel)), by decide +kernel⟩
theorem kw_168 : .selects R_Msg y_Msg_clear y_Msg_clear ∈ WS := List.mem_filter.mpr ⟨List.mem_append_right _ (List.mem_of_getElem? (i := 410) (by decide +kernel)), by decide +kernel⟩
theorem kw_169 : .fieldLink R_Net 17 "PaxosCommit$Net" "size" "I" ∈ WS := List.mem_filter.mpr ⟨List.mem_append_right _ (List.mem_of_getElem? (i := 88) (by decide +kernel)), by decide +kernel⟩
theorem kw_170 : .fieldLink R_Net 11 "PaxosCommit$Net" "row" "[LPaxosCommit$Message;" ∈ WS := List.mem_filter.mpr ⟨List.mem_append_right _ (List.mem_of_getElem? (i := 86) (by decide +kernel)), by decide +kernel⟩
theorem kw_171 : .code y_Msg_copyFrom b_Msg_copyFrom 2 none ∈ WS := List.mem_filter.mpr ⟨List.mem_append_right _ (List.mem_of_getElem? (i := 420) (by decide +kernel)), by decide +kernel⟩
theorem kw_172 : .methodLink R_Net 36 y_Msg_copyFrom ∈ WS := List.mem_filter.mpr ⟨List.mem_append_right _ (List.mem_of_getElem? (i := 417) (by decide +kernel)), by decide +kernel⟩
theorem kw_173 : .instanceMethod y_Msg_copyFrom ∈ WS := List.mem_filter.mpr ⟨List.mem_append_right _ (List.mem_of_getElem? (i := 418) (by decide +kernel)), by decide +kernel⟩
theorem kw_174 : .selects R_Msg y_Msg_copyFrom y_Msg_copyFrom ∈ WS := List.mem_filter.mpr ⟨List.mem_append_right _ (List.mem_of_getElem? (i := 419) (by decide +kernel)), by decide +kernel⟩
theorem kw_175 : .fieldLink R_Net 21 "PaxosCommit$Net" "overflowed" "I" ∈ WS := List.mem_filter.mpr ⟨List.mem_append_right _ (List.mem_of_getElem? (i := 90) (by decide +kernel)), by decide +kernel⟩
theorem kw_176 : .fieldLink R_Net 29 "PaxosCommit$Net" "hand" "LPaxosCommit$Message;" ∈ WS := List.mem_filter.mpr ⟨List.mem_append_right _ (List.mem_of_getElem? (i := 93) (by decide +kernel)), by decide +kernel⟩
theorem hd_Arrays_fill : y_Arrays_fill.cls ≠ "java/lang/invoke/MethodHandle" ∧ y_Arrays_fill.cls ≠ "java/lang/invoke/VarHandle" ∧ (parseMethodDescriptor y_Arrays_fill.desc).map (fun d => d.parameters.length) = some 2 := by decide +kernel
theorem hd_Msg_clear : y_Msg_clear.cls ≠ "java/lang/invoke/MethodHandle" ∧ y_Msg_clear.cls ≠ "java/lang/invoke/VarHandle" ∧ (parseMethodDescriptor y_Msg_clear.desc).map (fun d => d.parameters.length) = some 2 := by decide +kernel
theorem hd_Msg_copyFrom : y_Msg_copyFrom.cls ≠ "java/lang/invoke/MethodHandle" ∧ y_Msg_copyFrom.cls ≠ "java/lang/invoke/VarHandle" ∧ (parseMethodDescriptor y_Msg_copyFrom.desc).map (fun d => d.parameters.length) = some 1 := by decide +kernel
set_option maxHeartbeats 4000000 in
set_option maxRecDepth 100000 in
theorem c_Msg_clear (l : Launch) (G : GT) (hG : GOK G) (d : DD) (j : Nat) (hj : j < 62) (kd t : Int32) : Met l y_Msg_clear (.code y_Msg_clear b_Msg_clear 3 none :: WS) { frames := 1, cells := 0, slots := 0, locals := 23 } (cPre G [.ref (gad G (j + 420)), .int (kd), .int (t)] d) (cQv G (fun u9 => u9 = f_clear d j kd t)) 0 0 (gAb G) := by
  refine c_start (own := R_Msg) (by decide +kernel) rfl (Nat.le_of_ble_eq_true rfl) ?_
  intro p e zs zm below meth zc ls C hW hl
  obtain ⟨hx, hb, hr, hml, hown, hts, hlk, hE, hbs⟩ := C
  have hK := hE.1
  have hn3 := hG.1
  have hl : lv_has ls 3 [(0, .ref (gad G (j + 420))), (1, .int (kd)), (2, .int (t))] := hl
  refine lv_aload_n hx hb d_Msg_clear_0 rfl (lv_at hl 0 rfl) ?_
  refine lv_iload_n hx hb d_Msg_clear_1 rfl (lv_at hl 1 rfl) ?_
  refine e_put hx hb hts hown hK hW (F_Msg (i0 := j) G hG hj) i_Msg t_Msg t_Msg_ok n_Msg rfl 0 (by decide) (hts _ kw_108) (fun _ h => h) rfl (by decide +kernel) (fun _ => rfl) (fun _ => rfl) d_Msg_clear_2 (fun H locs hW => ?_)
  refine lv_aload_n hx hb d_Msg_clear_5 rfl (lv_at hl 0 rfl) ?_
  refine lv_iload_n hx hb d_Msg_clear_6 rfl (lv_at hl 2 rfl) ?_
  refine e_put hx hb hts hown hK hW (F_Msg (i0 := j) G hG hj) i_Msg t_Msg t_Msg_ok n_Msg rfl 1 (by decide) (hts _ kw_113) (fun _ h => h) rfl (by decide +kernel) (fun _ => rfl) (fun _ => rfl) d_Msg_clear_7 (fun H locs hW => ?_)
  refine lv_aload_n hx hb d_Msg_clear_10 rfl (lv_at hl 0 rfl) ?_
  refine lv_iconst (v := -1) hx hb d_Msg_clear_11 (by decide) ?_
  refine e_put hx hb hts hown hK hW (F_Msg (i0 := j) G hG hj) i_Msg t_Msg t_Msg_ok n_Msg rfl 2 (by decide) (hts _ kw_118) (fun _ h => h) rfl (by decide +kernel) (fun _ => rfl) (fun _ => rfl) d_Msg_clear_12 (fun H locs hW => ?_)
  refine lv_aload_n hx hb d_Msg_clear_15 rfl (lv_at hl 0 rfl) ?_
  refine lv_iconst (v := -1) hx hb d_Msg_clear_16 (by decide) ?_
  refine e_put hx hb hts hown hK hW (F_Msg (i0 := j) G hG hj) i_Msg t_Msg t_Msg_ok n_Msg rfl 3 (by decide) (hts _ kw_119) (fun _ h => h) rfl (by decide +kernel) (fun _ => rfl) (fun _ => rfl) d_Msg_clear_17 (fun H locs hW => ?_)
  refine lv_aload_n hx hb d_Msg_clear_20 rfl (lv_at hl 0 rfl) ?_
  refine lv_iconst (v := -1) hx hb d_Msg_clear_21 (by decide) ?_
  refine e_put hx hb hts hown hK hW (F_Msg (i0 := j) G hG hj) i_Msg t_Msg t_Msg_ok n_Msg rfl 4 (by decide) (hts _ kw_120) (fun _ h => h) rfl (by decide +kernel) (fun _ => rfl) (fun _ => rfl) d_Msg_clear_22 (fun H locs hW => ?_)
  refine lv_aload_n hx hb d_Msg_clear_25 rfl (lv_at hl 0 rfl) ?_
  refine lv_iconst (v := -1) hx hb d_Msg_clear_26 (by decide) ?_
  refine e_put hx hb hts hown hK hW (F_Msg (i0 := j) G hG hj) i_Msg t_Msg t_Msg_ok n_Msg rfl 5 (by decide) (hts _ kw_121) (fun _ h => h) rfl (by decide +kernel) (fun _ => rfl) (fun _ => rfl) d_Msg_clear_27 (fun H locs hW => ?_)
  refine lv_aload_n hx hb d_Msg_clear_30 rfl (lv_at hl 0 rfl) ?_
  refine lv_iconst (v := -1) hx hb d_Msg_clear_31 (by decide) ?_
  refine e_put hx hb hts hown hK hW (F_Msg (i0 := j) G hG hj) i_Msg t_Msg t_Msg_ok n_Msg rfl 6 (by decide) (hts _ kw_122) (fun _ h => h) rfl (by decide +kernel) (fun _ => rfl) (fun _ => rfl) d_Msg_clear_32 (fun H locs hW => ?_)
  refine lv_aload_n hx hb d_Msg_clear_35 rfl (lv_at hl 0 rfl) ?_
  refine e_get (v := .ref (gad G (j + 490))) hx hb hts hown hK hW (F_Msg (i0 := j) G hG hj) i_Msg rfl 7 (by decide) (hts _ kw_123) (fun _ h => h) rfl d_Msg_clear_36 ?_
  refine lv_iconst (v := -1) hx hb d_Msg_clear_39 (by decide) ?_
  refine e_cv (e_runS hx hb hml hown hts hE hbs hW (c_fill l G hG (up2 (up2 (up2 (up2 (up2 (up2 (up2 d (j + 420) (0) (kd)) (j + 420) (1) (t)) (j + 420) (2) (-1)) (j + 420) (3) (-1)) (j + 420) (4) (-1)) (j + 420) (5) (-1)) (j + 420) (6) (-1)) (j + 490) (3) (-1) (F_Rep (i0 := j) G hG hj)) kw_161 kw_162 kw_26 kw_160 rfl rfl hd_Arrays_fill ⟨Nat.le_of_ble_eq_true rfl, Nat.le_of_ble_eq_true rfl⟩ (As := [.ref (gad G (j + 490)), .int (-1)]) (rest := []) rfl hl.1 rfl (Nat.le_of_ble_eq_true rfl) d_Msg_clear_40 ⟨Nat.le_of_ble_eq_true rfl, Nat.le_of_ble_eq_true rfl⟩) hW (fun d' H locs hp hW => ?_)
  have hp := hp.symm; subst hp
  exact e_vret hx hb hr hlk hW (by exact rfl) (Nat.zero_le _) (Nat.zero_le _) d_Msg_clear_43
set_option maxHeartbeats 4000000 in
set_option maxRecDepth 100000 in
theorem c_Msg_copyFrom (l : Launch) (G : GT) (hG : GOK G) (d : DD) (mb ma : Nat) (hmb : mb < 62) (hma : ma < 62) (hab : ma ≠ mb) : Met l y_Msg_copyFrom (.code y_Msg_copyFrom b_Msg_copyFrom 2 none :: WS) { frames := 1, cells := 0, slots := 0, locals := 40 } (cPre G [.ref (gad G (mb + 420)), .ref (gad G (ma + 420))] d) (cQv G (fun u9 => u9 = f_copy d ma mb)) 0 0 (gAb G) := by
  refine c_start (own := R_Msg) (by decide +kernel) rfl (Nat.le_of_ble_eq_true rfl) ?_
  intro p e zs zm below meth zc ls C hW hl
  obtain ⟨hx, hb, hr, hml, hown, hts, hlk, hE, hbs⟩ := C
  have hK := hE.1
  have hn3 := hG.1
  have hl : lv_has ls 2 [(0, .ref (gad G (mb + 420))), (1, .ref (gad G (ma + 420)))] := hl
  refine lv_aload_n hx hb d_Msg_copyFrom_0 rfl (lv_at hl 0 rfl) ?_
  refine lv_aload_n hx hb d_Msg_copyFrom_1 rfl (lv_at hl 1 rfl) ?_
  refine e_get (v := .int (d (ma + 420) (0))) hx hb hts hown hK hW (F_Msg (i0 := ma) G hG hma) i_Msg rfl 0 (by decide) (hts _ kw_108) (fun _ h => h) rfl d_Msg_copyFrom_2 ?_
  refine e_put hx hb hts hown hK hW (F_Msg (i0 := mb) G hG hmb) i_Msg t_Msg t_Msg_ok n_Msg rfl 0 (by decide) (hts _ kw_108) (fun _ h => h) rfl (by decide +kernel) (fun _ => rfl) (fun _ => rfl) d_Msg_copyFrom_5 (fun H locs hW => ?_)
  refine lv_aload_n hx hb d_Msg_copyFrom_8 rfl (lv_at hl 0 rfl) ?_
  refine lv_aload_n hx hb d_Msg_copyFrom_9 rfl (lv_at hl 1 rfl) ?_
  refine e_get (v := .int ((up2 d (mb + 420) (0) (d (ma + 420) (0))) (ma + 420) (1))) hx hb hts hown hK hW (F_Msg (i0 := ma) G hG hma) i_Msg rfl 1 (by decide) (hts _ kw_113) (fun _ h => h) rfl d_Msg_copyFrom_10 ?_
  refine e_top (v := d (ma + 420) (1)) ((up2_nc (by omega)).trans (rfl)) ?_
  refine e_put hx hb hts hown hK hW (F_Msg (i0 := mb) G hG hmb) i_Msg t_Msg t_Msg_ok n_Msg rfl 1 (by decide) (hts _ kw_113) (fun _ h => h) rfl (by decide +kernel) (fun _ => rfl) (fun _ => rfl) d_Msg_copyFrom_13 (fun H locs hW => ?_)
  refine lv_aload_n hx hb d_Msg_copyFrom_16 rfl (lv_at hl 0 rfl) ?_
  refine lv_aload_n hx hb d_Msg_copyFrom_17 rfl (lv_at hl 1 rfl) ?_
  refine e_get (v := .int ((up2 (up2 d (mb + 420) (0) (d (ma + 420) (0))) (mb + 420) (1) (d (ma + 420) (1))) (ma + 420) (2))) hx hb hts hown hK hW (F_Msg (i0 := ma) G hG hma) i_Msg rfl 2 (by decide) (hts _ kw_118) (fun _ h => h) rfl d_Msg_copyFrom_18 ?_
  refine e_top (v := d (ma + 420) (2)) ((up2_nc (by omega)).trans ((up2_nc (by omega)).trans (rfl))) ?_
  refine e_put hx hb hts hown hK hW (F_Msg (i0 := mb) G hG hmb) i_Msg t_Msg t_Msg_ok n_Msg rfl 2 (by decide) (hts _ kw_118) (fun _ h => h) rfl (by decide +kernel) (fun _ => rfl) (fun _ => rfl) d_Msg_copyFrom_21 (fun H locs hW => ?_)
  refine lv_aload_n hx hb d_Msg_copyFrom_24 rfl (lv_at hl 0 rfl) ?_
  refine lv_aload_n hx hb d_Msg_copyFrom_25 rfl (lv_at hl 1 rfl) ?_
  refine e_get (v := .int ((up2 (up2 (up2 d (mb + 420) (0) (d (ma + 420) (0))) (mb + 420) (1) (d (ma + 420) (1))) (mb + 420) (2) (d (ma + 420) (2))) (ma + 420) (3))) hx hb hts hown hK hW (F_Msg (i0 := ma) G hG hma) i_Msg rfl 3 (by decide) (hts _ kw_119) (fun _ h => h) rfl d_Msg_copyFrom_26 ?_
  refine e_top (v := d (ma + 420) (3)) ((up2_nc (by omega)).trans ((up2_nc (by omega)).trans ((up2_nc (by omega)).trans (rfl)))) ?_
  refine e_put hx hb hts hown hK hW (F_Msg (i0 := mb) G hG hmb) i_Msg t_Msg t_Msg_ok n_Msg rfl 3 (by decide) (hts _ kw_119) (fun _ h => h) rfl (by decide +kernel) (fun _ => rfl) (fun _ => rfl) d_Msg_copyFrom_29 (fun H locs hW => ?_)
  refine lv_aload_n hx hb d_Msg_copyFrom_32 rfl (lv_at hl 0 rfl) ?_
  refine lv_aload_n hx hb d_Msg_copyFrom_33 rfl (lv_at hl 1 rfl) ?_
  refine e_get (v := .int ((up2 (up2 (up2 (up2 d (mb + 420) (0) (d (ma + 420) (0))) (mb + 420) (1) (d (ma + 420) (1))) (mb + 420) (2) (d (ma + 420) (2))) (mb + 420) (3) (d (ma + 420) (3))) (ma + 420) (4))) hx hb hts hown hK hW (F_Msg (i0 := ma) G hG hma) i_Msg rfl 4 (by decide) (hts _ kw_120) (fun _ h => h) rfl d_Msg_copyFrom_34 ?_
  refine e_top (v := d (ma + 420) (4)) ((up2_nc (by omega)).trans ((up2_nc (by omega)).trans ((up2_nc (by omega)).trans ((up2_nc (by omega)).trans (rfl))))) ?_
  refine e_put hx hb hts hown hK hW (F_Msg (i0 := mb) G hG hmb) i_Msg t_Msg t_Msg_ok n_Msg rfl 4 (by decide) (hts _ kw_120) (fun _ h => h) rfl (by decide +kernel) (fun _ => rfl) (fun _ => rfl) d_Msg_copyFrom_37 (fun H locs hW => ?_)
  refine lv_aload_n hx hb d_Msg_copyFrom_40 rfl (lv_at hl 0 rfl) ?_
  refine lv_aload_n hx hb d_Msg_copyFrom_41 rfl (lv_at hl 1 rfl) ?_
  refine e_get (v := .int ((up2 (up2 (up2 (up2 (up2 d (mb + 420) (0) (d (ma + 420) (0))) (mb + 420) (1) (d (ma + 420) (1))) (mb + 420) (2) (d (ma + 420) (2))) (mb + 420) (3) (d (ma + 420) (3))) (mb + 420) (4) (d (ma + 420) (4))) (ma + 420) (5))) hx hb hts hown hK hW (F_Msg (i0 := ma) G hG hma) i_Msg rfl 5 (by decide) (hts _ kw_121) (fun _ h => h) rfl d_Msg_copyFrom_42 ?_
  refine e_top (v := d (ma + 420) (5)) ((up2_nc (by omega)).trans ((up2_nc (by omega)).trans ((up2_nc (by omega)).trans ((up2_nc (by omega)).trans ((up2_nc (by omega)).trans (rfl)))))) ?_
  refine e_put hx hb hts hown hK hW (F_Msg (i0 := mb) G hG hmb) i_Msg t_Msg t_Msg_ok n_Msg rfl 5 (by decide) (hts _ kw_121) (fun _ h => h) rfl (by decide +kernel) (fun _ => rfl) (fun _ => rfl) d_Msg_copyFrom_45 (fun H locs hW => ?_)
  refine lv_aload_n hx hb d_Msg_copyFrom_48 rfl (lv_at hl 0 rfl) ?_
  refine lv_aload_n hx hb d_Msg_copyFrom_49 rfl (lv_at hl 1 rfl) ?_
  refine e_get (v := .int ((up2 (up2 (up2 (up2 (up2 (up2 d (mb + 420) (0) (d (ma + 420) (0))) (mb + 420) (1) (d (ma + 420) (1))) (mb + 420) (2) (d (ma + 420) (2))) (mb + 420) (3) (d (ma + 420) (3))) (mb + 420) (4) (d (ma + 420) (4))) (mb + 420) (5) (d (ma + 420) (5))) (ma + 420) (6))) hx hb hts hown hK hW (F_Msg (i0 := ma) G hG hma) i_Msg rfl 6 (by decide) (hts _ kw_122) (fun _ h => h) rfl d_Msg_copyFrom_50 ?_
  refine e_top (v := d (ma + 420) (6)) ((up2_nc (by omega)).trans ((up2_nc (by omega)).trans ((up2_nc (by omega)).trans ((up2_nc (by omega)).trans ((up2_nc (by omega)).trans ((up2_nc (by omega)).trans (rfl))))))) ?_
  refine e_put hx hb hts hown hK hW (F_Msg (i0 := mb) G hG hmb) i_Msg t_Msg t_Msg_ok n_Msg rfl 6 (by decide) (hts _ kw_122) (fun _ h => h) rfl (by decide +kernel) (fun _ => rfl) (fun _ => rfl) d_Msg_copyFrom_53 (fun H locs hW => ?_)
  refine lv_aload_n hx hb d_Msg_copyFrom_56 rfl (lv_at hl 1 rfl) ?_
  refine e_get (v := .ref (gad G (ma + 490))) hx hb hts hown hK hW (F_Msg (i0 := ma) G hG hma) i_Msg rfl 7 (by decide) (hts _ kw_123) (fun _ h => h) rfl d_Msg_copyFrom_57 ?_
  refine lv_iconst (v := 0) hx hb d_Msg_copyFrom_60 (by decide) ?_
  refine lv_aload_n hx hb d_Msg_copyFrom_61 rfl (lv_at hl 0 rfl) ?_
  refine e_get (v := .ref (gad G (mb + 490))) hx hb hts hown hK hW (F_Msg (i0 := mb) G hG hmb) i_Msg rfl 7 (by decide) (hts _ kw_123) (fun _ h => h) rfl d_Msg_copyFrom_62 ?_
  refine lv_iconst (v := 0) hx hb d_Msg_copyFrom_65 (by decide) ?_
  refine lv_iconst (v := 3) hx hb d_Msg_copyFrom_66 (by decide) ?_
  refine e_cp (rest := []) hx hb (by rw [hml]; exact hl.1.symm) hown hts kw_163 kw_18 kw_19 kw_20 hK hW (F_Rep (i0 := ma) G hG hma) (F_Rep (i0 := mb) G hG hmb) (n := 3) (by decide) (by decide) rfl (Nat.le_of_ble_eq_true rfl) (by decide) d_Msg_copyFrom_67 (fun H locs hW => ?_)
  exact e_vret hx hb hr hlk hW (by exact rfl) (Nat.zero_le _) (Nat.zero_le _) d_Msg_copyFrom_70
set_option maxHeartbeats 4000000 in
set_option maxRecDepth 100000 in
theorem c_Net_compose (l : Launch) (G : GT) (hG : GOK G) (d : DD) (kd t : Int32) : Met l y_Net_compose (.code y_Net_compose b_Net_compose 3 (some (.object "PaxosCommit$Message")) :: WS) { frames := 2, cells := 0, slots := 0, locals := 45 } (cPre G [.ref (gad G (5)), .int (kd), .int (t)] d) (cQr G (fun cq u => cq = 480 ∧ u = f_clear d 60 kd t)) 0 0 (gAb G) := by
  refine c_start (own := R_Net) (by decide +kernel) rfl (Nat.le_of_ble_eq_true rfl) ?_
  intro p e zs zm below meth zc ls C hW hl
  obtain ⟨hx, hb, hr, hml, hown, hts, hlk, hE, hbs⟩ := C
  have hK := hE.1
  have hn3 := hG.1
  have hl : lv_has ls 3 [(0, .ref (gad G (5))), (1, .int (kd)), (2, .int (t))] := hl
  refine lv_aload_n hx hb d_Net_compose_0 rfl (lv_at hl 0 rfl) ?_
  refine e_get (v := .ref (gad G (60 + 420))) hx hb hts hown hK hW (F_Net G hG) i_Net rfl 3 (by decide) (hts _ kw_164) (fun _ h => h) rfl d_Net_compose_1 ?_
  refine lv_iload_n hx hb d_Net_compose_4 rfl (lv_at hl 1 rfl) ?_
  refine lv_iload_n hx hb d_Net_compose_5 rfl (lv_at hl 2 rfl) ?_
  refine e_cv (e_runV hx hb hml hown hts hE hbs hW (F_Msg (i0 := 60) G hG (by decide)) rfl (c_Msg_clear l G hG d 60 (by decide) (kd) (t)) kw_166 kw_167 kw_168 kw_115 kw_165 rfl rfl hd_Msg_clear ⟨Nat.le_of_ble_eq_true rfl, Nat.le_of_ble_eq_true rfl⟩ (As := [.int (kd), .int (t)]) (rest := []) rfl hl.1 rfl (Nat.le_of_ble_eq_true rfl) d_Net_compose_6 ⟨Nat.le_of_ble_eq_true rfl, Nat.le_of_ble_eq_true rfl⟩) hW (fun d' H locs hp hW => ?_)
  have hp := hp.symm; subst hp
  refine lv_aload_n hx hb d_Net_compose_9 rfl (lv_at hl 0 rfl) ?_
  refine e_get (v := .ref (gad G (60 + 420))) hx hb hts hown hK hW (F_Net G hG) i_Net rfl 3 (by decide) (hts _ kw_164) (fun _ h => h) rfl d_Net_compose_10 ?_
  exact e_aret hx hb hr hlk hW ⟨by exact rfl, by exact rfl⟩ (Nat.zero_le _) (Nat.zero_le _) d_Net_compose_13
set_option maxHeartbeats 4000000 in
set_option maxRecDepth 100000 in
theorem c_Net_sendLt (l : Launch) (G : GT) (hG : GOK G) (d : DD) (z q : Nat) (hz : z < 60) (hq : q < 60) (fz : d 5 1 = nI z) (fq : d 8 z = nI q) : Met l y_Net_send (.code y_Net_send b_Net_send 2 none :: WS) { frames := 2, cells := 0, slots := 0, locals := 61 } (cPre G [.ref (gad G (5)), .ref (gad G (60 + 420))] d) (cQv G (fun u9 => u9 = up2 (f_copy d 60 q) 5 1 (nI (z + 1)))) 0 0 (gAb G) := by
  refine c_start (own := R_Net) (by decide +kernel) rfl (Nat.le_of_ble_eq_true rfl) ?_
  intro p e zs zm below meth zc ls C hW hl
  obtain ⟨hx, hb, hr, hml, hown, hts, hlk, hE, hbs⟩ := C
  have hK := hE.1
  have hn3 := hG.1
  have hl : lv_has ls 2 [(0, .ref (gad G (5))), (1, .ref (gad G (60 + 420)))] := hl
  refine lv_aload_n hx hb d_Net_send_0 rfl (lv_at hl 0 rfl) ?_
  refine e_get (v := .int (d (5) (1))) hx hb hts hown hK hW (F_Net G hG) i_Net rfl 1 (by decide) (hts _ kw_169) (fun _ h => h) rfl d_Net_send_1 ?_
  refine e_top (v := nI z) (fz) ?_
  refine lv_bipush (v := 60) hx hb d_Net_send_4 (by decide) ?_
  refine lv_icmp_lt (tgt := 20) hx hb d_Net_send_6 (by decide) (fun c_1 => ?_) (fun c_1 => ?_)
  · skip
    refine lv_aload_n hx hb d_Net_send_20 rfl (lv_at hl 0 rfl) ?_
    refine e_get (v := .ref (gad G (8))) hx hb hts hown hK hW (F_Net G hG) i_Net rfl 0 (by decide) (hts _ kw_170) (fun _ h => h) rfl d_Net_send_21 ?_
    refine lv_aload_n hx hb d_Net_send_24 rfl (lv_at hl 0 rfl) ?_
    refine e_get (v := .int (d (5) (1))) hx hb hts hown hK hW (F_Net G hG) i_Net rfl 1 (by decide) (hts _ kw_169) (fun _ h => h) rfl d_Net_send_25 ?_
    refine e_top (v := nI z) (fz) ?_
    refine e_aldq hx hb hK hW (F_Row G hG) (j := z) hz (q := q + 420) (rw_at (fq) (by omega)) rfl d_Net_send_28 ?_
    refine lv_aload_n hx hb d_Net_send_29 rfl (lv_at hl 1 rfl) ?_
    refine e_cv (e_runV hx hb hml hown hts hE hbs hW (F_Msg (i0 := q) G hG (by omega)) rfl (c_Msg_copyFrom l G hG d q 60 (by omega) (by decide) (by first | assumption | omega)) kw_172 kw_173 kw_174 kw_115 kw_171 rfl rfl hd_Msg_copyFrom ⟨Nat.le_of_ble_eq_true rfl, Nat.le_of_ble_eq_true rfl⟩ (As := [.ref (gad G (60 + 420))]) (rest := []) rfl hl.1 rfl (Nat.le_of_ble_eq_true rfl) d_Net_send_30 ⟨Nat.le_of_ble_eq_true rfl, Nat.le_of_ble_eq_true rfl⟩) hW (fun d' H locs hp hW => ?_)
    have hp := hp.symm; subst hp
    refine lv_aload_n hx hb d_Net_send_33 rfl (lv_at hl 0 rfl) ?_
    refine lv_dup hx hb d_Net_send_34 rfl ?_
    refine e_get (v := .int ((f_copy d 60 q) (5) (1))) hx hb hts hown hK hW (F_Net G hG) i_Net rfl 1 (by decide) (hts _ kw_169) (fun _ h => h) rfl d_Net_send_35 ?_
    refine e_top (v := nI z) (((congrFun (f_copy_off (by omega) (by omega)) _).trans (fz))) ?_
    refine lv_iconst (v := 1) hx hb d_Net_send_38 (by decide) ?_
    refine lv_iadd hx hb d_Net_send_39 ?_
    refine e_top (v := nI (z + 1)) (nI_add (z) (1)) ?_
    refine e_put hx hb hts hown hK hW (F_Net G hG) i_Net t_Net t_Net_ok n_Net rfl 1 (by decide) (hts _ kw_169) (fun _ h => h) rfl (by decide +kernel) (fun _ => rfl) (fun _ => rfl) d_Net_send_40 (fun H locs hW => ?_)
    exact e_vret hx hb hr hlk hW (by exact rfl) (Nat.zero_le _) (Nat.zero_le _) d_Net_send_43
  · skip
    exact absurd (nI_lt hz (by decide)) c_1
set_option maxHeartbeats 4000000 in
set_option maxRecDepth 100000 in
theorem c_Net_sendFull (l : Launch) (G : GT) (hG : GOK G) (d : DD) (fz : d 5 1 = nI 60) : Met l y_Net_send (.code y_Net_send b_Net_send 2 none :: WS) { frames := 2, cells := 0, slots := 0, locals := 61 } (cPre G [.ref (gad G (5)), .ref (gad G (60 + 420))] d) (cQv G (fun u9 => u9 = up2 d 5 2 (d 5 2 + 1))) 0 0 (gAb G) := by
  refine c_start (own := R_Net) (by decide +kernel) rfl (Nat.le_of_ble_eq_true rfl) ?_
  intro p e zs zm below meth zc ls C hW hl
  obtain ⟨hx, hb, hr, hml, hown, hts, hlk, hE, hbs⟩ := C
  have hK := hE.1
  have hn3 := hG.1
  have hl : lv_has ls 2 [(0, .ref (gad G (5))), (1, .ref (gad G (60 + 420)))] := hl
  refine lv_aload_n hx hb d_Net_send_0 rfl (lv_at hl 0 rfl) ?_
  refine e_get (v := .int (d (5) (1))) hx hb hts hown hK hW (F_Net G hG) i_Net rfl 1 (by decide) (hts _ kw_169) (fun _ h => h) rfl d_Net_send_1 ?_
  refine e_top (v := nI 60) (fz) ?_
  refine lv_bipush (v := 60) hx hb d_Net_send_4 (by decide) ?_
  refine lv_icmp_lt (tgt := 20) hx hb d_Net_send_6 (by decide) (fun c_1 => ?_) (fun c_1 => ?_)
  · skip
    exact absurd c_1 (by decide)
  · skip
    refine lv_aload_n hx hb d_Net_send_9 rfl (lv_at hl 0 rfl) ?_
    refine lv_dup hx hb d_Net_send_10 rfl ?_
    refine e_get (v := .int (d (5) (2))) hx hb hts hown hK hW (F_Net G hG) i_Net rfl 2 (by decide) (hts _ kw_175) (fun _ h => h) rfl d_Net_send_11 ?_
    refine lv_iconst (v := 1) hx hb d_Net_send_14 (by decide) ?_
    refine lv_iadd hx hb d_Net_send_15 ?_
    refine e_put hx hb hts hown hK hW (F_Net G hG) i_Net t_Net t_Net_ok n_Net rfl 2 (by decide) (hts _ kw_175) (fun _ h => h) rfl (by decide +kernel) (fun _ => rfl) (fun _ => rfl) d_Net_send_16 (fun H locs hW => ?_)
    exact e_vret hx hb hr hlk hW (by exact rfl) (Nat.zero_le _) (Nat.zero_le _) d_Net_send_19
theorem c_Net_send (l : Launch) (G : GT) (hG : GOK G) (d : DD) (hN : NetOK d) : Met l y_Net_send (.code y_Net_send b_Net_send 2 none :: WS) { frames := 2, cells := 0, slots := 0, locals := 61 } (cPre G [.ref (gad G (5)), .ref (gad G (60 + 420))] d) (cQv G (fun u9 => u9 = f_send d)) 0 0 (gAb G) := by
  obtain ⟨⟨z, hz, fz⟩, hr, -⟩ := hN
  rcases Nat.lt_or_ge z 60 with h | h
  · obtain ⟨q, hq, fq⟩ := hr z h
    rw [f_send_lt h hq fz fq]
    exact c_Net_sendLt l G hG d z q h hq fz fq
  · have e : z = 60 := by omega
    subst e
    rw [f_send_full fz]
    exact c_Net_sendFull l G hG d fz
set_option maxHeartbeats 4000000 in
set_option maxRecDepth 100000 in
theorem c_Net_pick (l : Launch) (G : GT) (hG : GOK G) (d : DD) (i q : Nat) (hi : i < 60) (hq : q < 60) (fq : d 8 i = nI q) : Met l y_Net_pick (.code y_Net_pick b_Net_pick 2 (some (.object "PaxosCommit$Message")) :: WS) { frames := 2, cells := 0, slots := 0, locals := 61 } (cPre G [.ref (gad G (5)), .int (nI i)] d) (cQr G (fun cq u => cq = 481 ∧ u = f_copy d q 61)) 0 0 (gAb G) := by
  refine c_start (own := R_Net) (by decide +kernel) rfl (Nat.le_of_ble_eq_true rfl) ?_
  intro p e zs zm below meth zc ls C hW hl
  obtain ⟨hx, hb, hr, hml, hown, hts, hlk, hE, hbs⟩ := C
  have hK := hE.1
  have hn3 := hG.1
  have hl : lv_has ls 2 [(0, .ref (gad G (5))), (1, .int (nI i))] := hl
  refine lv_aload_n hx hb d_Net_pick_0 rfl (lv_at hl 0 rfl) ?_
  refine e_get (v := .ref (gad G (61 + 420))) hx hb hts hown hK hW (F_Net G hG) i_Net rfl 4 (by decide) (hts _ kw_176) (fun _ h => h) rfl d_Net_pick_1 ?_
  refine lv_aload_n hx hb d_Net_pick_4 rfl (lv_at hl 0 rfl) ?_
  refine e_get (v := .ref (gad G (8))) hx hb hts hown hK hW (F_Net G hG) i_Net rfl 0 (by decide) (hts _ kw_170) (fun _ h => h) rfl d_Net_pick_5 ?_
  refine lv_iload_n hx hb d_Net_pick_8 rfl (lv_at hl 1 rfl) ?_
  refine e_aldq hx hb hK hW (F_Row G hG) (j := i) hi (q := q + 420) (rw_at (fq) (by omega)) rfl d_Net_pick_9 ?_
  refine e_cv (e_runV hx hb hml hown hts hE hbs hW (F_Msg (i0 := 61) G hG (by decide)) rfl (c_Msg_copyFrom l G hG d 61 q (by decide) (by omega) (by first | assumption | omega)) kw_172 kw_173 kw_174 kw_115 kw_171 rfl rfl hd_Msg_copyFrom ⟨Nat.le_of_ble_eq_true rfl, Nat.le_of_ble_eq_true rfl⟩ (As := [.ref (gad G (q + 420))]) (rest := []) rfl hl.1 rfl (Nat.le_of_ble_eq_true rfl) d_Net_pick_10 ⟨Nat.le_of_ble_eq_true rfl, Nat.le_of_ble_eq_true rfl⟩) hW (fun d' H locs hp hW => ?_)
  have hp := hp.symm; subst hp
  refine lv_aload_n hx hb d_Net_pick_13 rfl (lv_at hl 0 rfl) ?_
  refine e_get (v := .ref (gad G (61 + 420))) hx hb hts hown hK hW (F_Net G hG) i_Net rfl 4 (by decide) (hts _ kw_176) (fun _ h => h) rfl d_Net_pick_14 ?_
  exact e_aret hx hb hr hlk hW ⟨by exact rfl, by exact rfl⟩ (Nat.zero_le _) (Nat.zero_le _) d_Net_pick_17
