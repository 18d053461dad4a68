theorem kw_359 : .code y_PC_checkMessage b_PC_checkMessage 2 none ∈ WS := List.mem_filter.mpr ⟨List.mem_append_right _ (List.mem_of_getElem? (i := 483) (by decide +kernel)), by decide +kernel⟩
theorem kw_360 : .methodLink R_PC 140 y_PC_checkMessage ∈ WS := List.mem_filter.mpr ⟨List.mem_append_right _ (List.mem_of_getElem? (i := 480) (by decide +kernel)), by decide +kernel⟩
theorem kw_361 : .instanceMethod y_PC_checkMessage ∈ WS := List.mem_filter.mpr ⟨List.mem_append_right _ (List.mem_of_getElem? (i := 482) (by decide +kernel)), by decide +kernel⟩
theorem kw_362 : .selects R_PC y_PC_checkMessage y_PC_checkMessage ∈ WS := List.mem_filter.mpr ⟨List.mem_append_left _ (List.mem_of_getElem? (i := 7) (by decide +kernel)), by decide +kernel⟩
theorem kw_363 : .code y_Net_remove b_Net_remove 4 none ∈ WS := List.mem_filter.mpr ⟨List.mem_append_right _ (List.mem_of_getElem? (i := 507) (by decide +kernel)), by decide +kernel⟩
theorem kw_364 : .methodLink R_PC 147 y_Net_remove ∈ WS := List.mem_filter.mpr ⟨List.mem_append_right _ (List.mem_of_getElem? (i := 504) (by decide +kernel)), by decide +kernel⟩
theorem kw_365 : .instanceMethod y_Net_remove ∈ WS := List.mem_filter.mpr ⟨List.mem_append_right _ (List.mem_of_getElem? (i := 505) (by decide +kernel)), by decide +kernel⟩
theorem kw_366 : .selects R_Net y_Net_remove y_Net_remove ∈ WS := List.mem_filter.mpr ⟨List.mem_append_right _ (List.mem_of_getElem? (i := 506) (by decide +kernel)), by decide +kernel⟩
theorem kw_367 : .code y_Net_pick b_Net_pick 2 (some (.object "PaxosCommit$Message")) ∈ WS := List.mem_filter.mpr ⟨List.mem_append_right _ (List.mem_of_getElem? (i := 503) (by decide +kernel)), by decide +kernel⟩
theorem kw_368 : .methodLink R_PC 143 y_Net_pick ∈ WS := List.mem_filter.mpr ⟨List.mem_append_right _ (List.mem_of_getElem? (i := 500) (by decide +kernel)), by decide +kernel⟩
theorem kw_369 : .instanceMethod y_Net_pick ∈ WS := List.mem_filter.mpr ⟨List.mem_append_right _ (List.mem_of_getElem? (i := 501) (by decide +kernel)), by decide +kernel⟩
theorem kw_370 : .selects R_Net y_Net_pick y_Net_pick ∈ WS := List.mem_filter.mpr ⟨List.mem_append_right _ (List.mem_of_getElem? (i := 502) (by decide +kernel)), by decide +kernel⟩
theorem kw_371 : .code y_PC_arrive b_PC_arrive 2 none ∈ WS := List.mem_filter.mpr ⟨List.mem_append_right _ (List.mem_of_getElem? (i := 511) (by decide +kernel)), by decide +kernel⟩
theorem kw_372 : .methodLink R_PC 150 y_PC_arrive ∈ WS := List.mem_filter.mpr ⟨List.mem_append_right _ (List.mem_of_getElem? (i := 508) (by decide +kernel)), by decide +kernel⟩
theorem kw_373 : .instanceMethod y_PC_arrive ∈ WS := List.mem_filter.mpr ⟨List.mem_append_right _ (List.mem_of_getElem? (i := 510) (by decide +kernel)), by decide +kernel⟩
theorem kw_374 : .selects R_PC y_PC_arrive y_PC_arrive ∈ WS := List.mem_filter.mpr ⟨List.mem_append_left _ (List.mem_of_getElem? (i := 8) (by decide +kernel)), by decide +kernel⟩
theorem kw_375 : .code y_PC_howMany b_PC_howMany 2 (some .int) ∈ WS := List.mem_filter.mpr ⟨List.mem_append_right _ (List.mem_of_getElem? (i := 628) (by decide +kernel)), by decide +kernel⟩
theorem kw_376 : .methodLink R_PC 157 y_PC_howMany ∈ WS := List.mem_filter.mpr ⟨List.mem_append_right _ (List.mem_of_getElem? (i := 625) (by decide +kernel)), by decide +kernel⟩
theorem kw_377 : .instanceMethod y_PC_howMany ∈ WS := List.mem_filter.mpr ⟨List.mem_append_right _ (List.mem_of_getElem? (i := 627) (by decide +kernel)), by decide +kernel⟩
theorem kw_378 : .selects R_PC y_PC_howMany y_PC_howMany ∈ WS := List.mem_filter.mpr ⟨List.mem_append_left _ (List.mem_of_getElem? (i := 18) (by decide +kernel)), by decide +kernel⟩
theorem kw_379 : .code y_PC_without b_PC_without 2 (some .int) ∈ WS := List.mem_filter.mpr ⟨List.mem_append_right _ (List.mem_of_getElem? (i := 631) (by decide +kernel)), by decide +kernel⟩
theorem kw_380 : .methodLink R_PC 160 y_PC_without ∈ WS := List.mem_filter.mpr ⟨List.mem_append_right _ (List.mem_of_getElem? (i := 629) (by decide +kernel)), by decide +kernel⟩
theorem kw_381 : .static y_PC_without ∈ WS := List.mem_filter.mpr ⟨List.mem_append_right _ (List.mem_of_getElem? (i := 630) (by decide +kernel)), by decide +kernel⟩
theorem kw_382 : .code y_PC_stop b_PC_stop 4 none ∈ WS := List.mem_filter.mpr ⟨List.mem_append_right _ (List.mem_of_getElem? (i := 635) (by decide +kernel)), by decide +kernel⟩
theorem kw_383 : .methodLink R_PC 163 y_PC_stop ∈ WS := List.mem_filter.mpr ⟨List.mem_append_right _ (List.mem_of_getElem? (i := 632) (by decide +kernel)), by decide +kernel⟩
theorem kw_384 : .instanceMethod y_PC_stop ∈ WS := List.mem_filter.mpr ⟨List.mem_append_right _ (List.mem_of_getElem? (i := 634) (by decide +kernel)), by decide +kernel⟩
theorem kw_385 : .selects R_PC y_PC_stop y_PC_stop ∈ WS := List.mem_filter.mpr ⟨List.mem_append_left _ (List.mem_of_getElem? (i := 19) (by decide +kernel)), by decide +kernel⟩
theorem hd_PC_checkMessage : y_PC_checkMessage.cls ≠ "java/lang/invoke/MethodHandle" ∧ y_PC_checkMessage.cls ≠ "java/lang/invoke/VarHandle" ∧ (parseMethodDescriptor y_PC_checkMessage.desc).map (fun d => d.parameters.length) = some 1 := by decide +kernel
theorem hd_Net_remove : y_Net_remove.cls ≠ "java/lang/invoke/MethodHandle" ∧ y_Net_remove.cls ≠ "java/lang/invoke/VarHandle" ∧ (parseMethodDescriptor y_Net_remove.desc).map (fun d => d.parameters.length) = some 1 := by decide +kernel
theorem hd_Net_pick : y_Net_pick.cls ≠ "java/lang/invoke/MethodHandle" ∧ y_Net_pick.cls ≠ "java/lang/invoke/VarHandle" ∧ (parseMethodDescriptor y_Net_pick.desc).map (fun d => d.parameters.length) = some 1 := by decide +kernel
theorem hd_PC_arrive : y_PC_arrive.cls ≠ "java/lang/invoke/MethodHandle" ∧ y_PC_arrive.cls ≠ "java/lang/invoke/VarHandle" ∧ (parseMethodDescriptor y_PC_arrive.desc).map (fun d => d.parameters.length) = some 1 := by decide +kernel
theorem hd_PC_howMany : y_PC_howMany.cls ≠ "java/lang/invoke/MethodHandle" ∧ y_PC_howMany.cls ≠ "java/lang/invoke/VarHandle" ∧ (parseMethodDescriptor y_PC_howMany.desc).map (fun d => d.parameters.length) = some 1 := by decide +kernel
theorem hd_PC_without : y_PC_without.cls ≠ "java/lang/invoke/MethodHandle" ∧ y_PC_without.cls ≠ "java/lang/invoke/VarHandle" ∧ (parseMethodDescriptor y_PC_without.desc).map (fun d => d.parameters.length) = some 2 := by decide +kernel
theorem hd_PC_stop : y_PC_stop.cls ≠ "java/lang/invoke/MethodHandle" ∧ y_PC_stop.cls ≠ "java/lang/invoke/VarHandle" ∧ (parseMethodDescriptor y_PC_stop.desc).map (fun d => d.parameters.length) = some 2 := by decide +kernel
theorem c_arrive (l : Launch) (G : GT) (hG : GOK G) (d : DD) (mj : Int32) (hN : NetOK d) (hM : MsgOK (gn G) d 61) (fm : d 0 3 = mj) : Met l y_PC_arrive (.code y_PC_arrive b_PC_arrive 2 none :: WS) { frames := 9, cells := 0, slots := 0, locals := 320 } (cPre G [.ref (gad G (0)), .ref (gad G (61 + 420))] d) (cQv G (fun u9 => u9 = f_arrive d (gn G) mj)) 0 0 (gAb G) := by
  unfold f_arrive
  rcases hM with ⟨fk, s, t, hs, ht, f1, f2⟩ | ⟨fk, a, t, ha, ht, f1, f3⟩ | ⟨fk, ld, t, a, hld, ht, ha, f1, f3, f4⟩ | ⟨fk, a, t, s, ha, ht, hs, f1, f2, f3⟩ | ⟨fk, ld, t, a, s, hld, ht, ha, hs, f1, f2, f3, f4⟩ | ⟨fk, s, t, hs, ht, f1, f2⟩
  · have f1 : d 481 1 = nI t := f1; have f2 : d 481 2 = nI s := f2; have fk : d 481 0 = 0 := fk
    rw [fk, f1, f2, if_pos rfl, cl_nI (show t < 2147483648 by have := hG.1; omega), cl_nI (show s < 2147483648 by have := hG.1; omega)]
    exact c_arrive0 l G hG d s t hs ht hN f1 f2 fk
  · have f1 : d 481 1 = nI t := f1; have f3 : d 481 3 = nI a := f3; have fk : d 481 0 = 1 := fk
    rw [fk, f1, f3, if_neg (by decide), if_pos rfl, cl_nI (show t < 2147483648 by have := hG.1; omega), cl_nI (show a < 2147483648 by have := hG.1; omega)]
    exact c_arrive1 l G hG d a t ha ht (d 481 5) hN f1 f3 rfl fk
  · have f1 : d 481 1 = nI t := f1; have f3 : d 481 3 = nI a := f3; have f4 : d 481 4 = nI ld := f4; have fk : d 481 0 = 2 := fk
    rw [fk, f1, f3, f4, if_neg (by decide), if_neg (by decide), if_pos rfl, cl_nI (show t < 2147483648 by have := hG.1; omega), cl_nI (show a < 2147483648 by have := hG.1; omega), cl_nI (show ld < 2147483648 by have := hG.1; omega)]
    exact c_arrive2 l G hG d ld t a hld ht ha (d 481 5) mj hN f1 f3 f4 rfl fm fk
  · have f1 : d 481 1 = nI t := f1; have f2 : d 481 2 = nI s := f2; have f3 : d 481 3 = nI a := f3; have fk : d 481 0 = 3 := fk
    rw [fk, f1, f2, f3, if_neg (by decide), if_neg (by decide), if_neg (by decide), if_pos rfl, cl_nI (show t < 2147483648 by have := hG.1; omega), cl_nI (show s < 2147483648 by have := hG.1; omega), cl_nI (show a < 2147483648 by have := hG.1; omega)]
    exact c_arrive3 l G hG d a t s ha ht hs (d 481 5) (d 481 6) hN f1 f2 f3 rfl rfl fk
  · have f1 : d 481 1 = nI t := f1; have f2 : d 481 2 = nI s := f2; have f3 : d 481 3 = nI a := f3; have f4 : d 481 4 = nI ld := f4; have fk : d 481 0 = 4 := fk
    rw [fk, f1, f2, f3, f4, if_neg (by decide), if_neg (by decide), if_neg (by decide), if_neg (by decide), if_pos rfl, cl_nI (show t < 2147483648 by have := hG.1; omega), cl_nI (show s < 2147483648 by have := hG.1; omega), cl_nI (show a < 2147483648 by have := hG.1; omega), cl_nI (show ld < 2147483648 by have := hG.1; omega)]
    exact c_arrive4 l G hG d ld t a s hld ht ha hs (d 481 5) (d 481 6) mj hN f1 f2 f3 f4 rfl rfl fm fk
  · have f1 : d 481 1 = nI t := f1; have f2 : d 481 2 = nI s := f2; have fk : d 481 0 = 5 := fk
    rw [fk, f1, f2, if_neg (by decide), if_neg (by decide), if_neg (by decide), if_neg (by decide), if_neg (by decide), cl_nI (show t < 2147483648 by have := hG.1; omega), cl_nI (show s < 2147483648 by have := hG.1; omega)]
    exact c_arrive5 l G hG d s t hs ht (d 481 6) hN f1 f2 rfl fk

set_option maxHeartbeats 4000000 in
set_option maxRecDepth 100000 in
theorem c_lose (l : Launch) (hst : l.stackTraces = false) (G : GT) (hG : GOK G) (d : DD) (x0 : Int32) (hN : NetOK d) : vx_Met l y_PC_lose (.code y_PC_lose b_PC_lose 2 (some .int) :: WS) { frames := 7, cells := 1, slots := 6, locals := 111 } (cPre G [.ref (gad G (0)), .int (x0)] d) (cQi G (fun r9 u9 => msX d x0 = none ∧ r9 = d 5 1 - 1 ∧ u9 = f_remove d (cl x0) (cl (d 5 1)) (cl (d 8 (cl x0))))) (cX G (fun E9 u9 => msX d x0 = some E9 ∧ u9 = d)) 1 6 (gAb G) := by
  refine c_startX (own := R_PC) (by decide +kernel) rfl (Nat.le_of_ble_eq_true rfl) ?_
  intro p e zs zm below meth zc ls hno C hW hl
  obtain ⟨hx, hb, hr, hml, hown, hts, hlk, hE, hbs⟩ := C
  have hK := hE.1
  have hn3 := hG.1
  have hl : lv_has ls 2 [(0, .ref (gad G (0))), (1, .int (x0))] := hl
  obtain ⟨⟨z, hz60, fz⟩, hrow, hinj⟩ := id hN
  refine lv_aload_n hx hb d_PC_lose_0 rfl (lv_at hl 0 rfl) ?_
  refine lv_iload_n hx hb d_PC_lose_1 rfl (lv_at hl 1 rfl) ?_
  refine e_xv (e_xrunV hx hb hml hown hts hE hbs hW (F_PC G hG) rfl (c_checkMessage l hst G hG d (x0)) kw_360 kw_361 kw_362 kw_104 kw_359 rfl rfl hd_PC_checkMessage ⟨Nat.le_of_ble_eq_true rfl, Nat.le_of_ble_eq_true rfl⟩ (As := [.int (x0)]) (rest := []) rfl hl.1 rfl (Nat.le_of_ble_eq_true rfl) d_PC_lose_2 ⟨Nat.le_of_ble_eq_true rfl, Nat.le_of_ble_eq_true rfl⟩) hW (fun E9 ce q9 d' H locs hp hW g1 g2 g3 => ?_) (fun d' H locs hp hW => ?_)
  · obtain ⟨hp1, hp2⟩ := hp
    have hp2 := hp2.symm; subst hp2
    exact e_xout hno hlk hW g1 g2 g3 ⟨by exact hp1, by exact rfl⟩ (Nat.le_of_ble_eq_true rfl) (Nat.le_of_ble_eq_true rfl)
  obtain ⟨h_1, hp2⟩ := hp
  have hp2 := hp2.symm; subst hp2
  obtain ⟨i, hiz, et⟩ := ms_nat (z := z) (by omega) fz h_1
  subst et
  obtain ⟨q, hq, fq⟩ := hrow i (by omega)
  refine lv_aload_n hx hb d_PC_lose_5 rfl (lv_at hl 0 rfl) ?_
  refine e_get (v := .ref (gad G (5))) hx hb hts hown hK hW (F_PC G hG) i_PC rfl 5 (by decide) (hts _ kw_210) (fun _ h => h) rfl d_PC_lose_6 ?_
  refine lv_iload_n hx hb d_PC_lose_9 rfl (lv_at hl 1 rfl) ?_
  refine e_cv (e_runV hx hb hml hown hts hE hbs hW (F_Net G hG) rfl (c_Net_remove l G hG d i z q hq (by first | assumption | omega) (by first | assumption | omega) (by first | assumption | omega) (by first | assumption | omega) (by first | assumption | omega)) kw_364 kw_365 kw_366 kw_212 kw_363 rfl rfl hd_Net_remove ⟨Nat.le_of_ble_eq_true rfl, Nat.le_of_ble_eq_true rfl⟩ (As := [.int (nI i)]) (rest := []) rfl hl.1 rfl (Nat.le_of_ble_eq_true rfl) d_PC_lose_10 ⟨Nat.le_of_ble_eq_true rfl, Nat.le_of_ble_eq_true rfl⟩) hW (fun d' H locs hp hW => ?_)
  have hp := hp.symm; subst hp
  refine lv_aload_n hx hb d_PC_lose_13 rfl (lv_at hl 0 rfl) ?_
  refine e_get (v := .ref (gad G (5))) hx hb hts hown hK hW (F_PC G hG) i_PC rfl 5 (by decide) (hts _ kw_210) (fun _ h => h) rfl d_PC_lose_14 ?_
  refine e_getN (v := .int ((f_remove d i z q) (5) (1))) hx hb hts hown hK hW (F_Net G hG) i_Net rfl 1 (by decide) (nf_9 hE) (fun _ h => h) rfl d_PC_lose_17 ?_
  refine e_top (v := nI (z - 1)) (f_remove_size) ?_
  exact e_xiret hx hb hr hlk hW ⟨by exact h_1, by rw [fz]; exact (pk_sub (a := z) (b := 1) (by omega)).symm, by simp only [cl_nI (show i < 2147483648 by omega), cl_nI (show z < 2147483648 by omega), cl_nI (show q < 2147483648 by omega), fz, fq]⟩ (Nat.le_of_ble_eq_true rfl) (Nat.le_of_ble_eq_true rfl) d_PC_lose_20
set_option maxHeartbeats 4000000 in
set_option maxRecDepth 100000 in
theorem c_deliver (l : Launch) (hst : l.stackTraces = false) (G : GT) (hG : GOK G) (d : DD) (x0 x1 mj : Int32) (hN : NetOK d) (hMs : ∀ i z, z ≤ 60 → d 5 1 = nI z → i < z → ∀ q, q < 60 → d 8 i = nI q → MsgOK (gn G) d q) (fm : d 0 3 = mj) : vx_Met l y_PC_deliver (.code y_PC_deliver b_PC_deliver 4 (some .int) :: WS) { frames := 10, cells := 1, slots := 6, locals := 341 } (cPre G [.ref (gad G (0)), .int (x0), .int (x1)] d) (cQi G (fun r9 u9 => msX d x0 = none ∧ r9 = f_arrive (f_taken d (cl x0) x1) (gn G) mj 5 1 ∧ u9 = f_arrive (f_taken d (cl x0) x1) (gn G) mj)) (cX G (fun E9 u9 => msX d x0 = some E9 ∧ u9 = d)) 1 6 (gAb G) := by
  refine c_startX (own := R_PC) (by decide +kernel) rfl (Nat.le_of_ble_eq_true rfl) ?_
  intro p e zs zm below meth zc ls hno C hW hl
  obtain ⟨hx, hb, hr, hml, hown, hts, hlk, hE, hbs⟩ := C
  have hK := hE.1
  have hn3 := hG.1
  have hl : lv_has ls 4 [(0, .ref (gad G (0))), (1, .int (x0)), (2, .int (x1))] := hl
  obtain ⟨⟨z, hz60, fz⟩, hrow, hinj⟩ := id hN
  have hMs := fun i => hMs i z hz60 fz
  refine lv_aload_n hx hb d_PC_deliver_0 rfl (lv_at hl 0 rfl) ?_
  refine lv_iload_n hx hb d_PC_deliver_1 rfl (lv_at hl 1 rfl) ?_
  refine e_xv (e_xrunV hx hb hml hown hts hE hbs hW (F_PC G hG) rfl (c_checkMessage l hst G hG d (x0)) kw_360 kw_361 kw_362 kw_104 kw_359 rfl rfl hd_PC_checkMessage ⟨Nat.le_of_ble_eq_true rfl, Nat.le_of_ble_eq_true rfl⟩ (As := [.int (x0)]) (rest := []) rfl hl.1 rfl (Nat.le_of_ble_eq_true rfl) d_PC_deliver_2 ⟨Nat.le_of_ble_eq_true rfl, Nat.le_of_ble_eq_true rfl⟩) hW (fun E9 ce q9 d' H locs hp hW g1 g2 g3 => ?_) (fun d' H locs hp hW => ?_)
  · obtain ⟨hp1, hp2⟩ := hp
    have hp2 := hp2.symm; subst hp2
    exact e_xout hno hlk hW g1 g2 g3 ⟨by exact hp1, by exact rfl⟩ (Nat.le_of_ble_eq_true rfl) (Nat.le_of_ble_eq_true rfl)
  obtain ⟨h_1, hp2⟩ := hp
  have hp2 := hp2.symm; subst hp2
  obtain ⟨i, hiz, et⟩ := ms_nat (z := z) (by omega) fz h_1
  subst et
  obtain ⟨q, hq, fq⟩ := hrow i (by omega)
  refine lv_aload_n hx hb d_PC_deliver_5 rfl (lv_at hl 0 rfl) ?_
  refine e_get (v := .ref (gad G (5))) hx hb hts hown hK hW (F_PC G hG) i_PC rfl 5 (by decide) (hts _ kw_210) (fun _ h => h) rfl d_PC_deliver_6 ?_
  refine lv_iload_n hx hb d_PC_deliver_9 rfl (lv_at hl 1 rfl) ?_
  refine e_cr (e_runV hx hb hml hown hts hE hbs hW (F_Net G hG) rfl (c_Net_pick l G hG d i q (by omega) hq (by first | assumption | omega)) kw_368 kw_369 kw_370 kw_212 kw_367 rfl rfl hd_Net_pick ⟨Nat.le_of_ble_eq_true rfl, Nat.le_of_ble_eq_true rfl⟩ (As := [.int (nI i)]) (rest := []) rfl hl.1 rfl (Nat.le_of_ble_eq_true rfl) d_PC_deliver_10 ⟨Nat.le_of_ble_eq_true rfl, Nat.le_of_ble_eq_true rfl⟩) hW (fun cn d' H locs hp hW => ?_)
  obtain ⟨hp1, hp2⟩ := hp
  have hp1 := hp1.symm; subst hp1
  have hp2 := hp2.symm; subst hp2
  refine lv_astore_n (lv' := [(3, .ref (gad G (61 + 420))), (0, .ref (gad G (0))), (1, .int (nI i)), (2, .int (x1))]) hx hb d_PC_deliver_13 rfl hl (by decide) rfl (fun ls hl => ?_)
  refine lv_iload_n hx hb d_PC_deliver_14 rfl (lv_at hl 3 rfl) ?_
  refine lv_if_ne (tgt := 26) hx hb d_PC_deliver_15 (by decide) (fun c_2 => ?_) (fun c_2 => ?_)
  · skip
    refine lv_aload_n hx hb d_PC_deliver_26 rfl (lv_at hl 1 rfl) ?_
    refine lv_aload_n hx hb d_PC_deliver_27 rfl (lv_at hl 0 rfl) ?_
    refine e_cv (e_runV hx hb hml hown hts hE hbs hW (F_PC G hG) rfl (c_arrive l G hG (f_copy d q 61) mj (NetOK_keep hN (f_copy_off (by omega) (by omega)) (f_copy_off (by omega) (by omega))) (MsgOK_to (hMs i hiz q hq fq) f_copy_msg) ((congrFun (f_copy_off (by omega) (by omega)) _).trans fm)) kw_372 kw_373 kw_374 kw_104 kw_371 rfl rfl hd_PC_arrive ⟨Nat.le_of_ble_eq_true rfl, Nat.le_of_ble_eq_true rfl⟩ (As := [.ref (gad G (61 + 420))]) (rest := []) rfl hl.1 rfl (Nat.le_of_ble_eq_true rfl) d_PC_deliver_28 ⟨Nat.le_of_ble_eq_true rfl, Nat.le_of_ble_eq_true rfl⟩) hW (fun d' H locs hp hW => ?_)
    have hp := hp.symm; subst hp
    refine lv_aload_n hx hb d_PC_deliver_31 rfl (lv_at hl 1 rfl) ?_
    refine e_get (v := .ref (gad G (5))) hx hb hts hown hK hW (F_PC G hG) i_PC rfl 5 (by decide) (hts _ kw_210) (fun _ h => h) rfl d_PC_deliver_32 ?_
    refine e_getN (v := .int ((f_arrive (f_copy d q 61) (gn G) mj) (5) (1))) hx hb hts hown hK hW (F_Net G hG) i_Net rfl 1 (by decide) (nf_9 hE) (fun _ h => h) rfl d_PC_deliver_35 ?_
    exact e_xiret hx hb hr hlk hW ⟨by exact h_1, by unfold f_taken f_picked; simp only [cl_nI (show i < 2147483648 by omega), cl_nI (show z < 2147483648 by omega), cl_nI (show q < 2147483648 by omega), fz, fq]; rw [if_neg c_2], by unfold f_taken f_picked; simp only [cl_nI (show i < 2147483648 by omega), cl_nI (show z < 2147483648 by omega), cl_nI (show q < 2147483648 by omega), fz, fq]; rw [if_neg c_2]⟩ (Nat.le_of_ble_eq_true rfl) (Nat.le_of_ble_eq_true rfl) d_PC_deliver_38
  · skip
    refine lv_aload_n hx hb d_PC_deliver_18 rfl (lv_at hl 1 rfl) ?_
    refine e_get (v := .ref (gad G (5))) hx hb hts hown hK hW (F_PC G hG) i_PC rfl 5 (by decide) (hts _ kw_210) (fun _ h => h) rfl d_PC_deliver_19 ?_
    refine lv_iload_n hx hb d_PC_deliver_22 rfl (lv_at hl 2 rfl) ?_
    refine e_cv (e_runV hx hb hml hown hts hE hbs hW (F_Net G hG) rfl (c_Net_remove l G hG (f_copy d q 61) i z q hq (by first | assumption | omega) (by first | assumption | omega) ((congrFun (f_copy_off (by omega) (by omega)) _).trans fz) ((congrFun (f_copy_off (by omega) (by omega)) _).trans fq) (fun j hj => by rw [show f_copy d q 61 8 = d 8 from f_copy_off (by omega) (by omega)]; exact hrow j hj)) kw_364 kw_365 kw_366 kw_212 kw_363 rfl rfl hd_Net_remove ⟨Nat.le_of_ble_eq_true rfl, Nat.le_of_ble_eq_true rfl⟩ (As := [.int (nI i)]) (rest := []) rfl hl.1 rfl (Nat.le_of_ble_eq_true rfl) d_PC_deliver_23 ⟨Nat.le_of_ble_eq_true rfl, Nat.le_of_ble_eq_true rfl⟩) hW (fun d' H locs hp hW => ?_)
    have hp := hp.symm; subst hp
    refine lv_aload_n hx hb d_PC_deliver_26 rfl (lv_at hl 1 rfl) ?_
    refine lv_aload_n hx hb d_PC_deliver_27 rfl (lv_at hl 0 rfl) ?_
    refine e_cv (e_runV hx hb hml hown hts hE hbs hW (F_PC G hG) rfl (c_arrive l G hG (f_remove (f_copy d q 61) i z q) mj (NetOK_remove (NetOK_keep hN (f_copy_off (by omega) (by omega)) (f_copy_off (by omega) (by omega))) hiz hz60 ((congrFun (f_copy_off (by omega) (by omega)) _).trans fq)) (MsgOK_keep (MsgOK_to (hMs i hiz q hq fq) f_copy_msg) (f_remove_off (by omega) (by omega))) ((congrFun (f_remove_off (by omega) (by omega)) _).trans ((congrFun (f_copy_off (by omega) (by omega)) _).trans fm))) kw_372 kw_373 kw_374 kw_104 kw_371 rfl rfl hd_PC_arrive ⟨Nat.le_of_ble_eq_true rfl, Nat.le_of_ble_eq_true rfl⟩ (As := [.ref (gad G (61 + 420))]) (rest := []) rfl hl.1 rfl (Nat.le_of_ble_eq_true rfl) d_PC_deliver_28 ⟨Nat.le_of_ble_eq_true rfl, Nat.le_of_ble_eq_true rfl⟩) hW (fun d' H locs hp hW => ?_)
    have hp := hp.symm; subst hp
    refine lv_aload_n hx hb d_PC_deliver_31 rfl (lv_at hl 1 rfl) ?_
    refine e_get (v := .ref (gad G (5))) hx hb hts hown hK hW (F_PC G hG) i_PC rfl 5 (by decide) (hts _ kw_210) (fun _ h => h) rfl d_PC_deliver_32 ?_
    refine e_getN (v := .int ((f_arrive (f_remove (f_copy d q 61) i z q) (gn G) mj) (5) (1))) hx hb hts hown hK hW (F_Net G hG) i_Net rfl 1 (by decide) (nf_9 hE) (fun _ h => h) rfl d_PC_deliver_35 ?_
    exact e_xiret hx hb hr hlk hW ⟨by exact h_1, by unfold f_taken f_picked; simp only [cl_nI (show i < 2147483648 by omega), cl_nI (show z < 2147483648 by omega), cl_nI (show q < 2147483648 by omega), fz, fq]; rw [if_pos c_2], by unfold f_taken f_picked; simp only [cl_nI (show i < 2147483648 by omega), cl_nI (show z < 2147483648 by omega), cl_nI (show q < 2147483648 by omega), fz, fq]; rw [if_pos c_2]⟩ (Nat.le_of_ble_eq_true rfl) (Nat.le_of_ble_eq_true rfl) d_PC_deliver_38
set_option maxHeartbeats 4000000 in
set_option maxRecDepth 100000 in
theorem c_up (l : Launch) (hst : l.stackTraces = false) (G : GT) (hG : GOK G) (d : DD) (x0 x1 x2 : Int32) : vx_Met l y_PC_up (.code y_PC_up b_PC_up 5 (some .boolean) :: WS) { frames := 7, cells := 2, slots := 12, locals := 111 } (cPre G [.ref (gad G (0)), .int (x0), .int (x1), .int (x2)] d) (cQi G (fun r9 u9 => upXo (gn G) x0 x1 = none ∧ r9 = hasI (d 4 (cl x0)) (cl x1) ∧ u9 = upF d (gn G) (cl x0) (cl x1) x2)) (cX G (fun E9 u9 => upXo (gn G) x0 x1 = some E9 ∧ u9 = d)) 2 12 (gAb G) := by
  refine c_startX (own := R_PC) (by decide +kernel) rfl (Nat.le_of_ble_eq_true rfl) ?_
  intro p e zs zm below meth zc ls hno C hW hl
  obtain ⟨hx, hb, hr, hml, hown, hts, hlk, hE, hbs⟩ := C
  have hK := hE.1
  have hn3 := hG.1
  have hl : lv_has ls 5 [(0, .ref (gad G (0))), (1, .int (x0)), (2, .int (x1)), (3, .int (x2))] := hl
  refine lv_iload_n hx hb d_PC_up_0 rfl (lv_at hl 1 rfl) ?_
  refine lv_aload_n hx hb d_PC_up_1 rfl (lv_at hl 0 rfl) ?_
  refine e_get (v := .ref (gad G (4))) hx hb hts hown hK hW (F_PC G hG) i_PC rfl 4 (by decide) (hts _ kw_286) (fun _ h => h) rfl d_PC_up_2 ?_
  refine e_lenI hx hb hK hW (F_UpS G hG) d_PC_up_5 ?_
  refine e_xv (e_xrunS hx hb hml hown hts hE hbs hW (c_checkRange l hst G hG d (x0) (nI (3))) kw_324 kw_325 kw_104 kw_323 rfl rfl hd_PC_checkRange ⟨Nat.le_of_ble_eq_true rfl, Nat.le_of_ble_eq_true rfl⟩ (As := [.int (x0), .int (nI (3))]) (rest := []) rfl hl.1 rfl (Nat.le_of_ble_eq_true rfl) d_PC_up_6 ⟨Nat.le_of_ble_eq_true rfl, Nat.le_of_ble_eq_true rfl⟩) hW (fun E9 ce q9 d' H locs hp hW g1 g2 g3 => ?_) (fun d' H locs hp hW => ?_)
  · obtain ⟨hp1, hp2⟩ := hp
    have hp2 := hp2.symm; subst hp2
    exact e_xout hno hlk hW g1 g2 g3 ⟨by unfold upXo; rw [hp1] <;> rfl, by exact rfl⟩ (Nat.le_of_ble_eq_true rfl) (Nat.le_of_ble_eq_true rfl)
  obtain ⟨h_1, hp2⟩ := hp
  have hp2 := hp2.symm; subst hp2
  obtain ⟨k, hk, et⟩ := rg_nat (B := 3) (by omega) h_1
  subst et
  rcases (show k = 0 ∨ k = 1 ∨ k = 2 by omega) with rfl | rfl | rfl
  · skip
    refine lv_iload_n hx hb d_PC_up_9 rfl (lv_at hl 2 rfl) ?_
    refine lv_aload_n hx hb d_PC_up_10 rfl (lv_at hl 0 rfl) ?_
    refine lv_iload_n hx hb d_PC_up_11 rfl (lv_at hl 1 rfl) ?_
    refine e_ci (e_runV hx hb hml hown hts hE hbs hW (F_PC G hG) rfl (c_howMany l G hG d (0)) kw_376 kw_377 kw_378 kw_104 kw_375 rfl rfl hd_PC_howMany ⟨Nat.le_of_ble_eq_true rfl, Nat.le_of_ble_eq_true rfl⟩ (As := [.int (0)]) (rest := [.int (x1)]) rfl hl.1 rfl (Nat.le_of_ble_eq_true rfl) d_PC_up_12 ⟨Nat.le_of_ble_eq_true rfl, Nat.le_of_ble_eq_true rfl⟩) hW (fun r d' H locs hp hW => ?_)
    obtain ⟨hp1, hp2⟩ := hp
    have hp1 := hp1.symm; subst hp1
    have hp2 := hp2.symm; subst hp2
    refine e_xv (e_xrunS hx hb hml hown hts hE hbs hW (c_checkRange l hst G hG d (x1) (hmI (gn G) (0))) kw_324 kw_325 kw_104 kw_323 rfl rfl hd_PC_checkRange ⟨Nat.le_of_ble_eq_true rfl, Nat.le_of_ble_eq_true rfl⟩ (As := [.int (x1), .int (hmI (gn G) (0))]) (rest := []) rfl hl.1 rfl (Nat.le_of_ble_eq_true rfl) d_PC_up_15 ⟨Nat.le_of_ble_eq_true rfl, Nat.le_of_ble_eq_true rfl⟩) hW (fun E9 ce q9 d' H locs hp hW g1 g2 g3 => ?_) (fun d' H locs hp hW => ?_)
    · obtain ⟨hp1, hp2⟩ := hp
      have hp2 := hp2.symm; subst hp2
      exact e_xout hno hlk hW g1 g2 g3 ⟨by unfold upXo; rw [h_1]; exact hp1, by exact rfl⟩ (Nat.le_of_ble_eq_true rfl) (Nat.le_of_ble_eq_true rfl)
    obtain ⟨h_2, hp2⟩ := hp
    have hp2 := hp2.symm; subst hp2
    obtain ⟨w, hw, et⟩ := rg_nat (B := 3) (by omega) (show rgX x1 (nI (3)) = none from h_2)
    subst et
    refine lv_aload_n hx hb d_PC_up_18 rfl (lv_at hl 0 rfl) ?_
    refine e_get (v := .ref (gad G (4))) hx hb hts hown hK hW (F_PC G hG) i_PC rfl 4 (by decide) (hts _ kw_286) (fun _ h => h) rfl d_PC_up_19 ?_
    refine lv_iload_n hx hb d_PC_up_22 rfl (lv_at hl 1 rfl) ?_
    refine e_iald hx hb hK hW (F_UpS G hG) (j := 0) (by decide) (x := d (4) (0)) (rfl) rfl d_PC_up_23 ?_
    refine lv_iload_n hx hb d_PC_up_24 rfl (lv_at hl 2 rfl) ?_
    refine e_ci (e_runS hx hb hml hown hts hE hbs hW (c_has l G hG d w (d (4) (0))) kw_221 kw_142 kw_104 kw_141 rfl rfl hd_PC_has ⟨Nat.le_of_ble_eq_true rfl, Nat.le_of_ble_eq_true rfl⟩ (As := [.int (d (4) (0)), .int (nI w)]) (rest := []) rfl hl.1 rfl (Nat.le_of_ble_eq_true rfl) d_PC_up_25 ⟨Nat.le_of_ble_eq_true rfl, Nat.le_of_ble_eq_true rfl⟩) hW (fun r d' H locs hp hW => ?_)
    obtain ⟨hp1, hp2⟩ := hp
    have hp1 := hp1.symm; subst hp1
    have hp2 := hp2.symm; subst hp2
    refine lv_istore (lv' := [(4, .int (hasI (d (4) (0)) w)), (0, .ref (gad G (0))), (1, .int (0)), (2, .int (nI w)), (3, .int (x2))]) hx hb d_PC_up_28 hl (by decide) rfl (fun ls hl => ?_)
    refine lv_iload_n hx hb d_PC_up_30 rfl (lv_at hl 4 rfl) ?_
    refine lv_if_eq (tgt := 53) hx hb d_PC_up_31 (by decide) (fun c_3 => ?_) (fun c_3 => ?_)
    · skip
      refine lv_aload_n hx hb d_PC_up_53 rfl (lv_at hl 1 rfl) ?_
      refine e_get (v := .ref (gad G (4))) hx hb hts hown hK hW (F_PC G hG) i_PC rfl 4 (by decide) (hts _ kw_286) (fun _ h => h) rfl d_PC_up_54 ?_
      refine lv_iload_n hx hb d_PC_up_57 rfl (lv_at hl 2 rfl) ?_
      refine lv_aload_n hx hb d_PC_up_58 rfl (lv_at hl 1 rfl) ?_
      refine e_get (v := .ref (gad G (4))) hx hb hts hown hK hW (F_PC G hG) i_PC rfl 4 (by decide) (hts _ kw_286) (fun _ h => h) rfl d_PC_up_59 ?_
      refine lv_iload_n hx hb d_PC_up_62 rfl (lv_at hl 2 rfl) ?_
      refine e_iald hx hb hK hW (F_UpS G hG) (j := 0) (by decide) (x := d (4) (0)) (rfl) rfl d_PC_up_63 ?_
      refine lv_iload_n hx hb d_PC_up_64 rfl (lv_at hl 3 rfl) ?_
      refine e_ci (e_runS hx hb hml hown hts hE hbs hW (c_without l G hG d w (d (4) (0))) kw_380 kw_381 kw_104 kw_379 rfl rfl hd_PC_without ⟨Nat.le_of_ble_eq_true rfl, Nat.le_of_ble_eq_true rfl⟩ (As := [.int (d (4) (0)), .int (nI w)]) (rest := [.int (0), .ref (gad G (4))]) rfl hl.1 rfl (Nat.le_of_ble_eq_true rfl) d_PC_up_65 ⟨Nat.le_of_ble_eq_true rfl, Nat.le_of_ble_eq_true rfl⟩) hW (fun r d' H locs hp hW => ?_)
      obtain ⟨hp1, hp2⟩ := hp
      have hp1 := hp1.symm; subst hp1
      have hp2 := hp2.symm; subst hp2
      refine e_iast hx hb hK hW (F_UpS G hG) (j := 0) (by decide) rfl d_PC_up_68 (fun H locs hW => ?_)
      refine lv_aload_n hx hb d_PC_up_69 rfl (lv_at hl 1 rfl) ?_
      refine lv_iload_n hx hb d_PC_up_70 rfl (lv_at hl 2 rfl) ?_
      refine lv_iload_n hx hb d_PC_up_71 rfl (lv_at hl 3 rfl) ?_
      refine e_cv (e_runV hx hb hml hown hts hE hbs hW (F_PC G hG) rfl (c_stop0 l G hG (up2 d (4) (0) (woutI (d (4) (0)) w)) w (by omega)) kw_383 kw_384 kw_385 kw_104 kw_382 rfl rfl hd_PC_stop ⟨Nat.le_of_ble_eq_true rfl, Nat.le_of_ble_eq_true rfl⟩ (As := [.int (0), .int (nI w)]) (rest := []) rfl hl.1 rfl (Nat.le_of_ble_eq_true rfl) d_PC_up_72 ⟨Nat.le_of_ble_eq_true rfl, Nat.le_of_ble_eq_true rfl⟩) hW (fun d' H locs hp hW => ?_)
      have hp := hp.symm; subst hp
      refine lv_iload hx hb d_PC_up_75 (lv_at hl 0 rfl) ?_
      exact e_xzret hx hb hr hlk hW (hasI_01 _ _) ⟨by unfold upXo; rw [h_1]; exact h_2, by simp only [cl_nI (show w < 2147483648 by omega), cl_nI (show 0 < 2147483648 by omega)], by simp only [cl_nI (show w < 2147483648 by omega), cl_nI (show 0 < 2147483648 by omega)]; unfold upF; rw [if_pos c_3]; rw [if_pos rfl]⟩ (Nat.le_of_ble_eq_true rfl) (Nat.le_of_ble_eq_true rfl) d_PC_up_77
    · skip
      refine lv_aload_n hx hb d_PC_up_34 rfl (lv_at hl 1 rfl) ?_
      refine e_get (v := .ref (gad G (4))) hx hb hts hown hK hW (F_PC G hG) i_PC rfl 4 (by decide) (hts _ kw_286) (fun _ h => h) rfl d_PC_up_35 ?_
      refine lv_iload_n hx hb d_PC_up_38 rfl (lv_at hl 2 rfl) ?_
      refine lv_aload_n hx hb d_PC_up_39 rfl (lv_at hl 1 rfl) ?_
      refine e_get (v := .ref (gad G (4))) hx hb hts hown hK hW (F_PC G hG) i_PC rfl 4 (by decide) (hts _ kw_286) (fun _ h => h) rfl d_PC_up_40 ?_
      refine lv_iload_n hx hb d_PC_up_43 rfl (lv_at hl 2 rfl) ?_
      refine e_iald hx hb hK hW (F_UpS G hG) (j := 0) (by decide) (x := d (4) (0)) (rfl) rfl d_PC_up_44 ?_
      refine lv_iload_n hx hb d_PC_up_45 rfl (lv_at hl 3 rfl) ?_
      refine e_ci (e_runS hx hb hml hown hts hE hbs hW (c_with l G hG d w (d (4) (0))) kw_345 kw_134 kw_104 kw_133 rfl rfl hd_PC_with ⟨Nat.le_of_ble_eq_true rfl, Nat.le_of_ble_eq_true rfl⟩ (As := [.int (d (4) (0)), .int (nI w)]) (rest := [.int (0), .ref (gad G (4))]) rfl hl.1 rfl (Nat.le_of_ble_eq_true rfl) d_PC_up_46 ⟨Nat.le_of_ble_eq_true rfl, Nat.le_of_ble_eq_true rfl⟩) hW (fun r d' H locs hp hW => ?_)
      obtain ⟨hp1, hp2⟩ := hp
      have hp1 := hp1.symm; subst hp1
      have hp2 := hp2.symm; subst hp2
      refine e_iast hx hb hK hW (F_UpS G hG) (j := 0) (by decide) rfl d_PC_up_49 (fun H locs hW => ?_)
      refine lv_goto (tgt := 75) hx hb d_PC_up_50 (by decide) ?_
      refine lv_iload hx hb d_PC_up_75 (lv_at hl 0 rfl) ?_
      exact e_xzret hx hb hr hlk hW (hasI_01 _ _) ⟨by unfold upXo; rw [h_1]; exact h_2, by simp only [cl_nI (show w < 2147483648 by omega), cl_nI (show 0 < 2147483648 by omega)], by simp only [cl_nI (show w < 2147483648 by omega), cl_nI (show 0 < 2147483648 by omega)]; unfold upF; rw [if_neg c_3]⟩ (Nat.le_of_ble_eq_true rfl) (Nat.le_of_ble_eq_true rfl) d_PC_up_77
  · skip
    refine lv_iload_n hx hb d_PC_up_9 rfl (lv_at hl 2 rfl) ?_
    refine lv_aload_n hx hb d_PC_up_10 rfl (lv_at hl 0 rfl) ?_
    refine lv_iload_n hx hb d_PC_up_11 rfl (lv_at hl 1 rfl) ?_
    refine e_ci (e_runV hx hb hml hown hts hE hbs hW (F_PC G hG) rfl (c_howMany l G hG d (1)) kw_376 kw_377 kw_378 kw_104 kw_375 rfl rfl hd_PC_howMany ⟨Nat.le_of_ble_eq_true rfl, Nat.le_of_ble_eq_true rfl⟩ (As := [.int (1)]) (rest := [.int (x1)]) rfl hl.1 rfl (Nat.le_of_ble_eq_true rfl) d_PC_up_12 ⟨Nat.le_of_ble_eq_true rfl, Nat.le_of_ble_eq_true rfl⟩) hW (fun r d' H locs hp hW => ?_)
    obtain ⟨hp1, hp2⟩ := hp
    have hp1 := hp1.symm; subst hp1
    have hp2 := hp2.symm; subst hp2
    refine e_xv (e_xrunS hx hb hml hown hts hE hbs hW (c_checkRange l hst G hG d (x1) (hmI (gn G) (1))) kw_324 kw_325 kw_104 kw_323 rfl rfl hd_PC_checkRange ⟨Nat.le_of_ble_eq_true rfl, Nat.le_of_ble_eq_true rfl⟩ (As := [.int (x1), .int (hmI (gn G) (1))]) (rest := []) rfl hl.1 rfl (Nat.le_of_ble_eq_true rfl) d_PC_up_15 ⟨Nat.le_of_ble_eq_true rfl, Nat.le_of_ble_eq_true rfl⟩) hW (fun E9 ce q9 d' H locs hp hW g1 g2 g3 => ?_) (fun d' H locs hp hW => ?_)
    · obtain ⟨hp1, hp2⟩ := hp
      have hp2 := hp2.symm; subst hp2
      exact e_xout hno hlk hW g1 g2 g3 ⟨by unfold upXo; rw [h_1]; exact hp1, by exact rfl⟩ (Nat.le_of_ble_eq_true rfl) (Nat.le_of_ble_eq_true rfl)
    obtain ⟨h_4, hp2⟩ := hp
    have hp2 := hp2.symm; subst hp2
    obtain ⟨w, hw, et⟩ := rg_nat (B := gn G) (by omega) (show rgX x1 (nI (gn G)) = none from h_4)
    subst et
    refine lv_aload_n hx hb d_PC_up_18 rfl (lv_at hl 0 rfl) ?_
    refine e_get (v := .ref (gad G (4))) hx hb hts hown hK hW (F_PC G hG) i_PC rfl 4 (by decide) (hts _ kw_286) (fun _ h => h) rfl d_PC_up_19 ?_
    refine lv_iload_n hx hb d_PC_up_22 rfl (lv_at hl 1 rfl) ?_
    refine e_iald hx hb hK hW (F_UpS G hG) (j := 1) (by decide) (x := d (4) (1)) (rfl) rfl d_PC_up_23 ?_
    refine lv_iload_n hx hb d_PC_up_24 rfl (lv_at hl 2 rfl) ?_
    refine e_ci (e_runS hx hb hml hown hts hE hbs hW (c_has l G hG d w (d (4) (1))) kw_221 kw_142 kw_104 kw_141 rfl rfl hd_PC_has ⟨Nat.le_of_ble_eq_true rfl, Nat.le_of_ble_eq_true rfl⟩ (As := [.int (d (4) (1)), .int (nI w)]) (rest := []) rfl hl.1 rfl (Nat.le_of_ble_eq_true rfl) d_PC_up_25 ⟨Nat.le_of_ble_eq_true rfl, Nat.le_of_ble_eq_true rfl⟩) hW (fun r d' H locs hp hW => ?_)
    obtain ⟨hp1, hp2⟩ := hp
    have hp1 := hp1.symm; subst hp1
    have hp2 := hp2.symm; subst hp2
    refine lv_istore (lv' := [(4, .int (hasI (d (4) (1)) w)), (0, .ref (gad G (0))), (1, .int (1)), (2, .int (nI w)), (3, .int (x2))]) hx hb d_PC_up_28 hl (by decide) rfl (fun ls hl => ?_)
    refine lv_iload_n hx hb d_PC_up_30 rfl (lv_at hl 4 rfl) ?_
    refine lv_if_eq (tgt := 53) hx hb d_PC_up_31 (by decide) (fun c_5 => ?_) (fun c_5 => ?_)
    · skip
      refine lv_aload_n hx hb d_PC_up_53 rfl (lv_at hl 1 rfl) ?_
      refine e_get (v := .ref (gad G (4))) hx hb hts hown hK hW (F_PC G hG) i_PC rfl 4 (by decide) (hts _ kw_286) (fun _ h => h) rfl d_PC_up_54 ?_
      refine lv_iload_n hx hb d_PC_up_57 rfl (lv_at hl 2 rfl) ?_
      refine lv_aload_n hx hb d_PC_up_58 rfl (lv_at hl 1 rfl) ?_
      refine e_get (v := .ref (gad G (4))) hx hb hts hown hK hW (F_PC G hG) i_PC rfl 4 (by decide) (hts _ kw_286) (fun _ h => h) rfl d_PC_up_59 ?_
      refine lv_iload_n hx hb d_PC_up_62 rfl (lv_at hl 2 rfl) ?_
      refine e_iald hx hb hK hW (F_UpS G hG) (j := 1) (by decide) (x := d (4) (1)) (rfl) rfl d_PC_up_63 ?_
      refine lv_iload_n hx hb d_PC_up_64 rfl (lv_at hl 3 rfl) ?_
      refine e_ci (e_runS hx hb hml hown hts hE hbs hW (c_without l G hG d w (d (4) (1))) kw_380 kw_381 kw_104 kw_379 rfl rfl hd_PC_without ⟨Nat.le_of_ble_eq_true rfl, Nat.le_of_ble_eq_true rfl⟩ (As := [.int (d (4) (1)), .int (nI w)]) (rest := [.int (1), .ref (gad G (4))]) rfl hl.1 rfl (Nat.le_of_ble_eq_true rfl) d_PC_up_65 ⟨Nat.le_of_ble_eq_true rfl, Nat.le_of_ble_eq_true rfl⟩) hW (fun r d' H locs hp hW => ?_)
      obtain ⟨hp1, hp2⟩ := hp
      have hp1 := hp1.symm; subst hp1
      have hp2 := hp2.symm; subst hp2
      refine e_iast hx hb hK hW (F_UpS G hG) (j := 1) (by decide) rfl d_PC_up_68 (fun H locs hW => ?_)
      refine lv_aload_n hx hb d_PC_up_69 rfl (lv_at hl 1 rfl) ?_
      refine lv_iload_n hx hb d_PC_up_70 rfl (lv_at hl 2 rfl) ?_
      refine lv_iload_n hx hb d_PC_up_71 rfl (lv_at hl 3 rfl) ?_
      refine e_cv (e_runV hx hb hml hown hts hE hbs hW (F_PC G hG) rfl (c_stop1 l G hG (up2 d (4) (1) (woutI (d (4) (1)) w)) w) kw_383 kw_384 kw_385 kw_104 kw_382 rfl rfl hd_PC_stop ⟨Nat.le_of_ble_eq_true rfl, Nat.le_of_ble_eq_true rfl⟩ (As := [.int (1), .int (nI w)]) (rest := []) rfl hl.1 rfl (Nat.le_of_ble_eq_true rfl) d_PC_up_72 ⟨Nat.le_of_ble_eq_true rfl, Nat.le_of_ble_eq_true rfl⟩) hW (fun d' H locs hp hW => ?_)
      have hp := hp.symm; subst hp
      refine lv_iload hx hb d_PC_up_75 (lv_at hl 0 rfl) ?_
      exact e_xzret hx hb hr hlk hW (hasI_01 _ _) ⟨by unfold upXo; rw [h_1]; exact h_4, by simp only [cl_nI (show w < 2147483648 by omega), cl_nI (show 1 < 2147483648 by omega)], by simp only [cl_nI (show w < 2147483648 by omega), cl_nI (show 1 < 2147483648 by omega)]; unfold upF; rw [if_pos c_5]; rw [if_neg (by decide), if_neg (by decide)]⟩ (Nat.le_of_ble_eq_true rfl) (Nat.le_of_ble_eq_true rfl) d_PC_up_77
    · skip
      refine lv_aload_n hx hb d_PC_up_34 rfl (lv_at hl 1 rfl) ?_
      refine e_get (v := .ref (gad G (4))) hx hb hts hown hK hW (F_PC G hG) i_PC rfl 4 (by decide) (hts _ kw_286) (fun _ h => h) rfl d_PC_up_35 ?_
      refine lv_iload_n hx hb d_PC_up_38 rfl (lv_at hl 2 rfl) ?_
      refine lv_aload_n hx hb d_PC_up_39 rfl (lv_at hl 1 rfl) ?_
      refine e_get (v := .ref (gad G (4))) hx hb hts hown hK hW (F_PC G hG) i_PC rfl 4 (by decide) (hts _ kw_286) (fun _ h => h) rfl d_PC_up_40 ?_
      refine lv_iload_n hx hb d_PC_up_43 rfl (lv_at hl 2 rfl) ?_
      refine e_iald hx hb hK hW (F_UpS G hG) (j := 1) (by decide) (x := d (4) (1)) (rfl) rfl d_PC_up_44 ?_
      refine lv_iload_n hx hb d_PC_up_45 rfl (lv_at hl 3 rfl) ?_
      refine e_ci (e_runS hx hb hml hown hts hE hbs hW (c_with l G hG d w (d (4) (1))) kw_345 kw_134 kw_104 kw_133 rfl rfl hd_PC_with ⟨Nat.le_of_ble_eq_true rfl, Nat.le_of_ble_eq_true rfl⟩ (As := [.int (d (4) (1)), .int (nI w)]) (rest := [.int (1), .ref (gad G (4))]) rfl hl.1 rfl (Nat.le_of_ble_eq_true rfl) d_PC_up_46 ⟨Nat.le_of_ble_eq_true rfl, Nat.le_of_ble_eq_true rfl⟩) hW (fun r d' H locs hp hW => ?_)
      obtain ⟨hp1, hp2⟩ := hp
      have hp1 := hp1.symm; subst hp1
      have hp2 := hp2.symm; subst hp2
      refine e_iast hx hb hK hW (F_UpS G hG) (j := 1) (by decide) rfl d_PC_up_49 (fun H locs hW => ?_)
      refine lv_goto (tgt := 75) hx hb d_PC_up_50 (by decide) ?_
      refine lv_iload hx hb d_PC_up_75 (lv_at hl 0 rfl) ?_
      exact e_xzret hx hb hr hlk hW (hasI_01 _ _) ⟨by unfold upXo; rw [h_1]; exact h_4, by simp only [cl_nI (show w < 2147483648 by omega), cl_nI (show 1 < 2147483648 by omega)], by simp only [cl_nI (show w < 2147483648 by omega), cl_nI (show 1 < 2147483648 by omega)]; unfold upF; rw [if_neg c_5]⟩ (Nat.le_of_ble_eq_true rfl) (Nat.le_of_ble_eq_true rfl) d_PC_up_77
  · skip
    refine lv_iload_n hx hb d_PC_up_9 rfl (lv_at hl 2 rfl) ?_
    refine lv_aload_n hx hb d_PC_up_10 rfl (lv_at hl 0 rfl) ?_
    refine lv_iload_n hx hb d_PC_up_11 rfl (lv_at hl 1 rfl) ?_
    refine e_ci (e_runV hx hb hml hown hts hE hbs hW (F_PC G hG) rfl (c_howMany l G hG d (2)) kw_376 kw_377 kw_378 kw_104 kw_375 rfl rfl hd_PC_howMany ⟨Nat.le_of_ble_eq_true rfl, Nat.le_of_ble_eq_true rfl⟩ (As := [.int (2)]) (rest := [.int (x1)]) rfl hl.1 rfl (Nat.le_of_ble_eq_true rfl) d_PC_up_12 ⟨Nat.le_of_ble_eq_true rfl, Nat.le_of_ble_eq_true rfl⟩) hW (fun r d' H locs hp hW => ?_)
    obtain ⟨hp1, hp2⟩ := hp
    have hp1 := hp1.symm; subst hp1
    have hp2 := hp2.symm; subst hp2
    refine e_xv (e_xrunS hx hb hml hown hts hE hbs hW (c_checkRange l hst G hG d (x1) (hmI (gn G) (2))) kw_324 kw_325 kw_104 kw_323 rfl rfl hd_PC_checkRange ⟨Nat.le_of_ble_eq_true rfl, Nat.le_of_ble_eq_true rfl⟩ (As := [.int (x1), .int (hmI (gn G) (2))]) (rest := []) rfl hl.1 rfl (Nat.le_of_ble_eq_true rfl) d_PC_up_15 ⟨Nat.le_of_ble_eq_true rfl, Nat.le_of_ble_eq_true rfl⟩) hW (fun E9 ce q9 d' H locs hp hW g1 g2 g3 => ?_) (fun d' H locs hp hW => ?_)
    · obtain ⟨hp1, hp2⟩ := hp
      have hp2 := hp2.symm; subst hp2
      exact e_xout hno hlk hW g1 g2 g3 ⟨by unfold upXo; rw [h_1]; exact hp1, by exact rfl⟩ (Nat.le_of_ble_eq_true rfl) (Nat.le_of_ble_eq_true rfl)
    obtain ⟨h_6, hp2⟩ := hp
    have hp2 := hp2.symm; subst hp2
    obtain ⟨w, hw, et⟩ := rg_nat (B := 2) (by omega) (show rgX x1 (nI (2)) = none from h_6)
    subst et
    refine lv_aload_n hx hb d_PC_up_18 rfl (lv_at hl 0 rfl) ?_
    refine e_get (v := .ref (gad G (4))) hx hb hts hown hK hW (F_PC G hG) i_PC rfl 4 (by decide) (hts _ kw_286) (fun _ h => h) rfl d_PC_up_19 ?_
    refine lv_iload_n hx hb d_PC_up_22 rfl (lv_at hl 1 rfl) ?_
    refine e_iald hx hb hK hW (F_UpS G hG) (j := 2) (by decide) (x := d (4) (2)) (rfl) rfl d_PC_up_23 ?_
    refine lv_iload_n hx hb d_PC_up_24 rfl (lv_at hl 2 rfl) ?_
    refine e_ci (e_runS hx hb hml hown hts hE hbs hW (c_has l G hG d w (d (4) (2))) kw_221 kw_142 kw_104 kw_141 rfl rfl hd_PC_has ⟨Nat.le_of_ble_eq_true rfl, Nat.le_of_ble_eq_true rfl⟩ (As := [.int (d (4) (2)), .int (nI w)]) (rest := []) rfl hl.1 rfl (Nat.le_of_ble_eq_true rfl) d_PC_up_25 ⟨Nat.le_of_ble_eq_true rfl, Nat.le_of_ble_eq_true rfl⟩) hW (fun r d' H locs hp hW => ?_)
    obtain ⟨hp1, hp2⟩ := hp
    have hp1 := hp1.symm; subst hp1
    have hp2 := hp2.symm; subst hp2
    refine lv_istore (lv' := [(4, .int (hasI (d (4) (2)) w)), (0, .ref (gad G (0))), (1, .int (2)), (2, .int (nI w)), (3, .int (x2))]) hx hb d_PC_up_28 hl (by decide) rfl (fun ls hl => ?_)
    refine lv_iload_n hx hb d_PC_up_30 rfl (lv_at hl 4 rfl) ?_
    refine lv_if_eq (tgt := 53) hx hb d_PC_up_31 (by decide) (fun c_7 => ?_) (fun c_7 => ?_)
    · skip
      refine lv_aload_n hx hb d_PC_up_53 rfl (lv_at hl 1 rfl) ?_
      refine e_get (v := .ref (gad G (4))) hx hb hts hown hK hW (F_PC G hG) i_PC rfl 4 (by decide) (hts _ kw_286) (fun _ h => h) rfl d_PC_up_54 ?_
      refine lv_iload_n hx hb d_PC_up_57 rfl (lv_at hl 2 rfl) ?_
      refine lv_aload_n hx hb d_PC_up_58 rfl (lv_at hl 1 rfl) ?_
      refine e_get (v := .ref (gad G (4))) hx hb hts hown hK hW (F_PC G hG) i_PC rfl 4 (by decide) (hts _ kw_286) (fun _ h => h) rfl d_PC_up_59 ?_
      refine lv_iload_n hx hb d_PC_up_62 rfl (lv_at hl 2 rfl) ?_
      refine e_iald hx hb hK hW (F_UpS G hG) (j := 2) (by decide) (x := d (4) (2)) (rfl) rfl d_PC_up_63 ?_
      refine lv_iload_n hx hb d_PC_up_64 rfl (lv_at hl 3 rfl) ?_
      refine e_ci (e_runS hx hb hml hown hts hE hbs hW (c_without l G hG d w (d (4) (2))) kw_380 kw_381 kw_104 kw_379 rfl rfl hd_PC_without ⟨Nat.le_of_ble_eq_true rfl, Nat.le_of_ble_eq_true rfl⟩ (As := [.int (d (4) (2)), .int (nI w)]) (rest := [.int (2), .ref (gad G (4))]) rfl hl.1 rfl (Nat.le_of_ble_eq_true rfl) d_PC_up_65 ⟨Nat.le_of_ble_eq_true rfl, Nat.le_of_ble_eq_true rfl⟩) hW (fun r d' H locs hp hW => ?_)
      obtain ⟨hp1, hp2⟩ := hp
      have hp1 := hp1.symm; subst hp1
      have hp2 := hp2.symm; subst hp2
      refine e_iast hx hb hK hW (F_UpS G hG) (j := 2) (by decide) rfl d_PC_up_68 (fun H locs hW => ?_)
      refine lv_aload_n hx hb d_PC_up_69 rfl (lv_at hl 1 rfl) ?_
      refine lv_iload_n hx hb d_PC_up_70 rfl (lv_at hl 2 rfl) ?_
      refine lv_iload_n hx hb d_PC_up_71 rfl (lv_at hl 3 rfl) ?_
      refine e_cv (e_runV hx hb hml hown hts hE hbs hW (F_PC G hG) rfl (c_stop2 l G hG (up2 d (4) (2) (woutI (d (4) (2)) w)) w (by omega)) kw_383 kw_384 kw_385 kw_104 kw_382 rfl rfl hd_PC_stop ⟨Nat.le_of_ble_eq_true rfl, Nat.le_of_ble_eq_true rfl⟩ (As := [.int (2), .int (nI w)]) (rest := []) rfl hl.1 rfl (Nat.le_of_ble_eq_true rfl) d_PC_up_72 ⟨Nat.le_of_ble_eq_true rfl, Nat.le_of_ble_eq_true rfl⟩) hW (fun d' H locs hp hW => ?_)
      have hp := hp.symm; subst hp
      refine lv_iload hx hb d_PC_up_75 (lv_at hl 0 rfl) ?_
      exact e_xzret hx hb hr hlk hW (hasI_01 _ _) ⟨by unfold upXo; rw [h_1]; exact h_6, by simp only [cl_nI (show w < 2147483648 by omega), cl_nI (show 2 < 2147483648 by omega)], by simp only [cl_nI (show w < 2147483648 by omega), cl_nI (show 2 < 2147483648 by omega)]; unfold upF; rw [if_pos c_7]; rw [if_neg (by decide), if_pos rfl]⟩ (Nat.le_of_ble_eq_true rfl) (Nat.le_of_ble_eq_true rfl) d_PC_up_77
    · skip
      refine lv_aload_n hx hb d_PC_up_34 rfl (lv_at hl 1 rfl) ?_
      refine e_get (v := .ref (gad G (4))) hx hb hts hown hK hW (F_PC G hG) i_PC rfl 4 (by decide) (hts _ kw_286) (fun _ h => h) rfl d_PC_up_35 ?_
      refine lv_iload_n hx hb d_PC_up_38 rfl (lv_at hl 2 rfl) ?_
      refine lv_aload_n hx hb d_PC_up_39 rfl (lv_at hl 1 rfl) ?_
      refine e_get (v := .ref (gad G (4))) hx hb hts hown hK hW (F_PC G hG) i_PC rfl 4 (by decide) (hts _ kw_286) (fun _ h => h) rfl d_PC_up_40 ?_
      refine lv_iload_n hx hb d_PC_up_43 rfl (lv_at hl 2 rfl) ?_
      refine e_iald hx hb hK hW (F_UpS G hG) (j := 2) (by decide) (x := d (4) (2)) (rfl) rfl d_PC_up_44 ?_
      refine lv_iload_n hx hb d_PC_up_45 rfl (lv_at hl 3 rfl) ?_
      refine e_ci (e_runS hx hb hml hown hts hE hbs hW (c_with l G hG d w (d (4) (2))) kw_345 kw_134 kw_104 kw_133 rfl rfl hd_PC_with ⟨Nat.le_of_ble_eq_true rfl, Nat.le_of_ble_eq_true rfl⟩ (As := [.int (d (4) (2)), .int (nI w)]) (rest := [.int (2), .ref (gad G (4))]) rfl hl.1 rfl (Nat.le_of_ble_eq_true rfl) d_PC_up_46 ⟨Nat.le_of_ble_eq_true rfl, Nat.le_of_ble_eq_true rfl⟩) hW (fun r d' H locs hp hW => ?_)
      obtain ⟨hp1, hp2⟩ := hp
      have hp1 := hp1.symm; subst hp1
      have hp2 := hp2.symm; subst hp2
      refine e_iast hx hb hK hW (F_UpS G hG) (j := 2) (by decide) rfl d_PC_up_49 (fun H locs hW => ?_)
      refine lv_goto (tgt := 75) hx hb d_PC_up_50 (by decide) ?_
      refine lv_iload hx hb d_PC_up_75 (lv_at hl 0 rfl) ?_
      exact e_xzret hx hb hr hlk hW (hasI_01 _ _) ⟨by unfold upXo; rw [h_1]; exact h_6, by simp only [cl_nI (show w < 2147483648 by omega), cl_nI (show 2 < 2147483648 by omega)], by simp only [cl_nI (show w < 2147483648 by omega), cl_nI (show 2 < 2147483648 by omega)]; unfold upF; rw [if_neg c_7]⟩ (Nat.le_of_ble_eq_true rfl) (Nat.le_of_ble_eq_true rfl) d_PC_up_77
