theorem kw_569 : .code y_PC_begin b_PC_begin 1 (some .int) ∈ WS := List.mem_filter.mpr ⟨List.mem_append_right _ (List.mem_of_getElem? (i := 220) (by decide +kernel)), by decide +kernel⟩
theorem kw_570 : .methodLink R_Law 7 y_PC_begin ∈ WS := List.mem_filter.mpr ⟨List.mem_append_right _ (List.mem_of_getElem? (i := 217) (by decide +kernel)), by decide +kernel⟩
theorem kw_571 : .instanceMethod y_PC_begin ∈ WS := List.mem_filter.mpr ⟨List.mem_append_right _ (List.mem_of_getElem? (i := 218) (by decide +kernel)), by decide +kernel⟩
theorem kw_572 : .selects R_PC y_PC_begin y_PC_begin ∈ WS := List.mem_filter.mpr ⟨List.mem_append_right _ (List.mem_of_getElem? (i := 219) (by decide +kernel)), by decide +kernel⟩
theorem kw_573 : .classLink R_Law 13 ISE ∈ WS := List.mem_filter.mpr ⟨List.mem_append_right _ (List.mem_of_getElem? (i := 216) (by decide +kernel)), by decide +kernel⟩
theorem kw_574 : .code y_PC_write b_PC_write 6 (some .int) ∈ WS := List.mem_filter.mpr ⟨List.mem_append_right _ (List.mem_of_getElem? (i := 300) (by decide +kernel)), by decide +kernel⟩
theorem kw_575 : .methodLink R_Law 15 y_PC_write ∈ WS := List.mem_filter.mpr ⟨List.mem_append_right _ (List.mem_of_getElem? (i := 297) (by decide +kernel)), by decide +kernel⟩
theorem kw_576 : .instanceMethod y_PC_write ∈ WS := List.mem_filter.mpr ⟨List.mem_append_right _ (List.mem_of_getElem? (i := 298) (by decide +kernel)), by decide +kernel⟩
theorem kw_577 : .selects R_PC y_PC_write y_PC_write ∈ WS := List.mem_filter.mpr ⟨List.mem_append_right _ (List.mem_of_getElem? (i := 299) (by decide +kernel)), by decide +kernel⟩
theorem kw_578 : .classLink R_Law 19 IAE ∈ WS := List.mem_filter.mpr ⟨List.mem_append_right _ (List.mem_of_getElem? (i := 294) (by decide +kernel)), by decide +kernel⟩
theorem kw_579 : .classLink R_Law 21 NSE ∈ WS := List.mem_filter.mpr ⟨List.mem_append_right _ (List.mem_of_getElem? (i := 295) (by decide +kernel)), by decide +kernel⟩
theorem kw_580 : .classLink R_Law 23 UOE ∈ WS := List.mem_filter.mpr ⟨List.mem_append_right _ (List.mem_of_getElem? (i := 296) (by decide +kernel)), by decide +kernel⟩
theorem kw_581 : .code y_PC_request b_PC_request 3 (some .int) ∈ WS := List.mem_filter.mpr ⟨List.mem_append_right _ (List.mem_of_getElem? (i := 397) (by decide +kernel)), by decide +kernel⟩
theorem kw_582 : .methodLink R_Law 25 y_PC_request ∈ WS := List.mem_filter.mpr ⟨List.mem_append_right _ (List.mem_of_getElem? (i := 394) (by decide +kernel)), by decide +kernel⟩
theorem kw_583 : .instanceMethod y_PC_request ∈ WS := List.mem_filter.mpr ⟨List.mem_append_right _ (List.mem_of_getElem? (i := 395) (by decide +kernel)), by decide +kernel⟩
theorem kw_584 : .selects R_PC y_PC_request y_PC_request ∈ WS := List.mem_filter.mpr ⟨List.mem_append_right _ (List.mem_of_getElem? (i := 396) (by decide +kernel)), by decide +kernel⟩
theorem kw_585 : .code y_PC_refuse b_PC_refuse 4 (some .int) ∈ WS := List.mem_filter.mpr ⟨List.mem_append_right _ (List.mem_of_getElem? (i := 431) (by decide +kernel)), by decide +kernel⟩
theorem kw_586 : .methodLink R_Law 29 y_PC_refuse ∈ WS := List.mem_filter.mpr ⟨List.mem_append_right _ (List.mem_of_getElem? (i := 428) (by decide +kernel)), by decide +kernel⟩
theorem kw_587 : .instanceMethod y_PC_refuse ∈ WS := List.mem_filter.mpr ⟨List.mem_append_right _ (List.mem_of_getElem? (i := 429) (by decide +kernel)), by decide +kernel⟩
theorem kw_588 : .selects R_PC y_PC_refuse y_PC_refuse ∈ WS := List.mem_filter.mpr ⟨List.mem_append_right _ (List.mem_of_getElem? (i := 430) (by decide +kernel)), by decide +kernel⟩
theorem kw_589 : .code y_PC_take b_PC_take 4 (some .int) ∈ WS := List.mem_filter.mpr ⟨List.mem_append_right _ (List.mem_of_getElem? (i := 451) (by decide +kernel)), by decide +kernel⟩
theorem kw_590 : .methodLink R_Law 33 y_PC_take ∈ WS := List.mem_filter.mpr ⟨List.mem_append_right _ (List.mem_of_getElem? (i := 448) (by decide +kernel)), by decide +kernel⟩
theorem kw_591 : .instanceMethod y_PC_take ∈ WS := List.mem_filter.mpr ⟨List.mem_append_right _ (List.mem_of_getElem? (i := 449) (by decide +kernel)), by decide +kernel⟩
theorem kw_592 : .selects R_PC y_PC_take y_PC_take ∈ WS := List.mem_filter.mpr ⟨List.mem_append_right _ (List.mem_of_getElem? (i := 450) (by decide +kernel)), by decide +kernel⟩
theorem kw_593 : .code y_PC_deliver b_PC_deliver 4 (some .int) ∈ WS := List.mem_filter.mpr ⟨List.mem_append_right _ (List.mem_of_getElem? (i := 479) (by decide +kernel)), by decide +kernel⟩
theorem kw_594 : .methodLink R_Law 36 y_PC_deliver ∈ WS := List.mem_filter.mpr ⟨List.mem_append_right _ (List.mem_of_getElem? (i := 476) (by decide +kernel)), by decide +kernel⟩
theorem kw_595 : .instanceMethod y_PC_deliver ∈ WS := List.mem_filter.mpr ⟨List.mem_append_right _ (List.mem_of_getElem? (i := 477) (by decide +kernel)), by decide +kernel⟩
theorem kw_596 : .selects R_PC y_PC_deliver y_PC_deliver ∈ WS := List.mem_filter.mpr ⟨List.mem_append_right _ (List.mem_of_getElem? (i := 478) (by decide +kernel)), by decide +kernel⟩
theorem kw_597 : .classLink R_Law 40 IOE ∈ WS := List.mem_filter.mpr ⟨List.mem_append_right _ (List.mem_of_getElem? (i := 475) (by decide +kernel)), by decide +kernel⟩
theorem kw_598 : .code y_PC_lose b_PC_lose 2 (some .int) ∈ WS := List.mem_filter.mpr ⟨List.mem_append_right _ (List.mem_of_getElem? (i := 617) (by decide +kernel)), by decide +kernel⟩
theorem kw_599 : .methodLink R_Law 42 y_PC_lose ∈ WS := List.mem_filter.mpr ⟨List.mem_append_right _ (List.mem_of_getElem? (i := 614) (by decide +kernel)), by decide +kernel⟩
theorem kw_600 : .instanceMethod y_PC_lose ∈ WS := List.mem_filter.mpr ⟨List.mem_append_right _ (List.mem_of_getElem? (i := 615) (by decide +kernel)), by decide +kernel⟩
theorem kw_601 : .selects R_PC y_PC_lose y_PC_lose ∈ WS := List.mem_filter.mpr ⟨List.mem_append_right _ (List.mem_of_getElem? (i := 616) (by decide +kernel)), by decide +kernel⟩
theorem kw_602 : .code y_PC_up b_PC_up 5 (some .boolean) ∈ WS := List.mem_filter.mpr ⟨List.mem_append_right _ (List.mem_of_getElem? (i := 624) (by decide +kernel)), by decide +kernel⟩
theorem kw_603 : .methodLink R_Law 45 y_PC_up ∈ WS := List.mem_filter.mpr ⟨List.mem_append_right _ (List.mem_of_getElem? (i := 621) (by decide +kernel)), by decide +kernel⟩
theorem kw_604 : .instanceMethod y_PC_up ∈ WS := List.mem_filter.mpr ⟨List.mem_append_right _ (List.mem_of_getElem? (i := 622) (by decide +kernel)), by decide +kernel⟩
theorem kw_605 : .selects R_PC y_PC_up y_PC_up ∈ WS := List.mem_filter.mpr ⟨List.mem_append_right _ (List.mem_of_getElem? (i := 623) (by decide +kernel)), by decide +kernel⟩
theorem kw_606 : .code y_PC_text b_PC_text 4 (some .int) ∈ WS := List.mem_filter.mpr ⟨List.mem_append_right _ (List.mem_of_getElem? (i := 651) (by decide +kernel)), by decide +kernel⟩
theorem kw_607 : .methodLink R_Law 49 y_PC_text ∈ WS := List.mem_filter.mpr ⟨List.mem_append_right _ (List.mem_of_getElem? (i := 648) (by decide +kernel)), by decide +kernel⟩
theorem kw_608 : .instanceMethod y_PC_text ∈ WS := List.mem_filter.mpr ⟨List.mem_append_right _ (List.mem_of_getElem? (i := 649) (by decide +kernel)), by decide +kernel⟩
theorem kw_609 : .selects R_PC y_PC_text y_PC_text ∈ WS := List.mem_filter.mpr ⟨List.mem_append_right _ (List.mem_of_getElem? (i := 650) (by decide +kernel)), by decide +kernel⟩
theorem kw_610 : .code y_PC_value b_PC_value 3 (some .int) ∈ WS := List.mem_filter.mpr ⟨List.mem_append_right _ (List.mem_of_getElem? (i := 865) (by decide +kernel)), by decide +kernel⟩
theorem kw_611 : .methodLink R_Law 52 y_PC_value ∈ WS := List.mem_filter.mpr ⟨List.mem_append_right _ (List.mem_of_getElem? (i := 862) (by decide +kernel)), by decide +kernel⟩
theorem kw_612 : .instanceMethod y_PC_value ∈ WS := List.mem_filter.mpr ⟨List.mem_append_right _ (List.mem_of_getElem? (i := 863) (by decide +kernel)), by decide +kernel⟩
theorem kw_613 : .selects R_PC y_PC_value y_PC_value ∈ WS := List.mem_filter.mpr ⟨List.mem_append_right _ (List.mem_of_getElem? (i := 864) (by decide +kernel)), by decide +kernel⟩
theorem kw_614 : .code y_PC_lock b_PC_lock 3 (some .int) ∈ WS := List.mem_filter.mpr ⟨List.mem_append_right _ (List.mem_of_getElem? (i := 872) (by decide +kernel)), by decide +kernel⟩
theorem kw_615 : .methodLink R_Law 55 y_PC_lock ∈ WS := List.mem_filter.mpr ⟨List.mem_append_right _ (List.mem_of_getElem? (i := 869) (by decide +kernel)), by decide +kernel⟩
theorem kw_616 : .instanceMethod y_PC_lock ∈ WS := List.mem_filter.mpr ⟨List.mem_append_right _ (List.mem_of_getElem? (i := 870) (by decide +kernel)), by decide +kernel⟩
theorem kw_617 : .selects R_PC y_PC_lock y_PC_lock ∈ WS := List.mem_filter.mpr ⟨List.mem_append_right _ (List.mem_of_getElem? (i := 871) (by decide +kernel)), by decide +kernel⟩
theorem kw_618 : .code y_PC_state b_PC_state 3 (some .int) ∈ WS := List.mem_filter.mpr ⟨List.mem_append_right _ (List.mem_of_getElem? (i := 879) (by decide +kernel)), by decide +kernel⟩
theorem kw_619 : .methodLink R_Law 58 y_PC_state ∈ WS := List.mem_filter.mpr ⟨List.mem_append_right _ (List.mem_of_getElem? (i := 876) (by decide +kernel)), by decide +kernel⟩
theorem kw_620 : .instanceMethod y_PC_state ∈ WS := List.mem_filter.mpr ⟨List.mem_append_right _ (List.mem_of_getElem? (i := 877) (by decide +kernel)), by decide +kernel⟩
theorem kw_621 : .selects R_PC y_PC_state y_PC_state ∈ WS := List.mem_filter.mpr ⟨List.mem_append_right _ (List.mem_of_getElem? (i := 878) (by decide +kernel)), by decide +kernel⟩
theorem kw_622 : .code y_PC_outcome b_PC_outcome 4 (some .int) ∈ WS := List.mem_filter.mpr ⟨List.mem_append_right _ (List.mem_of_getElem? (i := 886) (by decide +kernel)), by decide +kernel⟩
theorem kw_623 : .methodLink R_Law 61 y_PC_outcome ∈ WS := List.mem_filter.mpr ⟨List.mem_append_right _ (List.mem_of_getElem? (i := 883) (by decide +kernel)), by decide +kernel⟩
theorem kw_624 : .instanceMethod y_PC_outcome ∈ WS := List.mem_filter.mpr ⟨List.mem_append_right _ (List.mem_of_getElem? (i := 884) (by decide +kernel)), by decide +kernel⟩
theorem kw_625 : .selects R_PC y_PC_outcome y_PC_outcome ∈ WS := List.mem_filter.mpr ⟨List.mem_append_right _ (List.mem_of_getElem? (i := 885) (by decide +kernel)), by decide +kernel⟩
theorem kw_626 : .code y_PC_taken b_PC_taken 6 (some .int) ∈ WS := List.mem_filter.mpr ⟨List.mem_append_right _ (List.mem_of_getElem? (i := 894) (by decide +kernel)), by decide +kernel⟩
theorem kw_627 : .methodLink R_Law 64 y_PC_taken ∈ WS := List.mem_filter.mpr ⟨List.mem_append_right _ (List.mem_of_getElem? (i := 891) (by decide +kernel)), by decide +kernel⟩
theorem kw_628 : .instanceMethod y_PC_taken ∈ WS := List.mem_filter.mpr ⟨List.mem_append_right _ (List.mem_of_getElem? (i := 892) (by decide +kernel)), by decide +kernel⟩
theorem kw_629 : .selects R_PC y_PC_taken y_PC_taken ∈ WS := List.mem_filter.mpr ⟨List.mem_append_right _ (List.mem_of_getElem? (i := 893) (by decide +kernel)), by decide +kernel⟩
theorem kw_630 : .code y_PC_count b_PC_count 2 (some .int) ∈ WS := List.mem_filter.mpr ⟨List.mem_append_right _ (List.mem_of_getElem? (i := 901) (by decide +kernel)), by decide +kernel⟩
theorem kw_631 : .methodLink R_Law 68 y_PC_count ∈ WS := List.mem_filter.mpr ⟨List.mem_append_right _ (List.mem_of_getElem? (i := 898) (by decide +kernel)), by decide +kernel⟩
theorem kw_632 : .instanceMethod y_PC_count ∈ WS := List.mem_filter.mpr ⟨List.mem_append_right _ (List.mem_of_getElem? (i := 899) (by decide +kernel)), by decide +kernel⟩
theorem kw_633 : .selects R_PC y_PC_count y_PC_count ∈ WS := List.mem_filter.mpr ⟨List.mem_append_right _ (List.mem_of_getElem? (i := 900) (by decide +kernel)), by decide +kernel⟩
theorem hd_PC_begin : y_PC_begin.cls ≠ "java/lang/invoke/MethodHandle" ∧ y_PC_begin.cls ≠ "java/lang/invoke/VarHandle" ∧ (parseMethodDescriptor y_PC_begin.desc).map (fun d => d.parameters.length) = some 0 := by decide +kernel
theorem hd_PC_write : y_PC_write.cls ≠ "java/lang/invoke/MethodHandle" ∧ y_PC_write.cls ≠ "java/lang/invoke/VarHandle" ∧ (parseMethodDescriptor y_PC_write.desc).map (fun d => d.parameters.length) = some 4 := by decide +kernel
theorem hd_PC_request : y_PC_request.cls ≠ "java/lang/invoke/MethodHandle" ∧ y_PC_request.cls ≠ "java/lang/invoke/VarHandle" ∧ (parseMethodDescriptor y_PC_request.desc).map (fun d => d.parameters.length) = some 1 := by decide +kernel
theorem hd_PC_refuse : y_PC_refuse.cls ≠ "java/lang/invoke/MethodHandle" ∧ y_PC_refuse.cls ≠ "java/lang/invoke/VarHandle" ∧ (parseMethodDescriptor y_PC_refuse.desc).map (fun d => d.parameters.length) = some 2 := by decide +kernel
theorem hd_PC_take : y_PC_take.cls ≠ "java/lang/invoke/MethodHandle" ∧ y_PC_take.cls ≠ "java/lang/invoke/VarHandle" ∧ (parseMethodDescriptor y_PC_take.desc).map (fun d => d.parameters.length) = some 2 := by decide +kernel
theorem hd_PC_deliver : y_PC_deliver.cls ≠ "java/lang/invoke/MethodHandle" ∧ y_PC_deliver.cls ≠ "java/lang/invoke/VarHandle" ∧ (parseMethodDescriptor y_PC_deliver.desc).map (fun d => d.parameters.length) = some 2 := by decide +kernel
theorem hd_PC_lose : y_PC_lose.cls ≠ "java/lang/invoke/MethodHandle" ∧ y_PC_lose.cls ≠ "java/lang/invoke/VarHandle" ∧ (parseMethodDescriptor y_PC_lose.desc).map (fun d => d.parameters.length) = some 1 := by decide +kernel
theorem hd_PC_up : y_PC_up.cls ≠ "java/lang/invoke/MethodHandle" ∧ y_PC_up.cls ≠ "java/lang/invoke/VarHandle" ∧ (parseMethodDescriptor y_PC_up.desc).map (fun d => d.parameters.length) = some 3 := by decide +kernel
theorem hd_PC_text : y_PC_text.cls ≠ "java/lang/invoke/MethodHandle" ∧ y_PC_text.cls ≠ "java/lang/invoke/VarHandle" ∧ (parseMethodDescriptor y_PC_text.desc).map (fun d => d.parameters.length) = some 2 := by decide +kernel
theorem hd_PC_value : y_PC_value.cls ≠ "java/lang/invoke/MethodHandle" ∧ y_PC_value.cls ≠ "java/lang/invoke/VarHandle" ∧ (parseMethodDescriptor y_PC_value.desc).map (fun d => d.parameters.length) = some 2 := by decide +kernel
theorem hd_PC_lock : y_PC_lock.cls ≠ "java/lang/invoke/MethodHandle" ∧ y_PC_lock.cls ≠ "java/lang/invoke/VarHandle" ∧ (parseMethodDescriptor y_PC_lock.desc).map (fun d => d.parameters.length) = some 2 := by decide +kernel
theorem hd_PC_state : y_PC_state.cls ≠ "java/lang/invoke/MethodHandle" ∧ y_PC_state.cls ≠ "java/lang/invoke/VarHandle" ∧ (parseMethodDescriptor y_PC_state.desc).map (fun d => d.parameters.length) = some 2 := by decide +kernel
theorem hd_PC_outcome : y_PC_outcome.cls ≠ "java/lang/invoke/MethodHandle" ∧ y_PC_outcome.cls ≠ "java/lang/invoke/VarHandle" ∧ (parseMethodDescriptor y_PC_outcome.desc).map (fun d => d.parameters.length) = some 2 := by decide +kernel
theorem hd_PC_taken : y_PC_taken.cls ≠ "java/lang/invoke/MethodHandle" ∧ y_PC_taken.cls ≠ "java/lang/invoke/VarHandle" ∧ (parseMethodDescriptor y_PC_taken.desc).map (fun d => d.parameters.length) = some 4 := by decide +kernel
theorem hd_PC_count : y_PC_count.cls ≠ "java/lang/invoke/MethodHandle" ∧ y_PC_count.cls ≠ "java/lang/invoke/VarHandle" ∧ (parseMethodDescriptor y_PC_count.desc).map (fun d => d.parameters.length) = some 1 := by decide +kernel
set_option maxHeartbeats 4000000 in
set_option maxRecDepth 100000 in
theorem c_L_begin (l : Launch) (hst : l.stackTraces = false) (G : GT) (hG : GOK G) (h9 : gad G 9 ≠ 0) (d : DD) : Met l y_Law_begin (.codeWith y_Law_begin b_Law_begin 3 (some .int) [(0, 8, 11, 13)] :: WS) { frames := 7, cells := 1, slots := 6, locals := 110 } (cPre G [.ref (gad G 0), .ref (gad G 9)] d) (cQi G (fun r9 u9 => r9 = xc1 (bnX d) ∧ (bnX d = none → u9 = up2 (up2 d 0 8 (d 0 8 + 1)) 9 0 (d 0 8 + 1 - 1)) ∧ (¬ bnX d = none → u9 = d))) 1 6 (gAb G) := by
  refine c_startW (own := R_Law) (by decide +kernel) rfl (Nat.le_of_ble_eq_true rfl) ?_
  intro p e zs zm below meth zc ls htb C hW hl
  obtain ⟨hx, hb, hr, hml, hown, hts, hlk, hE, hbs⟩ := C
  have hK := hE.1
  have hl : lv_has ls 3 [(0, .ref (gad G (0))), (1, .ref (gad G (9)))] := hl
  refine lv_aload_n hx hb d_Law_begin_0 rfl (lv_at hl 1 rfl) ?_
  refine lv_iconst (v := 0) hx hb d_Law_begin_1 (by decide) ?_
  refine lv_aload_n hx hb d_Law_begin_2 rfl (lv_at hl 0 rfl) ?_
  refine e_xi (e_xrunV hx hb hml hown hts hE hbs hW (F_PC G hG) rfl (c_begin l hst G hG d ) kw_570 kw_571 kw_572 kw_104 kw_569 rfl rfl hd_PC_begin ⟨Nat.le_of_ble_eq_true rfl, Nat.le_of_ble_eq_true rfl⟩ (As := []) (rest := [.int (0), .ref (gad G (9))]) rfl hl.1 rfl (Nat.le_of_ble_eq_true rfl) d_Law_begin_3 ⟨Nat.le_of_ble_eq_true rfl, Nat.le_of_ble_eq_true rfl⟩) hW (fun E9 ce q9 d' H locs hp hW g1 g2 g3 => ?_) (fun r d' H locs hp hW => ?_)
  · obtain ⟨hp1, hp2⟩ := hp
    have hp2 := hp2.symm; subst hp2
    rcases xi_begin hp1 with rfl
    · skip
      refine vx_catch hown [] ⟨0, 8, 11, 13⟩ [] (htb.trans rfl) (fun z hz => by cases hz) rfl (by decide) (hts _ kw_573) (va_Nw.use rfl (hE.2.2.2.2.2.2.2.1 _ (List.mem_of_getElem? (i := 0) rfl))) g1 g2 g3 ?_
      refine lv_astore_n (lv' := [(2, .ref q9), (0, .ref (gad G (0))), (1, .ref (gad G (9)))]) hx hb d_Law_begin_11 rfl hl (by decide) rfl (fun ls hl => ?_)
      refine lv_iconst (v := 1) hx hb d_Law_begin_12 (by decide) ?_
      exact e_iret hx hb hr hlk hW ⟨(by rw [hp1]; rfl), (fun h => by (rw [hp1] at h; cases h)), fun _ => rfl⟩ (Nat.le_of_ble_eq_true rfl) (Nat.le_of_ble_eq_true rfl) d_Law_begin_13
  obtain ⟨h0, hp1, hp2⟩ := hp
  have hp1 := hp1.symm; subst hp1
  have hp2 := hp2.symm; subst hp2
  refine lv_i2l hx hb d_Law_begin_6 rfl ?_
  refine e_jast hx hb hK hW (F_Out G hG h9) (j := 0) (by decide) (x := d 0 8 + 1 - 1) rfl rfl d_Law_begin_7 (fun H locs hW => ?_)
  refine lv_goto (tgt := 14) hx hb d_Law_begin_8 (by decide) ?_
  refine lv_iconst (v := 0) hx hb d_Law_begin_14 (by decide) ?_
  exact e_iret hx hb hr hlk hW ⟨(by rw [h0]; rfl), fun _ => rfl, fun h => absurd h0 h⟩ (Nat.le_of_ble_eq_true rfl) (Nat.le_of_ble_eq_true rfl) d_Law_begin_15
set_option maxHeartbeats 4000000 in
set_option maxRecDepth 100000 in
theorem c_L_write (l : Launch) (hst : l.stackTraces = false) (G : GT) (hG : GOK G) (h9 : gad G 9 ≠ 0) (d : DD) (x0 x1 x2 v : Int32) : Met l y_Law_write (.codeWith y_Law_write b_Law_write 7 (some .int) [(0, 14, 17, 19), (0, 14, 21, 21), (0, 14, 25, 13), (0, 14, 29, 23)] :: WS) { frames := 8, cells := 6, slots := 36, locals := 137 } (cPre G [.ref (gad G 0), .int x0, .int x1, .int x2, .int v, .ref (gad G 9)] d) (cQi G (fun r9 u9 => r9 = xc4 (wrX d x0 x1 x2) ∧ (wrX d x0 x1 x2 = none → u9 = up2 (f_write d (cl x0) (cl x1) (cl x2) v) 9 0 (bcI (f_write d (cl x0) (cl x1) (cl x2) v (cl x1 + 50) (cl x0)))) ∧ (¬ wrX d x0 x1 x2 = none → u9 = d))) 6 36 (gAb G) := by
  refine c_startW (own := R_Law) (by decide +kernel) rfl (Nat.le_of_ble_eq_true rfl) ?_
  intro p e zs zm below meth zc ls htb C hW hl
  obtain ⟨hx, hb, hr, hml, hown, hts, hlk, hE, hbs⟩ := C
  have hK := hE.1
  have hl : lv_has ls 7 [(0, .ref (gad G (0))), (1, .int (x0)), (2, .int (x1)), (3, .int (x2)), (4, .int (v)), (5, .ref (gad G (9)))] := hl
  refine lv_aload hx hb d_Law_write_0 (lv_at hl 5 rfl) ?_
  refine lv_iconst (v := 0) hx hb d_Law_write_2 (by decide) ?_
  refine lv_aload_n hx hb d_Law_write_3 rfl (lv_at hl 0 rfl) ?_
  refine lv_iload_n hx hb d_Law_write_4 rfl (lv_at hl 1 rfl) ?_
  refine lv_iload_n hx hb d_Law_write_5 rfl (lv_at hl 2 rfl) ?_
  refine lv_iload_n hx hb d_Law_write_6 rfl (lv_at hl 3 rfl) ?_
  refine lv_iload hx hb d_Law_write_7 (lv_at hl 4 rfl) ?_
  refine e_xi (e_xrunV hx hb hml hown hts hE hbs hW (F_PC G hG) rfl (c_write l hst G hG d x0 x1 x2 v) kw_575 kw_576 kw_577 kw_104 kw_574 rfl rfl hd_PC_write ⟨Nat.le_of_ble_eq_true rfl, Nat.le_of_ble_eq_true rfl⟩ (As := [.int (x0), .int (x1), .int (x2), .int (v)]) (rest := [.int (0), .ref (gad G (9))]) rfl hl.1 rfl (Nat.le_of_ble_eq_true rfl) d_Law_write_9 ⟨Nat.le_of_ble_eq_true rfl, Nat.le_of_ble_eq_true rfl⟩) hW (fun E9 ce q9 d' H locs hp hW g1 g2 g3 => ?_) (fun r d' H locs hp hW => ?_)
  · obtain ⟨hp1, hp2⟩ := hp
    have hp2 := hp2.symm; subst hp2
    rcases xi_write hp1 with rfl | rfl | rfl | rfl
    · skip
      refine vx_catch hown [] ⟨0, 14, 17, 19⟩ [⟨0, 14, 21, 21⟩, ⟨0, 14, 25, 13⟩, ⟨0, 14, 29, 23⟩] (htb.trans rfl) (fun z hz => by cases hz) rfl (by decide) (hts _ kw_578) (va_Nw.use rfl (hE.2.2.2.2.2.2.2.1 _ (List.mem_of_getElem? (i := 1) rfl))) g1 g2 g3 ?_
      refine lv_astore (lv' := [(6, .ref q9), (0, .ref (gad G (0))), (1, .int (x0)), (2, .int (x1)), (3, .int (x2)), (4, .int (v)), (5, .ref (gad G (9)))]) hx hb d_Law_write_17 hl (by decide) rfl (fun ls hl => ?_)
      refine lv_iconst (v := 1) hx hb d_Law_write_19 (by decide) ?_
      exact e_iret hx hb hr hlk hW ⟨(by rw [hp1]; rfl), (fun h => by (rw [hp1] at h; cases h)), fun _ => rfl⟩ (Nat.le_of_ble_eq_true rfl) (Nat.le_of_ble_eq_true rfl) d_Law_write_20
    · skip
      refine vx_catch hown [⟨0, 14, 17, 19⟩] ⟨0, 14, 21, 21⟩ [⟨0, 14, 25, 13⟩, ⟨0, 14, 29, 23⟩] (htb.trans rfl) (fun z hz => by
        simp only [List.mem_cons, List.not_mem_nil, or_false] at hz
        rcases hz with rfl
        · exact Or.inr ⟨by decide, IAE, hts _ kw_578, hE.2.2.2.2.2.2.2.2.1 _ (List.mem_of_getElem? (i := 2) rfl) _ (List.mem_of_getElem? (i := 1) rfl) (by decide)⟩) rfl (by decide) (hts _ kw_579) (va_Nw.use rfl (hE.2.2.2.2.2.2.2.1 _ (List.mem_of_getElem? (i := 2) rfl))) g1 g2 g3 ?_
      refine lv_astore (lv' := [(6, .ref q9), (0, .ref (gad G (0))), (1, .int (x0)), (2, .int (x1)), (3, .int (x2)), (4, .int (v)), (5, .ref (gad G (9)))]) hx hb d_Law_write_21 hl (by decide) rfl (fun ls hl => ?_)
      refine lv_iconst (v := 2) hx hb d_Law_write_23 (by decide) ?_
      exact e_iret hx hb hr hlk hW ⟨(by rw [hp1]; rfl), (fun h => by (rw [hp1] at h; cases h)), fun _ => rfl⟩ (Nat.le_of_ble_eq_true rfl) (Nat.le_of_ble_eq_true rfl) d_Law_write_24
    · skip
      refine vx_catch hown [⟨0, 14, 17, 19⟩, ⟨0, 14, 21, 21⟩] ⟨0, 14, 25, 13⟩ [⟨0, 14, 29, 23⟩] (htb.trans rfl) (fun z hz => by
        simp only [List.mem_cons, List.not_mem_nil, or_false] at hz
        rcases hz with rfl | rfl
        · exact Or.inr ⟨by decide, IAE, hts _ kw_578, hE.2.2.2.2.2.2.2.2.1 _ (List.mem_of_getElem? (i := 0) rfl) _ (List.mem_of_getElem? (i := 1) rfl) (by decide)⟩
        · exact Or.inr ⟨by decide, NSE, hts _ kw_579, hE.2.2.2.2.2.2.2.2.1 _ (List.mem_of_getElem? (i := 0) rfl) _ (List.mem_of_getElem? (i := 2) rfl) (by decide)⟩) rfl (by decide) (hts _ kw_573) (va_Nw.use rfl (hE.2.2.2.2.2.2.2.1 _ (List.mem_of_getElem? (i := 0) rfl))) g1 g2 g3 ?_
      refine lv_astore (lv' := [(6, .ref q9), (0, .ref (gad G (0))), (1, .int (x0)), (2, .int (x1)), (3, .int (x2)), (4, .int (v)), (5, .ref (gad G (9)))]) hx hb d_Law_write_25 hl (by decide) rfl (fun ls hl => ?_)
      refine lv_iconst (v := 3) hx hb d_Law_write_27 (by decide) ?_
      exact e_iret hx hb hr hlk hW ⟨(by rw [hp1]; rfl), (fun h => by (rw [hp1] at h; cases h)), fun _ => rfl⟩ (Nat.le_of_ble_eq_true rfl) (Nat.le_of_ble_eq_true rfl) d_Law_write_28
    · skip
      refine vx_catch hown [⟨0, 14, 17, 19⟩, ⟨0, 14, 21, 21⟩, ⟨0, 14, 25, 13⟩] ⟨0, 14, 29, 23⟩ [] (htb.trans rfl) (fun z hz => by
        simp only [List.mem_cons, List.not_mem_nil, or_false] at hz
        rcases hz with rfl | rfl | rfl
        · exact Or.inr ⟨by decide, IAE, hts _ kw_578, hE.2.2.2.2.2.2.2.2.1 _ (List.mem_of_getElem? (i := 3) rfl) _ (List.mem_of_getElem? (i := 1) rfl) (by decide)⟩
        · exact Or.inr ⟨by decide, NSE, hts _ kw_579, hE.2.2.2.2.2.2.2.2.1 _ (List.mem_of_getElem? (i := 3) rfl) _ (List.mem_of_getElem? (i := 2) rfl) (by decide)⟩
        · exact Or.inr ⟨by decide, ISE, hts _ kw_573, hE.2.2.2.2.2.2.2.2.1 _ (List.mem_of_getElem? (i := 3) rfl) _ (List.mem_of_getElem? (i := 0) rfl) (by decide)⟩) rfl (by decide) (hts _ kw_580) (va_Nw.use rfl (hE.2.2.2.2.2.2.2.1 _ (List.mem_of_getElem? (i := 3) rfl))) g1 g2 g3 ?_
      refine lv_astore (lv' := [(6, .ref q9), (0, .ref (gad G (0))), (1, .int (x0)), (2, .int (x1)), (3, .int (x2)), (4, .int (v)), (5, .ref (gad G (9)))]) hx hb d_Law_write_29 hl (by decide) rfl (fun ls hl => ?_)
      refine lv_iconst (v := 4) hx hb d_Law_write_31 (by decide) ?_
      exact e_iret hx hb hr hlk hW ⟨(by rw [hp1]; rfl), (fun h => by (rw [hp1] at h; cases h)), fun _ => rfl⟩ (Nat.le_of_ble_eq_true rfl) (Nat.le_of_ble_eq_true rfl) d_Law_write_32
  obtain ⟨h0, hp1, hp2⟩ := hp
  have hp1 := hp1.symm; subst hp1
  have hp2 := hp2.symm; subst hp2
  refine lv_i2l hx hb d_Law_write_12 rfl ?_
  refine e_jast hx hb hK hW (F_Out G hG h9) (j := 0) (by decide) (x := bcI (f_write d (cl x0) (cl x1) (cl x2) v (cl x1 + 50) (cl x0))) rfl rfl d_Law_write_13 (fun H locs hW => ?_)
  refine lv_goto (tgt := 33) hx hb d_Law_write_14 (by decide) ?_
  refine lv_iconst (v := 0) hx hb d_Law_write_33 (by decide) ?_
  exact e_iret hx hb hr hlk hW ⟨(by rw [h0]; rfl), fun _ => rfl, fun h => absurd h0 h⟩ (Nat.le_of_ble_eq_true rfl) (Nat.le_of_ble_eq_true rfl) d_Law_write_34
set_option maxHeartbeats 4000000 in
set_option maxRecDepth 100000 in
theorem c_L_request (l : Launch) (hst : l.stackTraces = false) (G : GT) (hG : GOK G) (h9 : gad G 9 ≠ 0) (d : DD) (x0 : Int32) (hN : NetOK d) : Met l y_Law_request (.codeWith y_Law_request b_Law_request 4 (some .int) [(0, 9, 12, 19), (0, 9, 15, 21), (0, 9, 18, 13), (0, 9, 21, 23)] :: WS) { frames := 8, cells := 3, slots := 18, locals := 133 } (cPre G [.ref (gad G 0), .int x0, .ref (gad G 9)] d) (cQi G (fun r9 u9 => r9 = xc4 (rqX d x0) ∧ (rqX d x0 = none → u9 = up2 (lpRq (up2 d 7 (cl x0) 1) (cl x0) 3) 9 0 (bcI (lpRq (up2 d 7 (cl x0) 1) (cl x0) 3 6 (cl x0)))) ∧ (¬ rqX d x0 = none → u9 = d))) 3 18 (gAb G) := by
  refine c_startW (own := R_Law) (by decide +kernel) rfl (Nat.le_of_ble_eq_true rfl) ?_
  intro p e zs zm below meth zc ls htb C hW hl
  obtain ⟨hx, hb, hr, hml, hown, hts, hlk, hE, hbs⟩ := C
  have hK := hE.1
  have hl : lv_has ls 4 [(0, .ref (gad G (0))), (1, .int (x0)), (2, .ref (gad G (9)))] := hl
  refine lv_aload_n hx hb d_Law_request_0 rfl (lv_at hl 2 rfl) ?_
  refine lv_iconst (v := 0) hx hb d_Law_request_1 (by decide) ?_
  refine lv_aload_n hx hb d_Law_request_2 rfl (lv_at hl 0 rfl) ?_
  refine lv_iload_n hx hb d_Law_request_3 rfl (lv_at hl 1 rfl) ?_
  refine e_xi (e_xrunV hx hb hml hown hts hE hbs hW (F_PC G hG) rfl (c_request l hst G hG d x0 hN) kw_582 kw_583 kw_584 kw_104 kw_581 rfl rfl hd_PC_request ⟨Nat.le_of_ble_eq_true rfl, Nat.le_of_ble_eq_true rfl⟩ (As := [.int (x0)]) (rest := [.int (0), .ref (gad G (9))]) rfl hl.1 rfl (Nat.le_of_ble_eq_true rfl) d_Law_request_4 ⟨Nat.le_of_ble_eq_true rfl, Nat.le_of_ble_eq_true rfl⟩) hW (fun E9 ce q9 d' H locs hp hW g1 g2 g3 => ?_) (fun r d' H locs hp hW => ?_)
  · obtain ⟨hp1, hp2⟩ := hp
    have hp2 := hp2.symm; subst hp2
    rcases xi_request hp1 with rfl | rfl | rfl | rfl
    · skip
      refine vx_catch hown [] ⟨0, 9, 12, 19⟩ [⟨0, 9, 15, 21⟩, ⟨0, 9, 18, 13⟩, ⟨0, 9, 21, 23⟩] (htb.trans rfl) (fun z hz => by cases hz) rfl (by decide) (hts _ kw_578) (va_Nw.use rfl (hE.2.2.2.2.2.2.2.1 _ (List.mem_of_getElem? (i := 1) rfl))) g1 g2 g3 ?_
      refine lv_astore_n (lv' := [(3, .ref q9), (0, .ref (gad G (0))), (1, .int (x0)), (2, .ref (gad G (9)))]) hx hb d_Law_request_12 rfl hl (by decide) rfl (fun ls hl => ?_)
      refine lv_iconst (v := 1) hx hb d_Law_request_13 (by decide) ?_
      exact e_iret hx hb hr hlk hW ⟨(by rw [hp1]; rfl), (fun h => by (rw [hp1] at h; cases h)), fun _ => rfl⟩ (Nat.le_of_ble_eq_true rfl) (Nat.le_of_ble_eq_true rfl) d_Law_request_14
    · skip
      refine vx_catch hown [⟨0, 9, 12, 19⟩] ⟨0, 9, 15, 21⟩ [⟨0, 9, 18, 13⟩, ⟨0, 9, 21, 23⟩] (htb.trans rfl) (fun z hz => by
        simp only [List.mem_cons, List.not_mem_nil, or_false] at hz
        rcases hz with rfl
        · exact Or.inr ⟨by decide, IAE, hts _ kw_578, hE.2.2.2.2.2.2.2.2.1 _ (List.mem_of_getElem? (i := 2) rfl) _ (List.mem_of_getElem? (i := 1) rfl) (by decide)⟩) rfl (by decide) (hts _ kw_579) (va_Nw.use rfl (hE.2.2.2.2.2.2.2.1 _ (List.mem_of_getElem? (i := 2) rfl))) g1 g2 g3 ?_
      refine lv_astore_n (lv' := [(3, .ref q9), (0, .ref (gad G (0))), (1, .int (x0)), (2, .ref (gad G (9)))]) hx hb d_Law_request_15 rfl hl (by decide) rfl (fun ls hl => ?_)
      refine lv_iconst (v := 2) hx hb d_Law_request_16 (by decide) ?_
      exact e_iret hx hb hr hlk hW ⟨(by rw [hp1]; rfl), (fun h => by (rw [hp1] at h; cases h)), fun _ => rfl⟩ (Nat.le_of_ble_eq_true rfl) (Nat.le_of_ble_eq_true rfl) d_Law_request_17
    · skip
      refine vx_catch hown [⟨0, 9, 12, 19⟩, ⟨0, 9, 15, 21⟩] ⟨0, 9, 18, 13⟩ [⟨0, 9, 21, 23⟩] (htb.trans rfl) (fun z hz => by
        simp only [List.mem_cons, List.not_mem_nil, or_false] at hz
        rcases hz with rfl | rfl
        · exact Or.inr ⟨by decide, IAE, hts _ kw_578, hE.2.2.2.2.2.2.2.2.1 _ (List.mem_of_getElem? (i := 0) rfl) _ (List.mem_of_getElem? (i := 1) rfl) (by decide)⟩
        · exact Or.inr ⟨by decide, NSE, hts _ kw_579, hE.2.2.2.2.2.2.2.2.1 _ (List.mem_of_getElem? (i := 0) rfl) _ (List.mem_of_getElem? (i := 2) rfl) (by decide)⟩) rfl (by decide) (hts _ kw_573) (va_Nw.use rfl (hE.2.2.2.2.2.2.2.1 _ (List.mem_of_getElem? (i := 0) rfl))) g1 g2 g3 ?_
      refine lv_astore_n (lv' := [(3, .ref q9), (0, .ref (gad G (0))), (1, .int (x0)), (2, .ref (gad G (9)))]) hx hb d_Law_request_18 rfl hl (by decide) rfl (fun ls hl => ?_)
      refine lv_iconst (v := 3) hx hb d_Law_request_19 (by decide) ?_
      exact e_iret hx hb hr hlk hW ⟨(by rw [hp1]; rfl), (fun h => by (rw [hp1] at h; cases h)), fun _ => rfl⟩ (Nat.le_of_ble_eq_true rfl) (Nat.le_of_ble_eq_true rfl) d_Law_request_20
    · skip
      refine vx_catch hown [⟨0, 9, 12, 19⟩, ⟨0, 9, 15, 21⟩, ⟨0, 9, 18, 13⟩] ⟨0, 9, 21, 23⟩ [] (htb.trans rfl) (fun z hz => by
        simp only [List.mem_cons, List.not_mem_nil, or_false] at hz
        rcases hz with rfl | rfl | rfl
        · exact Or.inr ⟨by decide, IAE, hts _ kw_578, hE.2.2.2.2.2.2.2.2.1 _ (List.mem_of_getElem? (i := 3) rfl) _ (List.mem_of_getElem? (i := 1) rfl) (by decide)⟩
        · exact Or.inr ⟨by decide, NSE, hts _ kw_579, hE.2.2.2.2.2.2.2.2.1 _ (List.mem_of_getElem? (i := 3) rfl) _ (List.mem_of_getElem? (i := 2) rfl) (by decide)⟩
        · exact Or.inr ⟨by decide, ISE, hts _ kw_573, hE.2.2.2.2.2.2.2.2.1 _ (List.mem_of_getElem? (i := 3) rfl) _ (List.mem_of_getElem? (i := 0) rfl) (by decide)⟩) rfl (by decide) (hts _ kw_580) (va_Nw.use rfl (hE.2.2.2.2.2.2.2.1 _ (List.mem_of_getElem? (i := 3) rfl))) g1 g2 g3 ?_
      refine lv_astore_n (lv' := [(3, .ref q9), (0, .ref (gad G (0))), (1, .int (x0)), (2, .ref (gad G (9)))]) hx hb d_Law_request_21 rfl hl (by decide) rfl (fun ls hl => ?_)
      refine lv_iconst (v := 4) hx hb d_Law_request_22 (by decide) ?_
      exact e_iret hx hb hr hlk hW ⟨(by rw [hp1]; rfl), (fun h => by (rw [hp1] at h; cases h)), fun _ => rfl⟩ (Nat.le_of_ble_eq_true rfl) (Nat.le_of_ble_eq_true rfl) d_Law_request_23
  obtain ⟨h0, hp1, hp2⟩ := hp
  have hp1 := hp1.symm; subst hp1
  have hp2 := hp2.symm; subst hp2
  refine lv_i2l hx hb d_Law_request_7 rfl ?_
  refine e_jast hx hb hK hW (F_Out G hG h9) (j := 0) (by decide) (x := bcI (lpRq (up2 d 7 (cl x0) 1) (cl x0) 3 6 (cl x0))) rfl rfl d_Law_request_8 (fun H locs hW => ?_)
  refine lv_goto (tgt := 24) hx hb d_Law_request_9 (by decide) ?_
  refine lv_iconst (v := 0) hx hb d_Law_request_24 (by decide) ?_
  exact e_iret hx hb hr hlk hW ⟨(by rw [h0]; rfl), fun _ => rfl, fun h => absurd h0 h⟩ (Nat.le_of_ble_eq_true rfl) (Nat.le_of_ble_eq_true rfl) d_Law_request_25
set_option maxHeartbeats 4000000 in
set_option maxRecDepth 100000 in
theorem c_L_refuse (l : Launch) (hst : l.stackTraces = false) (G : GT) (hG : GOK G) (h9 : gad G 9 ≠ 0) (d : DD) (x0 x1 : Int32) (hN : NetOK d) : Met l y_Law_refuse (.codeWith y_Law_refuse b_Law_refuse 5 (some .int) [(0, 10, 13, 19), (0, 10, 17, 21), (0, 10, 21, 13), (0, 10, 25, 23)] :: WS) { frames := 8, cells := 5, slots := 30, locals := 135 } (cPre G [.ref (gad G 0), .int x0, .int x1, .ref (gad G 9)] d) (cQi G (fun r9 u9 => r9 = xc4 (rfX d x0 x1) ∧ (rfX d x0 x1 = none → u9 = up2 (f_refuse d (gn G) (cl x0) (cl x1)) 9 0 (bcI (f_refuse d (gn G) (cl x0) (cl x1) (cl x1 + 50) (cl x0)))) ∧ (¬ rfX d x0 x1 = none → u9 = d))) 5 30 (gAb G) := by
  refine c_startW (own := R_Law) (by decide +kernel) rfl (Nat.le_of_ble_eq_true rfl) ?_
  intro p e zs zm below meth zc ls htb C hW hl
  obtain ⟨hx, hb, hr, hml, hown, hts, hlk, hE, hbs⟩ := C
  have hK := hE.1
  have hl : lv_has ls 5 [(0, .ref (gad G (0))), (1, .int (x0)), (2, .int (x1)), (3, .ref (gad G (9)))] := hl
  refine lv_aload_n hx hb d_Law_refuse_0 rfl (lv_at hl 3 rfl) ?_
  refine lv_iconst (v := 0) hx hb d_Law_refuse_1 (by decide) ?_
  refine lv_aload_n hx hb d_Law_refuse_2 rfl (lv_at hl 0 rfl) ?_
  refine lv_iload_n hx hb d_Law_refuse_3 rfl (lv_at hl 1 rfl) ?_
  refine lv_iload_n hx hb d_Law_refuse_4 rfl (lv_at hl 2 rfl) ?_
  refine e_xi (e_xrunV hx hb hml hown hts hE hbs hW (F_PC G hG) rfl (c_refuse l hst G hG d x0 x1 hN) kw_586 kw_587 kw_588 kw_104 kw_585 rfl rfl hd_PC_refuse ⟨Nat.le_of_ble_eq_true rfl, Nat.le_of_ble_eq_true rfl⟩ (As := [.int (x0), .int (x1)]) (rest := [.int (0), .ref (gad G (9))]) rfl hl.1 rfl (Nat.le_of_ble_eq_true rfl) d_Law_refuse_5 ⟨Nat.le_of_ble_eq_true rfl, Nat.le_of_ble_eq_true rfl⟩) hW (fun E9 ce q9 d' H locs hp hW g1 g2 g3 => ?_) (fun r d' H locs hp hW => ?_)
  · obtain ⟨hp1, hp2⟩ := hp
    have hp2 := hp2.symm; subst hp2
    rcases xi_refuse hp1 with rfl | rfl | rfl | rfl
    · skip
      refine vx_catch hown [] ⟨0, 10, 13, 19⟩ [⟨0, 10, 17, 21⟩, ⟨0, 10, 21, 13⟩, ⟨0, 10, 25, 23⟩] (htb.trans rfl) (fun z hz => by cases hz) rfl (by decide) (hts _ kw_578) (va_Nw.use rfl (hE.2.2.2.2.2.2.2.1 _ (List.mem_of_getElem? (i := 1) rfl))) g1 g2 g3 ?_
      refine lv_astore (lv' := [(4, .ref q9), (0, .ref (gad G (0))), (1, .int (x0)), (2, .int (x1)), (3, .ref (gad G (9)))]) hx hb d_Law_refuse_13 hl (by decide) rfl (fun ls hl => ?_)
      refine lv_iconst (v := 1) hx hb d_Law_refuse_15 (by decide) ?_
      exact e_iret hx hb hr hlk hW ⟨(by rw [hp1]; rfl), (fun h => by (rw [hp1] at h; cases h)), fun _ => rfl⟩ (Nat.le_of_ble_eq_true rfl) (Nat.le_of_ble_eq_true rfl) d_Law_refuse_16
    · skip
      refine vx_catch hown [⟨0, 10, 13, 19⟩] ⟨0, 10, 17, 21⟩ [⟨0, 10, 21, 13⟩, ⟨0, 10, 25, 23⟩] (htb.trans rfl) (fun z hz => by
        simp only [List.mem_cons, List.not_mem_nil, or_false] at hz
        rcases hz with rfl
        · exact Or.inr ⟨by decide, IAE, hts _ kw_578, hE.2.2.2.2.2.2.2.2.1 _ (List.mem_of_getElem? (i := 2) rfl) _ (List.mem_of_getElem? (i := 1) rfl) (by decide)⟩) rfl (by decide) (hts _ kw_579) (va_Nw.use rfl (hE.2.2.2.2.2.2.2.1 _ (List.mem_of_getElem? (i := 2) rfl))) g1 g2 g3 ?_
      refine lv_astore (lv' := [(4, .ref q9), (0, .ref (gad G (0))), (1, .int (x0)), (2, .int (x1)), (3, .ref (gad G (9)))]) hx hb d_Law_refuse_17 hl (by decide) rfl (fun ls hl => ?_)
      refine lv_iconst (v := 2) hx hb d_Law_refuse_19 (by decide) ?_
      exact e_iret hx hb hr hlk hW ⟨(by rw [hp1]; rfl), (fun h => by (rw [hp1] at h; cases h)), fun _ => rfl⟩ (Nat.le_of_ble_eq_true rfl) (Nat.le_of_ble_eq_true rfl) d_Law_refuse_20
    · skip
      refine vx_catch hown [⟨0, 10, 13, 19⟩, ⟨0, 10, 17, 21⟩] ⟨0, 10, 21, 13⟩ [⟨0, 10, 25, 23⟩] (htb.trans rfl) (fun z hz => by
        simp only [List.mem_cons, List.not_mem_nil, or_false] at hz
        rcases hz with rfl | rfl
        · exact Or.inr ⟨by decide, IAE, hts _ kw_578, hE.2.2.2.2.2.2.2.2.1 _ (List.mem_of_getElem? (i := 0) rfl) _ (List.mem_of_getElem? (i := 1) rfl) (by decide)⟩
        · exact Or.inr ⟨by decide, NSE, hts _ kw_579, hE.2.2.2.2.2.2.2.2.1 _ (List.mem_of_getElem? (i := 0) rfl) _ (List.mem_of_getElem? (i := 2) rfl) (by decide)⟩) rfl (by decide) (hts _ kw_573) (va_Nw.use rfl (hE.2.2.2.2.2.2.2.1 _ (List.mem_of_getElem? (i := 0) rfl))) g1 g2 g3 ?_
      refine lv_astore (lv' := [(4, .ref q9), (0, .ref (gad G (0))), (1, .int (x0)), (2, .int (x1)), (3, .ref (gad G (9)))]) hx hb d_Law_refuse_21 hl (by decide) rfl (fun ls hl => ?_)
      refine lv_iconst (v := 3) hx hb d_Law_refuse_23 (by decide) ?_
      exact e_iret hx hb hr hlk hW ⟨(by rw [hp1]; rfl), (fun h => by (rw [hp1] at h; cases h)), fun _ => rfl⟩ (Nat.le_of_ble_eq_true rfl) (Nat.le_of_ble_eq_true rfl) d_Law_refuse_24
    · skip
      refine vx_catch hown [⟨0, 10, 13, 19⟩, ⟨0, 10, 17, 21⟩, ⟨0, 10, 21, 13⟩] ⟨0, 10, 25, 23⟩ [] (htb.trans rfl) (fun z hz => by
        simp only [List.mem_cons, List.not_mem_nil, or_false] at hz
        rcases hz with rfl | rfl | rfl
        · exact Or.inr ⟨by decide, IAE, hts _ kw_578, hE.2.2.2.2.2.2.2.2.1 _ (List.mem_of_getElem? (i := 3) rfl) _ (List.mem_of_getElem? (i := 1) rfl) (by decide)⟩
        · exact Or.inr ⟨by decide, NSE, hts _ kw_579, hE.2.2.2.2.2.2.2.2.1 _ (List.mem_of_getElem? (i := 3) rfl) _ (List.mem_of_getElem? (i := 2) rfl) (by decide)⟩
        · exact Or.inr ⟨by decide, ISE, hts _ kw_573, hE.2.2.2.2.2.2.2.2.1 _ (List.mem_of_getElem? (i := 3) rfl) _ (List.mem_of_getElem? (i := 0) rfl) (by decide)⟩) rfl (by decide) (hts _ kw_580) (va_Nw.use rfl (hE.2.2.2.2.2.2.2.1 _ (List.mem_of_getElem? (i := 3) rfl))) g1 g2 g3 ?_
      refine lv_astore (lv' := [(4, .ref q9), (0, .ref (gad G (0))), (1, .int (x0)), (2, .int (x1)), (3, .ref (gad G (9)))]) hx hb d_Law_refuse_25 hl (by decide) rfl (fun ls hl => ?_)
      refine lv_iconst (v := 4) hx hb d_Law_refuse_27 (by decide) ?_
      exact e_iret hx hb hr hlk hW ⟨(by rw [hp1]; rfl), (fun h => by (rw [hp1] at h; cases h)), fun _ => rfl⟩ (Nat.le_of_ble_eq_true rfl) (Nat.le_of_ble_eq_true rfl) d_Law_refuse_28
  obtain ⟨h0, hp1, hp2⟩ := hp
  have hp1 := hp1.symm; subst hp1
  have hp2 := hp2.symm; subst hp2
  refine lv_i2l hx hb d_Law_refuse_8 rfl ?_
  refine e_jast hx hb hK hW (F_Out G hG h9) (j := 0) (by decide) (x := bcI (f_refuse d (gn G) (cl x0) (cl x1) (cl x1 + 50) (cl x0))) rfl rfl d_Law_refuse_9 (fun H locs hW => ?_)
  refine lv_goto (tgt := 29) hx hb d_Law_refuse_10 (by decide) ?_
  refine lv_iconst (v := 0) hx hb d_Law_refuse_29 (by decide) ?_
  exact e_iret hx hb hr hlk hW ⟨(by rw [h0]; rfl), fun _ => rfl, fun h => absurd h0 h⟩ (Nat.le_of_ble_eq_true rfl) (Nat.le_of_ble_eq_true rfl) d_Law_refuse_30
set_option maxHeartbeats 4000000 in
set_option maxRecDepth 100000 in
theorem c_L_take (l : Launch) (hst : l.stackTraces = false) (G : GT) (hG : GOK G) (h9 : gad G 9 ≠ 0) (d : DD) (x0 x1 : Int32) (hN : NetOK d) : Met l y_Law_take (.codeWith y_Law_take b_Law_take 5 (some .int) [(0, 10, 13, 19), (0, 10, 17, 21), (0, 10, 21, 13), (0, 10, 25, 23)] :: WS) { frames := 8, cells := 5, slots := 30, locals := 135 } (cPre G [.ref (gad G 0), .int x0, .int x1, .ref (gad G 9)] d) (cQi G (fun r9 u9 => r9 = xc4 (tkX d x0 x1) ∧ (tkX d x0 x1 = none → u9 = up2 (f_take d (gn G) (cl x0) (cl x1)) 9 0 (rsI (d (cl x0 * 8 + cl x1 + 200) 0) x0)) ∧ (¬ tkX d x0 x1 = none → u9 = d))) 5 30 (gAb G) := by
  refine c_startW (own := R_Law) (by decide +kernel) rfl (Nat.le_of_ble_eq_true rfl) ?_
  intro p e zs zm below meth zc ls htb C hW hl
  obtain ⟨hx, hb, hr, hml, hown, hts, hlk, hE, hbs⟩ := C
  have hK := hE.1
  have hl : lv_has ls 5 [(0, .ref (gad G (0))), (1, .int (x0)), (2, .int (x1)), (3, .ref (gad G (9)))] := hl
  refine lv_aload_n hx hb d_Law_take_0 rfl (lv_at hl 3 rfl) ?_
  refine lv_iconst (v := 0) hx hb d_Law_take_1 (by decide) ?_
  refine lv_aload_n hx hb d_Law_take_2 rfl (lv_at hl 0 rfl) ?_
  refine lv_iload_n hx hb d_Law_take_3 rfl (lv_at hl 1 rfl) ?_
  refine lv_iload_n hx hb d_Law_take_4 rfl (lv_at hl 2 rfl) ?_
  refine e_xi (e_xrunV hx hb hml hown hts hE hbs hW (F_PC G hG) rfl (c_take l hst G hG d x0 x1 hN) kw_590 kw_591 kw_592 kw_104 kw_589 rfl rfl hd_PC_take ⟨Nat.le_of_ble_eq_true rfl, Nat.le_of_ble_eq_true rfl⟩ (As := [.int (x0), .int (x1)]) (rest := [.int (0), .ref (gad G (9))]) rfl hl.1 rfl (Nat.le_of_ble_eq_true rfl) d_Law_take_5 ⟨Nat.le_of_ble_eq_true rfl, Nat.le_of_ble_eq_true rfl⟩) hW (fun E9 ce q9 d' H locs hp hW g1 g2 g3 => ?_) (fun r d' H locs hp hW => ?_)
  · obtain ⟨hp1, hp2⟩ := hp
    have hp2 := hp2.symm; subst hp2
    rcases xi_take hp1 with rfl | rfl | rfl | rfl
    · skip
      refine vx_catch hown [] ⟨0, 10, 13, 19⟩ [⟨0, 10, 17, 21⟩, ⟨0, 10, 21, 13⟩, ⟨0, 10, 25, 23⟩] (htb.trans rfl) (fun z hz => by cases hz) rfl (by decide) (hts _ kw_578) (va_Nw.use rfl (hE.2.2.2.2.2.2.2.1 _ (List.mem_of_getElem? (i := 1) rfl))) g1 g2 g3 ?_
      refine lv_astore (lv' := [(4, .ref q9), (0, .ref (gad G (0))), (1, .int (x0)), (2, .int (x1)), (3, .ref (gad G (9)))]) hx hb d_Law_take_13 hl (by decide) rfl (fun ls hl => ?_)
      refine lv_iconst (v := 1) hx hb d_Law_take_15 (by decide) ?_
      exact e_iret hx hb hr hlk hW ⟨(by rw [hp1]; rfl), (fun h => by (rw [hp1] at h; cases h)), fun _ => rfl⟩ (Nat.le_of_ble_eq_true rfl) (Nat.le_of_ble_eq_true rfl) d_Law_take_16
    · skip
      refine vx_catch hown [⟨0, 10, 13, 19⟩] ⟨0, 10, 17, 21⟩ [⟨0, 10, 21, 13⟩, ⟨0, 10, 25, 23⟩] (htb.trans rfl) (fun z hz => by
        simp only [List.mem_cons, List.not_mem_nil, or_false] at hz
        rcases hz with rfl
        · exact Or.inr ⟨by decide, IAE, hts _ kw_578, hE.2.2.2.2.2.2.2.2.1 _ (List.mem_of_getElem? (i := 2) rfl) _ (List.mem_of_getElem? (i := 1) rfl) (by decide)⟩) rfl (by decide) (hts _ kw_579) (va_Nw.use rfl (hE.2.2.2.2.2.2.2.1 _ (List.mem_of_getElem? (i := 2) rfl))) g1 g2 g3 ?_
      refine lv_astore (lv' := [(4, .ref q9), (0, .ref (gad G (0))), (1, .int (x0)), (2, .int (x1)), (3, .ref (gad G (9)))]) hx hb d_Law_take_17 hl (by decide) rfl (fun ls hl => ?_)
      refine lv_iconst (v := 2) hx hb d_Law_take_19 (by decide) ?_
      exact e_iret hx hb hr hlk hW ⟨(by rw [hp1]; rfl), (fun h => by (rw [hp1] at h; cases h)), fun _ => rfl⟩ (Nat.le_of_ble_eq_true rfl) (Nat.le_of_ble_eq_true rfl) d_Law_take_20
    · skip
      refine vx_catch hown [⟨0, 10, 13, 19⟩, ⟨0, 10, 17, 21⟩] ⟨0, 10, 21, 13⟩ [⟨0, 10, 25, 23⟩] (htb.trans rfl) (fun z hz => by
        simp only [List.mem_cons, List.not_mem_nil, or_false] at hz
        rcases hz with rfl | rfl
        · exact Or.inr ⟨by decide, IAE, hts _ kw_578, hE.2.2.2.2.2.2.2.2.1 _ (List.mem_of_getElem? (i := 0) rfl) _ (List.mem_of_getElem? (i := 1) rfl) (by decide)⟩
        · exact Or.inr ⟨by decide, NSE, hts _ kw_579, hE.2.2.2.2.2.2.2.2.1 _ (List.mem_of_getElem? (i := 0) rfl) _ (List.mem_of_getElem? (i := 2) rfl) (by decide)⟩) rfl (by decide) (hts _ kw_573) (va_Nw.use rfl (hE.2.2.2.2.2.2.2.1 _ (List.mem_of_getElem? (i := 0) rfl))) g1 g2 g3 ?_
      refine lv_astore (lv' := [(4, .ref q9), (0, .ref (gad G (0))), (1, .int (x0)), (2, .int (x1)), (3, .ref (gad G (9)))]) hx hb d_Law_take_21 hl (by decide) rfl (fun ls hl => ?_)
      refine lv_iconst (v := 3) hx hb d_Law_take_23 (by decide) ?_
      exact e_iret hx hb hr hlk hW ⟨(by rw [hp1]; rfl), (fun h => by (rw [hp1] at h; cases h)), fun _ => rfl⟩ (Nat.le_of_ble_eq_true rfl) (Nat.le_of_ble_eq_true rfl) d_Law_take_24
    · skip
      refine vx_catch hown [⟨0, 10, 13, 19⟩, ⟨0, 10, 17, 21⟩, ⟨0, 10, 21, 13⟩] ⟨0, 10, 25, 23⟩ [] (htb.trans rfl) (fun z hz => by
        simp only [List.mem_cons, List.not_mem_nil, or_false] at hz
        rcases hz with rfl | rfl | rfl
        · exact Or.inr ⟨by decide, IAE, hts _ kw_578, hE.2.2.2.2.2.2.2.2.1 _ (List.mem_of_getElem? (i := 3) rfl) _ (List.mem_of_getElem? (i := 1) rfl) (by decide)⟩
        · exact Or.inr ⟨by decide, NSE, hts _ kw_579, hE.2.2.2.2.2.2.2.2.1 _ (List.mem_of_getElem? (i := 3) rfl) _ (List.mem_of_getElem? (i := 2) rfl) (by decide)⟩
        · exact Or.inr ⟨by decide, ISE, hts _ kw_573, hE.2.2.2.2.2.2.2.2.1 _ (List.mem_of_getElem? (i := 3) rfl) _ (List.mem_of_getElem? (i := 0) rfl) (by decide)⟩) rfl (by decide) (hts _ kw_580) (va_Nw.use rfl (hE.2.2.2.2.2.2.2.1 _ (List.mem_of_getElem? (i := 3) rfl))) g1 g2 g3 ?_
      refine lv_astore (lv' := [(4, .ref q9), (0, .ref (gad G (0))), (1, .int (x0)), (2, .int (x1)), (3, .ref (gad G (9)))]) hx hb d_Law_take_25 hl (by decide) rfl (fun ls hl => ?_)
      refine lv_iconst (v := 4) hx hb d_Law_take_27 (by decide) ?_
      exact e_iret hx hb hr hlk hW ⟨(by rw [hp1]; rfl), (fun h => by (rw [hp1] at h; cases h)), fun _ => rfl⟩ (Nat.le_of_ble_eq_true rfl) (Nat.le_of_ble_eq_true rfl) d_Law_take_28
  obtain ⟨h0, hp1, hp2⟩ := hp
  have hp1 := hp1.symm; subst hp1
  have hp2 := hp2.symm; subst hp2
  refine lv_i2l hx hb d_Law_take_8 rfl ?_
  refine e_jast hx hb hK hW (F_Out G hG h9) (j := 0) (by decide) (x := rsI (d (cl x0 * 8 + cl x1 + 200) 0) x0) rfl rfl d_Law_take_9 (fun H locs hW => ?_)
  refine lv_goto (tgt := 29) hx hb d_Law_take_10 (by decide) ?_
  refine lv_iconst (v := 0) hx hb d_Law_take_29 (by decide) ?_
  exact e_iret hx hb hr hlk hW ⟨(by rw [h0]; rfl), fun _ => rfl, fun h => absurd h0 h⟩ (Nat.le_of_ble_eq_true rfl) (Nat.le_of_ble_eq_true rfl) d_Law_take_30
set_option maxHeartbeats 4000000 in
set_option maxRecDepth 100000 in
theorem c_L_deliver (l : Launch) (hst : l.stackTraces = false) (G : GT) (hG : GOK G) (h9 : gad G 9 ≠ 0) (d : DD) (x0 x1 mj : Int32) (hN : NetOK d) (hMs : ∀ i z, z ≤ 60 → d 5 1 = nI z → i < z → ∀ q, q < 60 → d 8 i = nI q → MsgOK (gn G) d q) (fm : d 0 3 = mj) : Met l y_Law_deliver (.codeWith y_Law_deliver b_Law_deliver 5 (some .int) [(0, 10, 13, 40)] :: WS) { frames := 11, cells := 1, slots := 6, locals := 364 } (cPre G [.ref (gad G 0), .int x0, .int x1, .ref (gad G 9)] d) (cQi G (fun r9 u9 => r9 = xc1 (msX d x0) ∧ (msX d x0 = none → u9 = up2 (f_arrive (f_taken d (cl x0) x1) (gn G) mj) 9 0 (f_arrive (f_taken d (cl x0) x1) (gn G) mj 5 1)) ∧ (¬ msX d x0 = none → u9 = d))) 1 6 (gAb G) := by
  refine c_startW (own := R_Law) (by decide +kernel) rfl (Nat.le_of_ble_eq_true rfl) ?_
  intro p e zs zm below meth zc ls htb C hW hl
  obtain ⟨hx, hb, hr, hml, hown, hts, hlk, hE, hbs⟩ := C
  have hK := hE.1
  have hl : lv_has ls 5 [(0, .ref (gad G (0))), (1, .int (x0)), (2, .int (x1)), (3, .ref (gad G (9)))] := hl
  refine lv_aload_n hx hb d_Law_deliver_0 rfl (lv_at hl 3 rfl) ?_
  refine lv_iconst (v := 0) hx hb d_Law_deliver_1 (by decide) ?_
  refine lv_aload_n hx hb d_Law_deliver_2 rfl (lv_at hl 0 rfl) ?_
  refine lv_iload_n hx hb d_Law_deliver_3 rfl (lv_at hl 1 rfl) ?_
  refine lv_iload_n hx hb d_Law_deliver_4 rfl (lv_at hl 2 rfl) ?_
  refine e_xi (e_xrunV hx hb hml hown hts hE hbs hW (F_PC G hG) rfl (c_deliver l hst G hG d x0 x1 mj hN hMs fm) kw_594 kw_595 kw_596 kw_104 kw_593 rfl rfl hd_PC_deliver ⟨Nat.le_of_ble_eq_true rfl, Nat.le_of_ble_eq_true rfl⟩ (As := [.int (x0), .int (x1)]) (rest := [.int (0), .ref (gad G (9))]) rfl hl.1 rfl (Nat.le_of_ble_eq_true rfl) d_Law_deliver_5 ⟨Nat.le_of_ble_eq_true rfl, Nat.le_of_ble_eq_true rfl⟩) hW (fun E9 ce q9 d' H locs hp hW g1 g2 g3 => ?_) (fun r d' H locs hp hW => ?_)
  · obtain ⟨hp1, hp2⟩ := hp
    have hp2 := hp2.symm; subst hp2
    rcases ms_E hp1 with rfl
    · skip
      refine vx_catch hown [] ⟨0, 10, 13, 40⟩ [] (htb.trans rfl) (fun z hz => by cases hz) rfl (by decide) (hts _ kw_597) (va_Nw.use rfl (hE.2.2.2.2.2.2.2.1 _ (List.mem_of_getElem? (i := 4) rfl))) g1 g2 g3 ?_
      refine lv_astore (lv' := [(4, .ref q9), (0, .ref (gad G (0))), (1, .int (x0)), (2, .int (x1)), (3, .ref (gad G (9)))]) hx hb d_Law_deliver_13 hl (by decide) rfl (fun ls hl => ?_)
      refine lv_iconst (v := 1) hx hb d_Law_deliver_15 (by decide) ?_
      exact e_iret hx hb hr hlk hW ⟨(by rw [hp1]; rfl), (fun h => by (rw [hp1] at h; cases h)), fun _ => rfl⟩ (Nat.le_of_ble_eq_true rfl) (Nat.le_of_ble_eq_true rfl) d_Law_deliver_16
  obtain ⟨h0, hp1, hp2⟩ := hp
  have hp1 := hp1.symm; subst hp1
  have hp2 := hp2.symm; subst hp2
  refine lv_i2l hx hb d_Law_deliver_8 rfl ?_
  refine e_jast hx hb hK hW (F_Out G hG h9) (j := 0) (by decide) (x := f_arrive (f_taken d (cl x0) x1) (gn G) mj 5 1) rfl rfl d_Law_deliver_9 (fun H locs hW => ?_)
  refine lv_goto (tgt := 17) hx hb d_Law_deliver_10 (by decide) ?_
  refine lv_iconst (v := 0) hx hb d_Law_deliver_17 (by decide) ?_
  exact e_iret hx hb hr hlk hW ⟨(by rw [h0]; rfl), fun _ => rfl, fun h => absurd h0 h⟩ (Nat.le_of_ble_eq_true rfl) (Nat.le_of_ble_eq_true rfl) d_Law_deliver_18
set_option maxHeartbeats 4000000 in
set_option maxRecDepth 100000 in
theorem c_L_lose (l : Launch) (hst : l.stackTraces = false) (G : GT) (hG : GOK G) (h9 : gad G 9 ≠ 0) (d : DD) (x0 : Int32) (hN : NetOK d) : Met l y_Law_lose (.codeWith y_Law_lose b_Law_lose 4 (some .int) [(0, 9, 12, 40)] :: WS) { frames := 8, cells := 1, slots := 6, locals := 132 } (cPre G [.ref (gad G 0), .int x0, .ref (gad G 9)] d) (cQi G (fun r9 u9 => r9 = xc1 (msX d x0) ∧ (msX d x0 = none → u9 = up2 (f_remove d (cl x0) (cl (d 5 1)) (cl (d 8 (cl x0)))) 9 0 (d 5 1 - 1)) ∧ (¬ msX d x0 = none → u9 = d))) 1 6 (gAb G) := by
  refine c_startW (own := R_Law) (by decide +kernel) rfl (Nat.le_of_ble_eq_true rfl) ?_
  intro p e zs zm below meth zc ls htb C hW hl
  obtain ⟨hx, hb, hr, hml, hown, hts, hlk, hE, hbs⟩ := C
  have hK := hE.1
  have hl : lv_has ls 4 [(0, .ref (gad G (0))), (1, .int (x0)), (2, .ref (gad G (9)))] := hl
  refine lv_aload_n hx hb d_Law_lose_0 rfl (lv_at hl 2 rfl) ?_
  refine lv_iconst (v := 0) hx hb d_Law_lose_1 (by decide) ?_
  refine lv_aload_n hx hb d_Law_lose_2 rfl (lv_at hl 0 rfl) ?_
  refine lv_iload_n hx hb d_Law_lose_3 rfl (lv_at hl 1 rfl) ?_
  refine e_xi (e_xrunV hx hb hml hown hts hE hbs hW (F_PC G hG) rfl (c_lose l hst G hG d x0 hN) kw_599 kw_600 kw_601 kw_104 kw_598 rfl rfl hd_PC_lose ⟨Nat.le_of_ble_eq_true rfl, Nat.le_of_ble_eq_true rfl⟩ (As := [.int (x0)]) (rest := [.int (0), .ref (gad G (9))]) rfl hl.1 rfl (Nat.le_of_ble_eq_true rfl) d_Law_lose_4 ⟨Nat.le_of_ble_eq_true rfl, Nat.le_of_ble_eq_true rfl⟩) hW (fun E9 ce q9 d' H locs hp hW g1 g2 g3 => ?_) (fun r d' H locs hp hW => ?_)
  · obtain ⟨hp1, hp2⟩ := hp
    have hp2 := hp2.symm; subst hp2
    rcases ms_E hp1 with rfl
    · skip
      refine vx_catch hown [] ⟨0, 9, 12, 40⟩ [] (htb.trans rfl) (fun z hz => by cases hz) rfl (by decide) (hts _ kw_597) (va_Nw.use rfl (hE.2.2.2.2.2.2.2.1 _ (List.mem_of_getElem? (i := 4) rfl))) g1 g2 g3 ?_
      refine lv_astore_n (lv' := [(3, .ref q9), (0, .ref (gad G (0))), (1, .int (x0)), (2, .ref (gad G (9)))]) hx hb d_Law_lose_12 rfl hl (by decide) rfl (fun ls hl => ?_)
      refine lv_iconst (v := 1) hx hb d_Law_lose_13 (by decide) ?_
      exact e_iret hx hb hr hlk hW ⟨(by rw [hp1]; rfl), (fun h => by (rw [hp1] at h; cases h)), fun _ => rfl⟩ (Nat.le_of_ble_eq_true rfl) (Nat.le_of_ble_eq_true rfl) d_Law_lose_14
  obtain ⟨h0, hp1, hp2⟩ := hp
  have hp1 := hp1.symm; subst hp1
  have hp2 := hp2.symm; subst hp2
  refine lv_i2l hx hb d_Law_lose_7 rfl ?_
  refine e_jast hx hb hK hW (F_Out G hG h9) (j := 0) (by decide) (x := d 5 1 - 1) rfl rfl d_Law_lose_8 (fun H locs hW => ?_)
  refine lv_goto (tgt := 15) hx hb d_Law_lose_9 (by decide) ?_
  refine lv_iconst (v := 0) hx hb d_Law_lose_15 (by decide) ?_
  exact e_iret hx hb hr hlk hW ⟨(by rw [h0]; rfl), fun _ => rfl, fun h => absurd h0 h⟩ (Nat.le_of_ble_eq_true rfl) (Nat.le_of_ble_eq_true rfl) d_Law_lose_16
set_option maxHeartbeats 4000000 in
set_option maxRecDepth 100000 in
theorem c_L_up (l : Launch) (hst : l.stackTraces = false) (G : GT) (hG : GOK G) (h9 : gad G 9 ≠ 0) (d : DD) (x0 x1 x2 : Int32) : Met l y_Law_up (.codeWith y_Law_up b_Law_up 6 (some .int) [(0, 19, 22, 19)] :: WS) { frames := 8, cells := 2, slots := 12, locals := 135 } (cPre G [.ref (gad G 0), .int x0, .int x1, .int x2, .ref (gad G 9)] d) (cQi G (fun r9 u9 => r9 = xc1 (upXo (gn G) x0 x1) ∧ (upXo (gn G) x0 x1 = none → u9 = up2 (upF d (gn G) (cl x0) (cl x1) x2) 9 0 (hasI (d 4 (cl x0)) (cl x1))) ∧ (¬ upXo (gn G) x0 x1 = none → u9 = d))) 2 12 (gAb G) := by
  refine c_startW (own := R_Law) (by decide +kernel) rfl (Nat.le_of_ble_eq_true rfl) ?_
  intro p e zs zm below meth zc ls htb C hW hl
  obtain ⟨hx, hb, hr, hml, hown, hts, hlk, hE, hbs⟩ := C
  have hK := hE.1
  have hl : lv_has ls 6 [(0, .ref (gad G (0))), (1, .int (x0)), (2, .int (x1)), (3, .int (x2)), (4, .ref (gad G (9)))] := hl
  refine lv_aload hx hb d_Law_up_0 (lv_at hl 4 rfl) ?_
  refine lv_iconst (v := 0) hx hb d_Law_up_2 (by decide) ?_
  refine lv_aload_n hx hb d_Law_up_3 rfl (lv_at hl 0 rfl) ?_
  refine lv_iload_n hx hb d_Law_up_4 rfl (lv_at hl 1 rfl) ?_
  refine lv_iload_n hx hb d_Law_up_5 rfl (lv_at hl 2 rfl) ?_
  refine lv_iload_n hx hb d_Law_up_6 rfl (lv_at hl 3 rfl) ?_
  refine e_xi (e_xrunV hx hb hml hown hts hE hbs hW (F_PC G hG) rfl (c_up l hst G hG d x0 x1 x2) kw_603 kw_604 kw_605 kw_104 kw_602 rfl rfl hd_PC_up ⟨Nat.le_of_ble_eq_true rfl, Nat.le_of_ble_eq_true rfl⟩ (As := [.int (x0), .int (x1), .int (x2)]) (rest := [.int (0), .ref (gad G (9))]) rfl hl.1 rfl (Nat.le_of_ble_eq_true rfl) d_Law_up_7 ⟨Nat.le_of_ble_eq_true rfl, Nat.le_of_ble_eq_true rfl⟩) hW (fun E9 ce q9 d' H locs hp hW g1 g2 g3 => ?_) (fun r d' H locs hp hW => ?_)
  · obtain ⟨hp1, hp2⟩ := hp
    have hp2 := hp2.symm; subst hp2
    rcases xi_up hp1 with rfl
    · skip
      refine vx_catch hown [] ⟨0, 19, 22, 19⟩ [] (htb.trans rfl) (fun z hz => by cases hz) rfl (by decide) (hts _ kw_578) (va_Nw.use rfl (hE.2.2.2.2.2.2.2.1 _ (List.mem_of_getElem? (i := 1) rfl))) g1 g2 g3 ?_
      refine lv_astore (lv' := [(5, .ref q9), (0, .ref (gad G (0))), (1, .int (x0)), (2, .int (x1)), (3, .int (x2)), (4, .ref (gad G (9)))]) hx hb d_Law_up_22 hl (by decide) rfl (fun ls hl => ?_)
      refine lv_iconst (v := 1) hx hb d_Law_up_24 (by decide) ?_
      exact e_iret hx hb hr hlk hW ⟨(by rw [hp1]; rfl), (fun h => by (rw [hp1] at h; cases h)), fun _ => rfl⟩ (Nat.le_of_ble_eq_true rfl) (Nat.le_of_ble_eq_true rfl) d_Law_up_25
  obtain ⟨h0, hp1, hp2⟩ := hp
  have hp1 := hp1.symm; subst hp1
  have hp2 := hp2.symm; subst hp2
  refine lv_if_eq (tgt := 17) hx hb d_Law_up_10 (by decide) (fun c_1 => ?_) (fun c_1 => ?_)
  · skip
    have hbr := c_1
    refine lv_lconst (v := 0) hx hb d_Law_up_17 (by decide) ?_
    refine e_jast hx hb hK hW (F_Out G hG h9) (j := 0) (by decide) (x := hasI (d 4 (cl x0)) (cl x1)) (by rw [hbr]; rfl) rfl d_Law_up_18 (fun H locs hW => ?_)
    refine lv_goto (tgt := 26) hx hb d_Law_up_19 (by decide) ?_
    refine lv_iconst (v := 0) hx hb d_Law_up_26 (by decide) ?_
    exact e_iret hx hb hr hlk hW ⟨(by rw [h0]; rfl), fun _ => rfl, fun h => absurd h0 h⟩ (Nat.le_of_ble_eq_true rfl) (Nat.le_of_ble_eq_true rfl) d_Law_up_27
  · skip
    have hbr := (hasI_01 _ _).resolve_left c_1
    refine lv_lconst (v := 1) hx hb d_Law_up_13 (by decide) ?_
    refine lv_goto (tgt := 18) hx hb d_Law_up_14 (by decide) ?_
    refine e_jast hx hb hK hW (F_Out G hG h9) (j := 0) (by decide) (x := hasI (d 4 (cl x0)) (cl x1)) (by rw [hbr]; rfl) rfl d_Law_up_18 (fun H locs hW => ?_)
    refine lv_goto (tgt := 26) hx hb d_Law_up_19 (by decide) ?_
    refine lv_iconst (v := 0) hx hb d_Law_up_26 (by decide) ?_
    exact e_iret hx hb hr hlk hW ⟨(by rw [h0]; rfl), fun _ => rfl, fun h => absurd h0 h⟩ (Nat.le_of_ble_eq_true rfl) (Nat.le_of_ble_eq_true rfl) d_Law_up_27
set_option maxHeartbeats 4000000 in
set_option maxRecDepth 100000 in
theorem c_L_text (l : Launch) (hst : l.stackTraces = false) (G : GT) (hG : GOK G) (h9 : gad G 9 ≠ 0) (d : DD) (x0 x1 : Int32) (hN : NetOK d) (hMt : ∀ i z, z ≤ 60 → d 5 1 = nI z → i < z → ∀ q, q < 60 → d 8 i = nI q → MsgTx d q) : Met l y_Law_text (.codeWith y_Law_text b_Law_text 5 (some .int) [(0, 10, 13, 19), (0, 10, 17, 40)] :: WS) { frames := 9, cells := 21, slots := 638, locals := 202 } (cPre G [.ref (gad G 0), .int x0, .int x1, .ref (gad G 9)] d) (cQi G (fun r9 u9 => r9 = xcT (txX d x0 x1) ∧ (txX d x0 x1 = none → u9 = up2 (d) 9 0 (rdI (txt (d (cl (d 8 (cl x0)) + 420)) (d (cl (d 8 (cl x0)) + 490))) x1)) ∧ (¬ txX d x0 x1 = none → u9 = d))) 21 638 (gAb G) := by
  refine c_startW (own := R_Law) (by decide +kernel) rfl (Nat.le_of_ble_eq_true rfl) ?_
  intro p e zs zm below meth zc ls htb C hW hl
  obtain ⟨hx, hb, hr, hml, hown, hts, hlk, hE, hbs⟩ := C
  have hK := hE.1
  have hl : lv_has ls 5 [(0, .ref (gad G (0))), (1, .int (x0)), (2, .int (x1)), (3, .ref (gad G (9)))] := hl
  refine lv_aload_n hx hb d_Law_text_0 rfl (lv_at hl 3 rfl) ?_
  refine lv_iconst (v := 0) hx hb d_Law_text_1 (by decide) ?_
  refine lv_aload_n hx hb d_Law_text_2 rfl (lv_at hl 0 rfl) ?_
  refine lv_iload_n hx hb d_Law_text_3 rfl (lv_at hl 1 rfl) ?_
  refine lv_iload_n hx hb d_Law_text_4 rfl (lv_at hl 2 rfl) ?_
  refine e_xi (e_xrunV hx hb hml hown hts hE hbs hW (F_PC G hG) rfl (c_text l hst G hG d x0 x1 hN hMt) kw_607 kw_608 kw_609 kw_104 kw_606 rfl rfl hd_PC_text ⟨Nat.le_of_ble_eq_true rfl, Nat.le_of_ble_eq_true rfl⟩ (As := [.int (x0), .int (x1)]) (rest := [.int (0), .ref (gad G (9))]) rfl hl.1 rfl (Nat.le_of_ble_eq_true rfl) d_Law_text_5 ⟨Nat.le_of_ble_eq_true rfl, Nat.le_of_ble_eq_true rfl⟩) hW (fun E9 ce q9 d' H locs hp hW g1 g2 g3 => ?_) (fun r d' H locs hp hW => ?_)
  · obtain ⟨hp1, hp2⟩ := hp
    have hp2 := hp2.symm; subst hp2
    rcases xi_text hp1 with rfl | rfl
    · skip
      refine vx_catch hown [] ⟨0, 10, 13, 19⟩ [⟨0, 10, 17, 40⟩] (htb.trans rfl) (fun z hz => by cases hz) rfl (by decide) (hts _ kw_578) (va_Nw.use rfl (hE.2.2.2.2.2.2.2.1 _ (List.mem_of_getElem? (i := 1) rfl))) g1 g2 g3 ?_
      refine lv_astore (lv' := [(4, .ref q9), (0, .ref (gad G (0))), (1, .int (x0)), (2, .int (x1)), (3, .ref (gad G (9)))]) hx hb d_Law_text_13 hl (by decide) rfl (fun ls hl => ?_)
      refine lv_iconst (v := 1) hx hb d_Law_text_15 (by decide) ?_
      exact e_iret hx hb hr hlk hW ⟨(by rw [hp1]; rfl), (fun h => by (rw [hp1] at h; cases h)), fun _ => rfl⟩ (Nat.le_of_ble_eq_true rfl) (Nat.le_of_ble_eq_true rfl) d_Law_text_16
    · skip
      refine vx_catch hown [⟨0, 10, 13, 19⟩] ⟨0, 10, 17, 40⟩ [] (htb.trans rfl) (fun z hz => by
        simp only [List.mem_cons, List.not_mem_nil, or_false] at hz
        rcases hz with rfl
        · exact Or.inr ⟨by decide, IAE, hts _ kw_578, hE.2.2.2.2.2.2.2.2.1 _ (List.mem_of_getElem? (i := 4) rfl) _ (List.mem_of_getElem? (i := 1) rfl) (by decide)⟩) rfl (by decide) (hts _ kw_597) (va_Nw.use rfl (hE.2.2.2.2.2.2.2.1 _ (List.mem_of_getElem? (i := 4) rfl))) g1 g2 g3 ?_
      refine lv_astore (lv' := [(4, .ref q9), (0, .ref (gad G (0))), (1, .int (x0)), (2, .int (x1)), (3, .ref (gad G (9)))]) hx hb d_Law_text_17 hl (by decide) rfl (fun ls hl => ?_)
      refine lv_iconst (v := 2) hx hb d_Law_text_19 (by decide) ?_
      exact e_iret hx hb hr hlk hW ⟨(by rw [hp1]; rfl), (fun h => by (rw [hp1] at h; cases h)), fun _ => rfl⟩ (Nat.le_of_ble_eq_true rfl) (Nat.le_of_ble_eq_true rfl) d_Law_text_20
  obtain ⟨h0, hp1, hp2⟩ := hp
  have hp1 := hp1.symm; subst hp1
  have hp2 := hp2.symm; subst hp2
  refine lv_i2l hx hb d_Law_text_8 rfl ?_
  refine e_jast hx hb hK hW (F_Out G hG h9) (j := 0) (by decide) (x := rdI (txt (d (cl (d 8 (cl x0)) + 420)) (d (cl (d 8 (cl x0)) + 490))) x1) rfl rfl d_Law_text_9 (fun H locs hW => ?_)
  refine lv_goto (tgt := 21) hx hb d_Law_text_10 (by decide) ?_
  refine lv_iconst (v := 0) hx hb d_Law_text_21 (by decide) ?_
  exact e_iret hx hb hr hlk hW ⟨(by rw [h0]; rfl), fun _ => rfl, fun h => absurd h0 h⟩ (Nat.le_of_ble_eq_true rfl) (Nat.le_of_ble_eq_true rfl) d_Law_text_22
set_option maxHeartbeats 4000000 in
set_option maxRecDepth 100000 in
theorem c_L_value (l : Launch) (hst : l.stackTraces = false) (G : GT) (hG : GOK G) (h9 : gad G 9 ≠ 0) (d : DD) (x0 x1 : Int32) : Met l y_Law_value (.codeWith y_Law_value b_Law_value 5 (some .int) [(0, 10, 13, 19)] :: WS) { frames := 8, cells := 2, slots := 12, locals := 133 } (cPre G [.ref (gad G 0), .int x0, .int x1, .ref (gad G 9)] d) (cQi G (fun r9 u9 => r9 = xc1 (vlX x0 x1) ∧ (vlX x0 x1 = none → u9 = up2 (d) 9 0 (d (cl x0 + 20) (cl x1))) ∧ (¬ vlX x0 x1 = none → u9 = d))) 2 12 (gAb G) := by
  refine c_startW (own := R_Law) (by decide +kernel) rfl (Nat.le_of_ble_eq_true rfl) ?_
  intro p e zs zm below meth zc ls htb C hW hl
  obtain ⟨hx, hb, hr, hml, hown, hts, hlk, hE, hbs⟩ := C
  have hK := hE.1
  have hl : lv_has ls 5 [(0, .ref (gad G (0))), (1, .int (x0)), (2, .int (x1)), (3, .ref (gad G (9)))] := hl
  refine lv_aload_n hx hb d_Law_value_0 rfl (lv_at hl 3 rfl) ?_
  refine lv_iconst (v := 0) hx hb d_Law_value_1 (by decide) ?_
  refine lv_aload_n hx hb d_Law_value_2 rfl (lv_at hl 0 rfl) ?_
  refine lv_iload_n hx hb d_Law_value_3 rfl (lv_at hl 1 rfl) ?_
  refine lv_iload_n hx hb d_Law_value_4 rfl (lv_at hl 2 rfl) ?_
  refine e_xi (e_xrunV hx hb hml hown hts hE hbs hW (F_PC G hG) rfl (c_value l hst G hG d x0 x1) kw_611 kw_612 kw_613 kw_104 kw_610 rfl rfl hd_PC_value ⟨Nat.le_of_ble_eq_true rfl, Nat.le_of_ble_eq_true rfl⟩ (As := [.int (x0), .int (x1)]) (rest := [.int (0), .ref (gad G (9))]) rfl hl.1 rfl (Nat.le_of_ble_eq_true rfl) d_Law_value_5 ⟨Nat.le_of_ble_eq_true rfl, Nat.le_of_ble_eq_true rfl⟩) hW (fun E9 ce q9 d' H locs hp hW g1 g2 g3 => ?_) (fun r d' H locs hp hW => ?_)
  · obtain ⟨hp1, hp2⟩ := hp
    have hp2 := hp2.symm; subst hp2
    rcases xi_value hp1 with rfl
    · skip
      refine vx_catch hown [] ⟨0, 10, 13, 19⟩ [] (htb.trans rfl) (fun z hz => by cases hz) rfl (by decide) (hts _ kw_578) (va_Nw.use rfl (hE.2.2.2.2.2.2.2.1 _ (List.mem_of_getElem? (i := 1) rfl))) g1 g2 g3 ?_
      refine lv_astore (lv' := [(4, .ref q9), (0, .ref (gad G (0))), (1, .int (x0)), (2, .int (x1)), (3, .ref (gad G (9)))]) hx hb d_Law_value_13 hl (by decide) rfl (fun ls hl => ?_)
      refine lv_iconst (v := 1) hx hb d_Law_value_15 (by decide) ?_
      exact e_iret hx hb hr hlk hW ⟨(by rw [hp1]; rfl), (fun h => by (rw [hp1] at h; cases h)), fun _ => rfl⟩ (Nat.le_of_ble_eq_true rfl) (Nat.le_of_ble_eq_true rfl) d_Law_value_16
  obtain ⟨h0, hp1, hp2⟩ := hp
  have hp1 := hp1.symm; subst hp1
  have hp2 := hp2.symm; subst hp2
  refine lv_i2l hx hb d_Law_value_8 rfl ?_
  refine e_jast hx hb hK hW (F_Out G hG h9) (j := 0) (by decide) (x := d (cl x0 + 20) (cl x1)) rfl rfl d_Law_value_9 (fun H locs hW => ?_)
  refine lv_goto (tgt := 17) hx hb d_Law_value_10 (by decide) ?_
  refine lv_iconst (v := 0) hx hb d_Law_value_17 (by decide) ?_
  exact e_iret hx hb hr hlk hW ⟨(by rw [h0]; rfl), fun _ => rfl, fun h => absurd h0 h⟩ (Nat.le_of_ble_eq_true rfl) (Nat.le_of_ble_eq_true rfl) d_Law_value_18
set_option maxHeartbeats 4000000 in
set_option maxRecDepth 100000 in
theorem c_L_lock (l : Launch) (hst : l.stackTraces = false) (G : GT) (hG : GOK G) (h9 : gad G 9 ≠ 0) (d : DD) (x0 x1 : Int32) : Met l y_Law_lock (.codeWith y_Law_lock b_Law_lock 5 (some .int) [(0, 10, 13, 19)] :: WS) { frames := 8, cells := 2, slots := 12, locals := 133 } (cPre G [.ref (gad G 0), .int x0, .int x1, .ref (gad G 9)] d) (cQi G (fun r9 u9 => r9 = xc1 (vlX x0 x1) ∧ (vlX x0 x1 = none → u9 = up2 (d) 9 0 (d (cl x0 + 30) (cl x1))) ∧ (¬ vlX x0 x1 = none → u9 = d))) 2 12 (gAb G) := by
  refine c_startW (own := R_Law) (by decide +kernel) rfl (Nat.le_of_ble_eq_true rfl) ?_
  intro p e zs zm below meth zc ls htb C hW hl
  obtain ⟨hx, hb, hr, hml, hown, hts, hlk, hE, hbs⟩ := C
  have hK := hE.1
  have hl : lv_has ls 5 [(0, .ref (gad G (0))), (1, .int (x0)), (2, .int (x1)), (3, .ref (gad G (9)))] := hl
  refine lv_aload_n hx hb d_Law_lock_0 rfl (lv_at hl 3 rfl) ?_
  refine lv_iconst (v := 0) hx hb d_Law_lock_1 (by decide) ?_
  refine lv_aload_n hx hb d_Law_lock_2 rfl (lv_at hl 0 rfl) ?_
  refine lv_iload_n hx hb d_Law_lock_3 rfl (lv_at hl 1 rfl) ?_
  refine lv_iload_n hx hb d_Law_lock_4 rfl (lv_at hl 2 rfl) ?_
  refine e_xi (e_xrunV hx hb hml hown hts hE hbs hW (F_PC G hG) rfl (c_lock l hst G hG d x0 x1) kw_615 kw_616 kw_617 kw_104 kw_614 rfl rfl hd_PC_lock ⟨Nat.le_of_ble_eq_true rfl, Nat.le_of_ble_eq_true rfl⟩ (As := [.int (x0), .int (x1)]) (rest := [.int (0), .ref (gad G (9))]) rfl hl.1 rfl (Nat.le_of_ble_eq_true rfl) d_Law_lock_5 ⟨Nat.le_of_ble_eq_true rfl, Nat.le_of_ble_eq_true rfl⟩) hW (fun E9 ce q9 d' H locs hp hW g1 g2 g3 => ?_) (fun r d' H locs hp hW => ?_)
  · obtain ⟨hp1, hp2⟩ := hp
    have hp2 := hp2.symm; subst hp2
    rcases xi_value hp1 with rfl
    · skip
      refine vx_catch hown [] ⟨0, 10, 13, 19⟩ [] (htb.trans rfl) (fun z hz => by cases hz) rfl (by decide) (hts _ kw_578) (va_Nw.use rfl (hE.2.2.2.2.2.2.2.1 _ (List.mem_of_getElem? (i := 1) rfl))) g1 g2 g3 ?_
      refine lv_astore (lv' := [(4, .ref q9), (0, .ref (gad G (0))), (1, .int (x0)), (2, .int (x1)), (3, .ref (gad G (9)))]) hx hb d_Law_lock_13 hl (by decide) rfl (fun ls hl => ?_)
      refine lv_iconst (v := 1) hx hb d_Law_lock_15 (by decide) ?_
      exact e_iret hx hb hr hlk hW ⟨(by rw [hp1]; rfl), (fun h => by (rw [hp1] at h; cases h)), fun _ => rfl⟩ (Nat.le_of_ble_eq_true rfl) (Nat.le_of_ble_eq_true rfl) d_Law_lock_16
  obtain ⟨h0, hp1, hp2⟩ := hp
  have hp1 := hp1.symm; subst hp1
  have hp2 := hp2.symm; subst hp2
  refine lv_i2l hx hb d_Law_lock_8 rfl ?_
  refine e_jast hx hb hK hW (F_Out G hG h9) (j := 0) (by decide) (x := d (cl x0 + 30) (cl x1)) rfl rfl d_Law_lock_9 (fun H locs hW => ?_)
  refine lv_goto (tgt := 17) hx hb d_Law_lock_10 (by decide) ?_
  refine lv_iconst (v := 0) hx hb d_Law_lock_17 (by decide) ?_
  exact e_iret hx hb hr hlk hW ⟨(by rw [h0]; rfl), fun _ => rfl, fun h => absurd h0 h⟩ (Nat.le_of_ble_eq_true rfl) (Nat.le_of_ble_eq_true rfl) d_Law_lock_18
set_option maxHeartbeats 4000000 in
set_option maxRecDepth 100000 in
theorem c_L_state (l : Launch) (hst : l.stackTraces = false) (G : GT) (hG : GOK G) (h9 : gad G 9 ≠ 0) (d : DD) (x0 x1 : Int32) : Met l y_Law_state (.codeWith y_Law_state b_Law_state 5 (some .int) [(0, 10, 13, 19), (0, 10, 17, 21)] :: WS) { frames := 8, cells := 3, slots := 18, locals := 133 } (cPre G [.ref (gad G 0), .int x0, .int x1, .ref (gad G 9)] d) (cQi G (fun r9 u9 => r9 = xc4 (stX d x0 x1) ∧ (stX d x0 x1 = none → u9 = up2 (d) 9 0 (d (cl x1 + 40) (cl x0))) ∧ (¬ stX d x0 x1 = none → u9 = d))) 3 18 (gAb G) := by
  refine c_startW (own := R_Law) (by decide +kernel) rfl (Nat.le_of_ble_eq_true rfl) ?_
  intro p e zs zm below meth zc ls htb C hW hl
  obtain ⟨hx, hb, hr, hml, hown, hts, hlk, hE, hbs⟩ := C
  have hK := hE.1
  have hl : lv_has ls 5 [(0, .ref (gad G (0))), (1, .int (x0)), (2, .int (x1)), (3, .ref (gad G (9)))] := hl
  refine lv_aload_n hx hb d_Law_state_0 rfl (lv_at hl 3 rfl) ?_
  refine lv_iconst (v := 0) hx hb d_Law_state_1 (by decide) ?_
  refine lv_aload_n hx hb d_Law_state_2 rfl (lv_at hl 0 rfl) ?_
  refine lv_iload_n hx hb d_Law_state_3 rfl (lv_at hl 1 rfl) ?_
  refine lv_iload_n hx hb d_Law_state_4 rfl (lv_at hl 2 rfl) ?_
  refine e_xi (e_xrunV hx hb hml hown hts hE hbs hW (F_PC G hG) rfl (c_state l hst G hG d x0 x1) kw_619 kw_620 kw_621 kw_104 kw_618 rfl rfl hd_PC_state ⟨Nat.le_of_ble_eq_true rfl, Nat.le_of_ble_eq_true rfl⟩ (As := [.int (x0), .int (x1)]) (rest := [.int (0), .ref (gad G (9))]) rfl hl.1 rfl (Nat.le_of_ble_eq_true rfl) d_Law_state_5 ⟨Nat.le_of_ble_eq_true rfl, Nat.le_of_ble_eq_true rfl⟩) hW (fun E9 ce q9 d' H locs hp hW g1 g2 g3 => ?_) (fun r d' H locs hp hW => ?_)
  · obtain ⟨hp1, hp2⟩ := hp
    have hp2 := hp2.symm; subst hp2
    rcases xi_state hp1 with rfl | rfl
    · skip
      refine vx_catch hown [] ⟨0, 10, 13, 19⟩ [⟨0, 10, 17, 21⟩] (htb.trans rfl) (fun z hz => by cases hz) rfl (by decide) (hts _ kw_578) (va_Nw.use rfl (hE.2.2.2.2.2.2.2.1 _ (List.mem_of_getElem? (i := 1) rfl))) g1 g2 g3 ?_
      refine lv_astore (lv' := [(4, .ref q9), (0, .ref (gad G (0))), (1, .int (x0)), (2, .int (x1)), (3, .ref (gad G (9)))]) hx hb d_Law_state_13 hl (by decide) rfl (fun ls hl => ?_)
      refine lv_iconst (v := 1) hx hb d_Law_state_15 (by decide) ?_
      exact e_iret hx hb hr hlk hW ⟨(by rw [hp1]; rfl), (fun h => by (rw [hp1] at h; cases h)), fun _ => rfl⟩ (Nat.le_of_ble_eq_true rfl) (Nat.le_of_ble_eq_true rfl) d_Law_state_16
    · skip
      refine vx_catch hown [⟨0, 10, 13, 19⟩] ⟨0, 10, 17, 21⟩ [] (htb.trans rfl) (fun z hz => by
        simp only [List.mem_cons, List.not_mem_nil, or_false] at hz
        rcases hz with rfl
        · exact Or.inr ⟨by decide, IAE, hts _ kw_578, hE.2.2.2.2.2.2.2.2.1 _ (List.mem_of_getElem? (i := 2) rfl) _ (List.mem_of_getElem? (i := 1) rfl) (by decide)⟩) rfl (by decide) (hts _ kw_579) (va_Nw.use rfl (hE.2.2.2.2.2.2.2.1 _ (List.mem_of_getElem? (i := 2) rfl))) g1 g2 g3 ?_
      refine lv_astore (lv' := [(4, .ref q9), (0, .ref (gad G (0))), (1, .int (x0)), (2, .int (x1)), (3, .ref (gad G (9)))]) hx hb d_Law_state_17 hl (by decide) rfl (fun ls hl => ?_)
      refine lv_iconst (v := 2) hx hb d_Law_state_19 (by decide) ?_
      exact e_iret hx hb hr hlk hW ⟨(by rw [hp1]; rfl), (fun h => by (rw [hp1] at h; cases h)), fun _ => rfl⟩ (Nat.le_of_ble_eq_true rfl) (Nat.le_of_ble_eq_true rfl) d_Law_state_20
  obtain ⟨h0, hp1, hp2⟩ := hp
  have hp1 := hp1.symm; subst hp1
  have hp2 := hp2.symm; subst hp2
  refine lv_i2l hx hb d_Law_state_8 rfl ?_
  refine e_jast hx hb hK hW (F_Out G hG h9) (j := 0) (by decide) (x := d (cl x1 + 40) (cl x0)) rfl rfl d_Law_state_9 (fun H locs hW => ?_)
  refine lv_goto (tgt := 21) hx hb d_Law_state_10 (by decide) ?_
  refine lv_iconst (v := 0) hx hb d_Law_state_21 (by decide) ?_
  exact e_iret hx hb hr hlk hW ⟨(by rw [h0]; rfl), fun _ => rfl, fun h => absurd h0 h⟩ (Nat.le_of_ble_eq_true rfl) (Nat.le_of_ble_eq_true rfl) d_Law_state_22
set_option maxHeartbeats 4000000 in
set_option maxRecDepth 100000 in
theorem c_L_outcome (l : Launch) (hst : l.stackTraces = false) (G : GT) (hG : GOK G) (h9 : gad G 9 ≠ 0) (d : DD) (x0 x1 : Int32) : Met l y_Law_outcome (.codeWith y_Law_outcome b_Law_outcome 5 (some .int) [(0, 10, 13, 19), (0, 10, 17, 21), (0, 10, 21, 13)] :: WS) { frames := 8, cells := 4, slots := 24, locals := 134 } (cPre G [.ref (gad G 0), .int x0, .int x1, .ref (gad G 9)] d) (cQi G (fun r9 u9 => r9 = xc4 (ocX d x0 x1) ∧ (ocX d x0 x1 = none → u9 = up2 (d) 9 0 (ocI (d (cl x0 * 8 + cl x1 + 200) 2))) ∧ (¬ ocX d x0 x1 = none → u9 = d))) 4 24 (gAb G) := by
  refine c_startW (own := R_Law) (by decide +kernel) rfl (Nat.le_of_ble_eq_true rfl) ?_
  intro p e zs zm below meth zc ls htb C hW hl
  obtain ⟨hx, hb, hr, hml, hown, hts, hlk, hE, hbs⟩ := C
  have hK := hE.1
  have hl : lv_has ls 5 [(0, .ref (gad G (0))), (1, .int (x0)), (2, .int (x1)), (3, .ref (gad G (9)))] := hl
  refine lv_aload_n hx hb d_Law_outcome_0 rfl (lv_at hl 3 rfl) ?_
  refine lv_iconst (v := 0) hx hb d_Law_outcome_1 (by decide) ?_
  refine lv_aload_n hx hb d_Law_outcome_2 rfl (lv_at hl 0 rfl) ?_
  refine lv_iload_n hx hb d_Law_outcome_3 rfl (lv_at hl 1 rfl) ?_
  refine lv_iload_n hx hb d_Law_outcome_4 rfl (lv_at hl 2 rfl) ?_
  refine e_xi (e_xrunV hx hb hml hown hts hE hbs hW (F_PC G hG) rfl (c_outcome l hst G hG d x0 x1) kw_623 kw_624 kw_625 kw_104 kw_622 rfl rfl hd_PC_outcome ⟨Nat.le_of_ble_eq_true rfl, Nat.le_of_ble_eq_true rfl⟩ (As := [.int (x0), .int (x1)]) (rest := [.int (0), .ref (gad G (9))]) rfl hl.1 rfl (Nat.le_of_ble_eq_true rfl) d_Law_outcome_5 ⟨Nat.le_of_ble_eq_true rfl, Nat.le_of_ble_eq_true rfl⟩) hW (fun E9 ce q9 d' H locs hp hW g1 g2 g3 => ?_) (fun r d' H locs hp hW => ?_)
  · obtain ⟨hp1, hp2⟩ := hp
    have hp2 := hp2.symm; subst hp2
    rcases xi_outcome hp1 with rfl | rfl | rfl
    · skip
      refine vx_catch hown [] ⟨0, 10, 13, 19⟩ [⟨0, 10, 17, 21⟩, ⟨0, 10, 21, 13⟩] (htb.trans rfl) (fun z hz => by cases hz) rfl (by decide) (hts _ kw_578) (va_Nw.use rfl (hE.2.2.2.2.2.2.2.1 _ (List.mem_of_getElem? (i := 1) rfl))) g1 g2 g3 ?_
      refine lv_astore (lv' := [(4, .ref q9), (0, .ref (gad G (0))), (1, .int (x0)), (2, .int (x1)), (3, .ref (gad G (9)))]) hx hb d_Law_outcome_13 hl (by decide) rfl (fun ls hl => ?_)
      refine lv_iconst (v := 1) hx hb d_Law_outcome_15 (by decide) ?_
      exact e_iret hx hb hr hlk hW ⟨(by rw [hp1]; rfl), (fun h => by (rw [hp1] at h; cases h)), fun _ => rfl⟩ (Nat.le_of_ble_eq_true rfl) (Nat.le_of_ble_eq_true rfl) d_Law_outcome_16
    · skip
      refine vx_catch hown [⟨0, 10, 13, 19⟩] ⟨0, 10, 17, 21⟩ [⟨0, 10, 21, 13⟩] (htb.trans rfl) (fun z hz => by
        simp only [List.mem_cons, List.not_mem_nil, or_false] at hz
        rcases hz with rfl
        · exact Or.inr ⟨by decide, IAE, hts _ kw_578, hE.2.2.2.2.2.2.2.2.1 _ (List.mem_of_getElem? (i := 2) rfl) _ (List.mem_of_getElem? (i := 1) rfl) (by decide)⟩) rfl (by decide) (hts _ kw_579) (va_Nw.use rfl (hE.2.2.2.2.2.2.2.1 _ (List.mem_of_getElem? (i := 2) rfl))) g1 g2 g3 ?_
      refine lv_astore (lv' := [(4, .ref q9), (0, .ref (gad G (0))), (1, .int (x0)), (2, .int (x1)), (3, .ref (gad G (9)))]) hx hb d_Law_outcome_17 hl (by decide) rfl (fun ls hl => ?_)
      refine lv_iconst (v := 2) hx hb d_Law_outcome_19 (by decide) ?_
      exact e_iret hx hb hr hlk hW ⟨(by rw [hp1]; rfl), (fun h => by (rw [hp1] at h; cases h)), fun _ => rfl⟩ (Nat.le_of_ble_eq_true rfl) (Nat.le_of_ble_eq_true rfl) d_Law_outcome_20
    · skip
      refine vx_catch hown [⟨0, 10, 13, 19⟩, ⟨0, 10, 17, 21⟩] ⟨0, 10, 21, 13⟩ [] (htb.trans rfl) (fun z hz => by
        simp only [List.mem_cons, List.not_mem_nil, or_false] at hz
        rcases hz with rfl | rfl
        · exact Or.inr ⟨by decide, IAE, hts _ kw_578, hE.2.2.2.2.2.2.2.2.1 _ (List.mem_of_getElem? (i := 0) rfl) _ (List.mem_of_getElem? (i := 1) rfl) (by decide)⟩
        · exact Or.inr ⟨by decide, NSE, hts _ kw_579, hE.2.2.2.2.2.2.2.2.1 _ (List.mem_of_getElem? (i := 0) rfl) _ (List.mem_of_getElem? (i := 2) rfl) (by decide)⟩) rfl (by decide) (hts _ kw_573) (va_Nw.use rfl (hE.2.2.2.2.2.2.2.1 _ (List.mem_of_getElem? (i := 0) rfl))) g1 g2 g3 ?_
      refine lv_astore (lv' := [(4, .ref q9), (0, .ref (gad G (0))), (1, .int (x0)), (2, .int (x1)), (3, .ref (gad G (9)))]) hx hb d_Law_outcome_21 hl (by decide) rfl (fun ls hl => ?_)
      refine lv_iconst (v := 3) hx hb d_Law_outcome_23 (by decide) ?_
      exact e_iret hx hb hr hlk hW ⟨(by rw [hp1]; rfl), (fun h => by (rw [hp1] at h; cases h)), fun _ => rfl⟩ (Nat.le_of_ble_eq_true rfl) (Nat.le_of_ble_eq_true rfl) d_Law_outcome_24
  obtain ⟨h0, hp1, hp2⟩ := hp
  have hp1 := hp1.symm; subst hp1
  have hp2 := hp2.symm; subst hp2
  refine lv_i2l hx hb d_Law_outcome_8 rfl ?_
  refine e_jast hx hb hK hW (F_Out G hG h9) (j := 0) (by decide) (x := ocI (d (cl x0 * 8 + cl x1 + 200) 2)) rfl rfl d_Law_outcome_9 (fun H locs hW => ?_)
  refine lv_goto (tgt := 25) hx hb d_Law_outcome_10 (by decide) ?_
  refine lv_iconst (v := 0) hx hb d_Law_outcome_25 (by decide) ?_
  exact e_iret hx hb hr hlk hW ⟨(by rw [h0]; rfl), fun _ => rfl, fun h => absurd h0 h⟩ (Nat.le_of_ble_eq_true rfl) (Nat.le_of_ble_eq_true rfl) d_Law_outcome_26
set_option maxHeartbeats 4000000 in
set_option maxRecDepth 100000 in
theorem c_L_taken (l : Launch) (hst : l.stackTraces = false) (G : GT) (hG : GOK G) (h9 : gad G 9 ≠ 0) (d : DD) (x0 x1 x2 x3 : Int32) : Met l y_Law_taken (.codeWith y_Law_taken b_Law_taken 7 (some .int) [(0, 14, 17, 19), (0, 14, 21, 21)] :: WS) { frames := 8, cells := 4, slots := 24, locals := 136 } (cPre G [.ref (gad G 0), .int x0, .int x1, .int x2, .int x3, .ref (gad G 9)] d) (cQi G (fun r9 u9 => r9 = xc4 (tnX (gn G) d x0 x1 x2) ∧ (tnX (gn G) d x0 x1 x2 = none → u9 = up2 (d) 9 0 (tnI d (cl x0) (cl x1) (cl x2) x3)) ∧ (¬ tnX (gn G) d x0 x1 x2 = none → u9 = d))) 4 24 (gAb G) := by
  refine c_startW (own := R_Law) (by decide +kernel) rfl (Nat.le_of_ble_eq_true rfl) ?_
  intro p e zs zm below meth zc ls htb C hW hl
  obtain ⟨hx, hb, hr, hml, hown, hts, hlk, hE, hbs⟩ := C
  have hK := hE.1
  have hl : lv_has ls 7 [(0, .ref (gad G (0))), (1, .int (x0)), (2, .int (x1)), (3, .int (x2)), (4, .int (x3)), (5, .ref (gad G (9)))] := hl
  refine lv_aload hx hb d_Law_taken_0 (lv_at hl 5 rfl) ?_
  refine lv_iconst (v := 0) hx hb d_Law_taken_2 (by decide) ?_
  refine lv_aload_n hx hb d_Law_taken_3 rfl (lv_at hl 0 rfl) ?_
  refine lv_iload_n hx hb d_Law_taken_4 rfl (lv_at hl 1 rfl) ?_
  refine lv_iload_n hx hb d_Law_taken_5 rfl (lv_at hl 2 rfl) ?_
  refine lv_iload_n hx hb d_Law_taken_6 rfl (lv_at hl 3 rfl) ?_
  refine lv_iload hx hb d_Law_taken_7 (lv_at hl 4 rfl) ?_
  refine e_xi (e_xrunV hx hb hml hown hts hE hbs hW (F_PC G hG) rfl (c_taken l hst G hG d x0 x1 x2 x3) kw_627 kw_628 kw_629 kw_104 kw_626 rfl rfl hd_PC_taken ⟨Nat.le_of_ble_eq_true rfl, Nat.le_of_ble_eq_true rfl⟩ (As := [.int (x0), .int (x1), .int (x2), .int (x3)]) (rest := [.int (0), .ref (gad G (9))]) rfl hl.1 rfl (Nat.le_of_ble_eq_true rfl) d_Law_taken_9 ⟨Nat.le_of_ble_eq_true rfl, Nat.le_of_ble_eq_true rfl⟩) hW (fun E9 ce q9 d' H locs hp hW g1 g2 g3 => ?_) (fun r d' H locs hp hW => ?_)
  · obtain ⟨hp1, hp2⟩ := hp
    have hp2 := hp2.symm; subst hp2
    rcases xi_taken hp1 with rfl | rfl
    · skip
      refine vx_catch hown [] ⟨0, 14, 17, 19⟩ [⟨0, 14, 21, 21⟩] (htb.trans rfl) (fun z hz => by cases hz) rfl (by decide) (hts _ kw_578) (va_Nw.use rfl (hE.2.2.2.2.2.2.2.1 _ (List.mem_of_getElem? (i := 1) rfl))) g1 g2 g3 ?_
      refine lv_astore (lv' := [(6, .ref q9), (0, .ref (gad G (0))), (1, .int (x0)), (2, .int (x1)), (3, .int (x2)), (4, .int (x3)), (5, .ref (gad G (9)))]) hx hb d_Law_taken_17 hl (by decide) rfl (fun ls hl => ?_)
      refine lv_iconst (v := 1) hx hb d_Law_taken_19 (by decide) ?_
      exact e_iret hx hb hr hlk hW ⟨(by rw [hp1]; rfl), (fun h => by (rw [hp1] at h; cases h)), fun _ => rfl⟩ (Nat.le_of_ble_eq_true rfl) (Nat.le_of_ble_eq_true rfl) d_Law_taken_20
    · skip
      refine vx_catch hown [⟨0, 14, 17, 19⟩] ⟨0, 14, 21, 21⟩ [] (htb.trans rfl) (fun z hz => by
        simp only [List.mem_cons, List.not_mem_nil, or_false] at hz
        rcases hz with rfl
        · exact Or.inr ⟨by decide, IAE, hts _ kw_578, hE.2.2.2.2.2.2.2.2.1 _ (List.mem_of_getElem? (i := 2) rfl) _ (List.mem_of_getElem? (i := 1) rfl) (by decide)⟩) rfl (by decide) (hts _ kw_579) (va_Nw.use rfl (hE.2.2.2.2.2.2.2.1 _ (List.mem_of_getElem? (i := 2) rfl))) g1 g2 g3 ?_
      refine lv_astore (lv' := [(6, .ref q9), (0, .ref (gad G (0))), (1, .int (x0)), (2, .int (x1)), (3, .int (x2)), (4, .int (x3)), (5, .ref (gad G (9)))]) hx hb d_Law_taken_21 hl (by decide) rfl (fun ls hl => ?_)
      refine lv_iconst (v := 2) hx hb d_Law_taken_23 (by decide) ?_
      exact e_iret hx hb hr hlk hW ⟨(by rw [hp1]; rfl), (fun h => by (rw [hp1] at h; cases h)), fun _ => rfl⟩ (Nat.le_of_ble_eq_true rfl) (Nat.le_of_ble_eq_true rfl) d_Law_taken_24
  obtain ⟨h0, hp1, hp2⟩ := hp
  have hp1 := hp1.symm; subst hp1
  have hp2 := hp2.symm; subst hp2
  refine lv_i2l hx hb d_Law_taken_12 rfl ?_
  refine e_jast hx hb hK hW (F_Out G hG h9) (j := 0) (by decide) (x := tnI d (cl x0) (cl x1) (cl x2) x3) rfl rfl d_Law_taken_13 (fun H locs hW => ?_)
  refine lv_goto (tgt := 25) hx hb d_Law_taken_14 (by decide) ?_
  refine lv_iconst (v := 0) hx hb d_Law_taken_25 (by decide) ?_
  exact e_iret hx hb hr hlk hW ⟨(by rw [h0]; rfl), fun _ => rfl, fun h => absurd h0 h⟩ (Nat.le_of_ble_eq_true rfl) (Nat.le_of_ble_eq_true rfl) d_Law_taken_26
set_option maxHeartbeats 4000000 in
set_option maxRecDepth 100000 in
theorem c_L_count (l : Launch) (hst : l.stackTraces = false) (G : GT) (hG : GOK G) (h9 : gad G 9 ≠ 0) (d : DD) (x0 : Int32) : Met l y_Law_count (.codeWith y_Law_count b_Law_count 4 (some .int) [(0, 9, 12, 19)] :: WS) { frames := 8, cells := 1, slots := 6, locals := 132 } (cPre G [.ref (gad G 0), .int x0, .ref (gad G 9)] d) (cQi G (fun r9 u9 => r9 = xc1 (rgX x0 7) ∧ (rgX x0 7 = none → u9 = up2 (d) 9 0 (ctI d (gn G) x0)) ∧ (¬ rgX x0 7 = none → u9 = d))) 1 6 (gAb G) := by
  refine c_startW (own := R_Law) (by decide +kernel) rfl (Nat.le_of_ble_eq_true rfl) ?_
  intro p e zs zm below meth zc ls htb C hW hl
  obtain ⟨hx, hb, hr, hml, hown, hts, hlk, hE, hbs⟩ := C
  have hK := hE.1
  have hl : lv_has ls 4 [(0, .ref (gad G (0))), (1, .int (x0)), (2, .ref (gad G (9)))] := hl
  refine lv_aload_n hx hb d_Law_count_0 rfl (lv_at hl 2 rfl) ?_
  refine lv_iconst (v := 0) hx hb d_Law_count_1 (by decide) ?_
  refine lv_aload_n hx hb d_Law_count_2 rfl (lv_at hl 0 rfl) ?_
  refine lv_iload_n hx hb d_Law_count_3 rfl (lv_at hl 1 rfl) ?_
  refine e_xi (e_xrunV hx hb hml hown hts hE hbs hW (F_PC G hG) rfl (c_count l hst G hG d x0) kw_631 kw_632 kw_633 kw_104 kw_630 rfl rfl hd_PC_count ⟨Nat.le_of_ble_eq_true rfl, Nat.le_of_ble_eq_true rfl⟩ (As := [.int (x0)]) (rest := [.int (0), .ref (gad G (9))]) rfl hl.1 rfl (Nat.le_of_ble_eq_true rfl) d_Law_count_4 ⟨Nat.le_of_ble_eq_true rfl, Nat.le_of_ble_eq_true rfl⟩) hW (fun E9 ce q9 d' H locs hp hW g1 g2 g3 => ?_) (fun r d' H locs hp hW => ?_)
  · obtain ⟨hp1, hp2⟩ := hp
    have hp2 := hp2.symm; subst hp2
    rcases rg_E hp1 with rfl
    · skip
      refine vx_catch hown [] ⟨0, 9, 12, 19⟩ [] (htb.trans rfl) (fun z hz => by cases hz) rfl (by decide) (hts _ kw_578) (va_Nw.use rfl (hE.2.2.2.2.2.2.2.1 _ (List.mem_of_getElem? (i := 1) rfl))) g1 g2 g3 ?_
      refine lv_astore_n (lv' := [(3, .ref q9), (0, .ref (gad G (0))), (1, .int (x0)), (2, .ref (gad G (9)))]) hx hb d_Law_count_12 rfl hl (by decide) rfl (fun ls hl => ?_)
      refine lv_iconst (v := 1) hx hb d_Law_count_13 (by decide) ?_
      exact e_iret hx hb hr hlk hW ⟨(by rw [hp1]; rfl), (fun h => by (rw [hp1] at h; cases h)), fun _ => rfl⟩ (Nat.le_of_ble_eq_true rfl) (Nat.le_of_ble_eq_true rfl) d_Law_count_14
  obtain ⟨h0, hp1, hp2⟩ := hp
  have hp1 := hp1.symm; subst hp1
  have hp2 := hp2.symm; subst hp2
  refine lv_i2l hx hb d_Law_count_7 rfl ?_
  refine e_jast hx hb hK hW (F_Out G hG h9) (j := 0) (by decide) (x := ctI d (gn G) x0) rfl rfl d_Law_count_8 (fun H locs hW => ?_)
  refine lv_goto (tgt := 15) hx hb d_Law_count_9 (by decide) ?_
  refine lv_iconst (v := 0) hx hb d_Law_count_15 (by decide) ?_
  exact e_iret hx hb hr hlk hW ⟨(by rw [h0]; rfl), fun _ => rfl, fun h => absurd h0 h⟩ (Nat.le_of_ble_eq_true rfl) (Nat.le_of_ble_eq_true rfl) d_Law_count_16
