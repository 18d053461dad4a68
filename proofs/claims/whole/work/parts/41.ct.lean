theorem kw_531 : .methodLink R_Msg 3 Lib.objectInit ∈ WS := List.mem_filter.mpr ⟨List.mem_append_right _ (List.mem_of_getElem? (i := 51) (by decide +kernel)), by decide +kernel⟩
theorem kw_532 : .arrayClass .int ∈ WS := List.mem_filter.mpr ⟨List.mem_append_right _ (List.mem_of_getElem? (i := 85) (by decide +kernel)), by decide +kernel⟩
theorem kw_533 : .methodLink R_Store 3 Lib.objectInit ∈ WS := List.mem_filter.mpr ⟨List.mem_append_right _ (List.mem_of_getElem? (i := 111) (by decide +kernel)), by decide +kernel⟩
theorem kw_534 : .classLink R_Store 24 "[[I" ∈ WS := List.mem_filter.mpr ⟨List.mem_append_right _ (List.mem_of_getElem? (i := 112) (by decide +kernel)), by decide +kernel⟩
theorem kw_535 : .methodLink R_Store 29 y_Arrays_fill ∈ WS := List.mem_filter.mpr ⟨List.mem_append_right _ (List.mem_of_getElem? (i := 114) (by decide +kernel)), by decide +kernel⟩
theorem kw_536 : .methodLink R_Acc 3 Lib.objectInit ∈ WS := List.mem_filter.mpr ⟨List.mem_append_right _ (List.mem_of_getElem? (i := 141) (by decide +kernel)), by decide +kernel⟩
theorem kw_537 : .classLink R_Acc 9 "[[I" ∈ WS := List.mem_filter.mpr ⟨List.mem_append_right _ (List.mem_of_getElem? (i := 142) (by decide +kernel)), by decide +kernel⟩
theorem kw_538 : .methodLink R_Acc 19 y_Arrays_fill ∈ WS := List.mem_filter.mpr ⟨List.mem_append_right _ (List.mem_of_getElem? (i := 143) (by decide +kernel)), by decide +kernel⟩
theorem kw_539 : .methodLink R_Led 3 Lib.objectInit ∈ WS := List.mem_filter.mpr ⟨List.mem_append_right _ (List.mem_of_getElem? (i := 157) (by decide +kernel)), by decide +kernel⟩
theorem kw_540 : .arrayClass .boolean ∈ WS := List.mem_filter.mpr ⟨List.mem_append_right _ (List.mem_of_getElem? (i := 136) (by decide +kernel)), by decide +kernel⟩
theorem kw_541 : .classLink R_Led 26 "[[I" ∈ WS := List.mem_filter.mpr ⟨List.mem_append_right _ (List.mem_of_getElem? (i := 158) (by decide +kernel)), by decide +kernel⟩
theorem df_Msg : ∀ j, j < 8 → defaultValue (t_Msg j) = vp_V [.int (0), .int (0), .int (0), .int (0), .int (0), .int (0), .int (0), .null] j := by
  intro j hj
  match j, hj with
  | 0, _ => rfl
  | 1, _ => rfl
  | 2, _ => rfl
  | 3, _ => rfl
  | 4, _ => rfl
  | 5, _ => rfl
  | 6, _ => rfl
  | 7, _ => rfl
theorem df_Store : ∀ j, j < 5 → defaultValue (t_Store j) = vp_V [.null, .null, .null, .null, .null] j := by
  intro j hj
  match j, hj with
  | 0, _ => rfl
  | 1, _ => rfl
  | 2, _ => rfl
  | 3, _ => rfl
  | 4, _ => rfl
theorem df_Acc : ∀ j, j < 2 → defaultValue (t_Acc j) = vp_V [.null, .null] j := by
  intro j hj
  match j, hj with
  | 0, _ => rfl
  | 1, _ => rfl
theorem df_Led : ∀ j, j < 6 → defaultValue (t_Led j) = vp_V [.int (0), .int (0), .int (0), .null, .null, .null] j := by
  intro j hj
  match j, hj with
  | 0, _ => rfl
  | 1, _ => rfl
  | 2, _ => rfl
  | 3, _ => rfl
  | 4, _ => rfl
  | 5, _ => rfl
theorem df_Net : ∀ j, j < 5 → defaultValue (t_Net j) = vp_V [.null, .int (0), .int (0), .null, .null] j := by
  intro j hj
  match j, hj with
  | 0, _ => rfl
  | 1, _ => rfl
  | 2, _ => rfl
  | 3, _ => rfl
  | 4, _ => rfl
theorem df_PC : ∀ j, j < 9 → defaultValue (t_PC j) = vp_V [.null, .null, .null, .int (0), .null, .null, .null, .null, .int (0)] j := by
  intro j hj
  match j, hj with
  | 0, _ => rfl
  | 1, _ => rfl
  | 2, _ => rfl
  | 3, _ => rfl
  | 4, _ => rfl
  | 5, _ => rfl
  | 6, _ => rfl
  | 7, _ => rfl
  | 8, _ => rfl
theorem df_Mo : ∀ j, j < 27 → defaultValue (t_Mo j) = vp_V [.int (0), .int (0), .null, .null, .null, .null, .null, .int (0), .null, .null, .null, .null, .null, .null, .null, .null, .null, .null, .null, .null, .null, .null, .null, .null, .null, .int (0), .int (0)] j := by
  intro j hj
  have h : j = 0 ∨ j = 1 ∨ j = 2 ∨ j = 3 ∨ j = 4 ∨ j = 5 ∨ j = 6 ∨ j = 7 ∨ j = 8 ∨ j = 9 ∨ j = 10 ∨ j = 11 ∨ j = 12 ∨ j = 13 ∨ j = 14 ∨ j = 15 ∨ j = 16 ∨ j = 17 ∨ j = 18 ∨ j = 19 ∨ j = 20 ∨ j = 21 ∨ j = 22 ∨ j = 23 ∨ j = 24 ∨ j = 25 ∨ j = 26 := by omega
  rcases h with rfl | rfl | rfl | rfl | rfl | rfl | rfl | rfl | rfl | rfl | rfl | rfl | rfl | rfl | rfl | rfl | rfl | rfl | rfl | rfl | rfl | rfl | rfl | rfl | rfl | rfl | rfl <;> rfl
def wMsgI (G : GT) (sa : Nat) : va_W := [(sa, .inr (iMsg, [.int (0), .int (0), .int (-1), .int (-1), .int (-1), .int (-1), .int (-1), .ref (sa + 1)])), (sa + 1, aI (gC G 0) (3) (fun _ => 0))]
theorem ls_MsgI (G : GT) (sa : Nat) : ∀ q ∈ wMsgI G sa, sa ≤ q.1 := by
  intro q hq
  unfold wMsgI at hq
  simp only [List.mem_cons, List.not_mem_nil, or_false] at hq
  rcases hq with rfl | rfl <;> simp
set_option maxHeartbeats 4000000 in
set_option maxRecDepth 100000 in
theorem h_MsgI (l : Launch) (G : GT) (Hx : Heap) (sa : Nat) (hz0 : Array.size Hx = sa + 1) (hP : va_P G.1 gcl [(sa, .inr (iMsg, [.int (0), .int (0), .int (0), .int (0), .int (0), .int (0), .int (0), .null]))] Hx) (hD : va_D (gAb G) [(sa, .inr (iMsg, [.int (0), .int (0), .int (0), .int (0), .int (0), .int (0), .int (0), .null]))]) : Met l y_Msg_init (.code y_Msg_init b_Msg_init 1 none :: WS) { frames := 1, cells := 1, slots := 3, locals := 30 } (hPre G [.ref sa] (fun H9 => H9 = Hx)) (hQv G (fun H9 => va_P G.1 gcl (wMsgI G sa) H9 ∧ va_D (fun q => sa ≤ q) (wMsgI G sa) ∧ Array.size H9 = sa + 2)) 1 3 (gAb G) := by
  refine h_startI (own := R_Msg) (by decide +kernel) rfl (Nat.le_of_ble_eq_true rfl) ?_
  intro p e zs zm below meth zc ls hini C hI hl
  subst hI
  obtain ⟨hx, hb, hr, hml, hown, hts, hlk, hE, hbs⟩ := C
  have hK := hE.1
  have hl : lv_has ls 1 [(0, .ref sa)] := hl
  obtain ⟨locs, hlocs⟩ : ∃ l9 : List Loc, l9 = [] := ⟨_, rfl⟩
  rw [← hlocs]
  have hW : WW G zs.heap [(sa, .inr (iMsg, [.int (0), .int (0), .int (0), .int (0), .int (0), .int (0), .int (0), .null]))] zs.heap locs := ⟨hP, hD, by rw [hlocs]; exact va_S.rf⟩
  refine lv_aload_n hx hb d_Msg_init_0 rfl (lv_at hl 0 rfl) ?_
  refine h_oinit hx hb hown (hts _ kw_531) (hts _ kw_89) (hts _ kw_90) (by rw [hml]; exact hl.1) d_Msg_init_1 (Nat.le_of_ble_eq_true rfl) (Nat.le_of_ble_eq_true rfl) ?_
  refine lv_aload_n hx hb d_Msg_init_4 rfl (lv_at hl 0 rfl) ?_
  refine lv_iconst (v := 0) hx hb d_Msg_init_5 (by decide) ?_
  refine va_put hx hb hts i_Msg t_Msg t_Msg_ok n_Msg hown hK hW.1 hW.2.1 hW.2.2 0 rfl rfl 0 (by decide) (hts _ kw_108) (fun _ h => h) rfl (t_Msg_ok 0 (by decide)) rfl rfl (Nat.le_of_ble_eq_true rfl) d_Msg_init_6 (fun H locs h1 h2 h3 => ?_)
  have hW : WW G zs.heap [(sa, .inr (iMsg, [.int (0), .int (0), .int (0), .int (0), .int (0), .int (0), .int (0), .null]))] H locs := ⟨h1, h2, h3⟩
  refine lv_aload_n hx hb d_Msg_init_9 rfl (lv_at hl 0 rfl) ?_
  refine lv_iconst (v := 0) hx hb d_Msg_init_10 (by decide) ?_
  refine va_put hx hb hts i_Msg t_Msg t_Msg_ok n_Msg hown hK hW.1 hW.2.1 hW.2.2 0 rfl rfl 1 (by decide) (hts _ kw_113) (fun _ h => h) rfl (t_Msg_ok 1 (by decide)) rfl rfl (Nat.le_of_ble_eq_true rfl) d_Msg_init_11 (fun H locs h1 h2 h3 => ?_)
  have hW : WW G zs.heap [(sa, .inr (iMsg, [.int (0), .int (0), .int (0), .int (0), .int (0), .int (0), .int (0), .null]))] H locs := ⟨h1, h2, h3⟩
  refine lv_aload_n hx hb d_Msg_init_14 rfl (lv_at hl 0 rfl) ?_
  refine lv_iconst (v := -1) hx hb d_Msg_init_15 (by decide) ?_
  refine va_put hx hb hts i_Msg t_Msg t_Msg_ok n_Msg hown hK hW.1 hW.2.1 hW.2.2 0 rfl rfl 2 (by decide) (hts _ kw_118) (fun _ h => h) rfl (t_Msg_ok 2 (by decide)) rfl rfl (Nat.le_of_ble_eq_true rfl) d_Msg_init_16 (fun H locs h1 h2 h3 => ?_)
  have hW : WW G zs.heap [(sa, .inr (iMsg, [.int (0), .int (0), .int (-1), .int (0), .int (0), .int (0), .int (0), .null]))] H locs := ⟨h1, h2, h3⟩
  refine lv_aload_n hx hb d_Msg_init_19 rfl (lv_at hl 0 rfl) ?_
  refine lv_iconst (v := -1) hx hb d_Msg_init_20 (by decide) ?_
  refine va_put hx hb hts i_Msg t_Msg t_Msg_ok n_Msg hown hK hW.1 hW.2.1 hW.2.2 0 rfl rfl 3 (by decide) (hts _ kw_119) (fun _ h => h) rfl (t_Msg_ok 3 (by decide)) rfl rfl (Nat.le_of_ble_eq_true rfl) d_Msg_init_21 (fun H locs h1 h2 h3 => ?_)
  have hW : WW G zs.heap [(sa, .inr (iMsg, [.int (0), .int (0), .int (-1), .int (-1), .int (0), .int (0), .int (0), .null]))] H locs := ⟨h1, h2, h3⟩
  refine lv_aload_n hx hb d_Msg_init_24 rfl (lv_at hl 0 rfl) ?_
  refine lv_iconst (v := -1) hx hb d_Msg_init_25 (by decide) ?_
  refine va_put hx hb hts i_Msg t_Msg t_Msg_ok n_Msg hown hK hW.1 hW.2.1 hW.2.2 0 rfl rfl 4 (by decide) (hts _ kw_120) (fun _ h => h) rfl (t_Msg_ok 4 (by decide)) rfl rfl (Nat.le_of_ble_eq_true rfl) d_Msg_init_26 (fun H locs h1 h2 h3 => ?_)
  have hW : WW G zs.heap [(sa, .inr (iMsg, [.int (0), .int (0), .int (-1), .int (-1), .int (-1), .int (0), .int (0), .null]))] H locs := ⟨h1, h2, h3⟩
  refine lv_aload_n hx hb d_Msg_init_29 rfl (lv_at hl 0 rfl) ?_
  refine lv_iconst (v := -1) hx hb d_Msg_init_30 (by decide) ?_
  refine va_put hx hb hts i_Msg t_Msg t_Msg_ok n_Msg hown hK hW.1 hW.2.1 hW.2.2 0 rfl rfl 5 (by decide) (hts _ kw_121) (fun _ h => h) rfl (t_Msg_ok 5 (by decide)) rfl rfl (Nat.le_of_ble_eq_true rfl) d_Msg_init_31 (fun H locs h1 h2 h3 => ?_)
  have hW : WW G zs.heap [(sa, .inr (iMsg, [.int (0), .int (0), .int (-1), .int (-1), .int (-1), .int (-1), .int (0), .null]))] H locs := ⟨h1, h2, h3⟩
  refine lv_aload_n hx hb d_Msg_init_34 rfl (lv_at hl 0 rfl) ?_
  refine lv_iconst (v := -1) hx hb d_Msg_init_35 (by decide) ?_
  refine va_put hx hb hts i_Msg t_Msg t_Msg_ok n_Msg hown hK hW.1 hW.2.1 hW.2.2 0 rfl rfl 6 (by decide) (hts _ kw_122) (fun _ h => h) rfl (t_Msg_ok 6 (by decide)) rfl rfl (Nat.le_of_ble_eq_true rfl) d_Msg_init_36 (fun H locs h1 h2 h3 => ?_)
  have hW : WW G zs.heap [(sa, .inr (iMsg, [.int (0), .int (0), .int (-1), .int (-1), .int (-1), .int (-1), .int (-1), .null]))] H locs := ⟨h1, h2, h3⟩
  refine lv_aload_n hx hb d_Msg_init_39 rfl (lv_at hl 0 rfl) ?_
  refine lv_iconst (v := 3) hx hb d_Msg_init_40 (by decide) ?_
  refine W_sz (fun hzu => ?_)
  have hzl := (va_P_mem.mp hW.1 _ (List.mem_of_getElem? (i := 0) rfl)).lt
  have hz : Array.size H = sa + 1 := sz_eq hzu hz0 hzl rfl rfl
  refine h_newa (G := G) (atype := .int) (t0 := 0) (N' := 3) (a0 := (3, .inl (fun _ => 0))) hx hb hts kw_532 (List.mem_of_getElem? (i := 0) rfl) hE hW.2.2 (fun _ => by first | rfl | (rw [vp_cell_i]; rfl)) (by decide) (by decide) (by decide) (Nat.le_of_ble_eq_true rfl) (Nat.le_of_ble_eq_true rfl) d_Msg_init_41 (fun H ha9 hz9 hk9 hS9 => ?_)
  rw [hz] at ha9 ⊢
  have hW := WW_push2 hW hbs hz ha9 hk9 hS9
  have hW : WW G zs.heap [(sa, .inr (iMsg, [.int (0), .int (0), .int (-1), .int (-1), .int (-1), .int (-1), .int (-1), .null])), (sa + 1, aI (gC G 0) (3) (fun _ => 0))] H locs := hW
  refine va_putF hx hb hts i_Msg t_Msg t_Msg_ok n_Msg hown hK hW.1 hW.2.1 hW.2.2 0 rfl rfl 7 (by decide) (hts _ kw_123) (fun _ h => h) rfl hini rfl (t_Msg_ok 7 (by decide)) rfl rfl (Nat.le_of_ble_eq_true rfl) d_Msg_init_43 (fun H locs h1 h2 h3 => ?_)
  have hW : WW G zs.heap [(sa, .inr (iMsg, [.int (0), .int (0), .int (-1), .int (-1), .int (-1), .int (-1), .int (-1), .ref (sa + 1)])), (sa + 1, aI (gC G 0) (3) (fun _ => 0))] H locs := ⟨h1, h2, h3⟩
  refine W_sz (fun hzu => ?_)
  have hzl := (va_P_mem.mp hW.1 _ (List.mem_of_getElem? (i := 1) rfl)).lt
  have hz : Array.size H = sa + 2 := sz_eq hzu hz0 hzl rfl rfl
  exact h_vret hx hb hr hlk hW.2.2 ⟨hW.1, bs_D hW.2.1 (ls_MsgI G sa), hz⟩ (Nat.le_of_ble_eq_true rfl) (Nat.le_of_ble_eq_true rfl) d_Msg_init_46
def wStoreI (G : GT) (sa : Nat) : va_W := [(sa, .inr (iStore, [.ref (sa + 1), .ref (sa + 2), .ref (sa + 3), .ref (sa + 4), .ref (sa + 5)])), (sa + 1, aI (gC G 0) (4) (fun _ => 0)), (sa + 2, aI (gC G 0) (4) (flF (fun _ => 0) (-1) 4)), (sa + 3, aI (gC G 0) (8) (fun _ => 0)), (sa + 4, aI (gC G 0) (8) (fun _ => 0)), (sa + 5, aR (gC G 3) (8) (fun i => if i < 8 then some (sa + 5 + 1 + i) else none)), (sa + 6, aI (gC G 0) (4) (fun _ => 0)), (sa + 7, aI (gC G 0) (4) (fun _ => 0)), (sa + 8, aI (gC G 0) (4) (fun _ => 0)), (sa + 9, aI (gC G 0) (4) (fun _ => 0)), (sa + 10, aI (gC G 0) (4) (fun _ => 0)), (sa + 11, aI (gC G 0) (4) (fun _ => 0)), (sa + 12, aI (gC G 0) (4) (fun _ => 0)), (sa + 13, aI (gC G 0) (4) (fun _ => 0))]
theorem ls_StoreI (G : GT) (sa : Nat) : ∀ q ∈ wStoreI G sa, sa ≤ q.1 := by
  intro q hq
  unfold wStoreI at hq
  simp only [List.mem_cons, List.not_mem_nil, or_false] at hq
  rcases hq with rfl | rfl | rfl | rfl | rfl | rfl | rfl | rfl | rfl | rfl | rfl | rfl | rfl | rfl <;> simp
set_option maxHeartbeats 4000000 in
set_option maxRecDepth 100000 in
theorem h_StoreI (l : Launch) (G : GT) (Hx : Heap) (sa : Nat) (hz0 : Array.size Hx = sa + 1) (hP : va_P G.1 gcl [(sa, .inr (iStore, [.null, .null, .null, .null, .null]))] Hx) (hD : va_D (gAb G) [(sa, .inr (iStore, [.null, .null, .null, .null, .null]))]) : Met l y_Store_init (.code y_Store_init b_Store_init 1 none :: WS) { frames := 1, cells := 13, slots := 64, locals := 30 } (hPre G [.ref sa] (fun H9 => H9 = Hx)) (hQv G (fun H9 => va_P G.1 gcl (wStoreI G sa) H9 ∧ va_D (fun q => sa ≤ q) (wStoreI G sa) ∧ Array.size H9 = sa + 14)) 13 64 (gAb G) := by
  refine h_startI (own := R_Store) (by decide +kernel) rfl (Nat.le_of_ble_eq_true rfl) ?_
  intro p e zs zm below meth zc ls hini C hI hl
  subst hI
  obtain ⟨hx, hb, hr, hml, hown, hts, hlk, hE, hbs⟩ := C
  have hK := hE.1
  have hl : lv_has ls 1 [(0, .ref sa)] := hl
  obtain ⟨locs, hlocs⟩ : ∃ l9 : List Loc, l9 = [] := ⟨_, rfl⟩
  rw [← hlocs]
  have hW : WW G zs.heap [(sa, .inr (iStore, [.null, .null, .null, .null, .null]))] zs.heap locs := ⟨hP, hD, by rw [hlocs]; exact va_S.rf⟩
  refine lv_aload_n hx hb d_Store_init_0 rfl (lv_at hl 0 rfl) ?_
  refine h_oinit hx hb hown (hts _ kw_533) (hts _ kw_89) (hts _ kw_90) (by rw [hml]; exact hl.1) d_Store_init_1 (Nat.le_of_ble_eq_true rfl) (Nat.le_of_ble_eq_true rfl) ?_
  refine lv_aload_n hx hb d_Store_init_4 rfl (lv_at hl 0 rfl) ?_
  refine lv_iconst (v := 4) hx hb d_Store_init_5 (by decide) ?_
  refine W_sz (fun hzu => ?_)
  have hzl := (va_P_mem.mp hW.1 _ (List.mem_of_getElem? (i := 0) rfl)).lt
  have hz : Array.size zs.heap = sa + 1 := sz_eq hzu hz0 hzl rfl rfl
  refine h_newa (G := G) (atype := .int) (t0 := 0) (N' := 4) (a0 := (4, .inl (fun _ => 0))) hx hb hts kw_532 (List.mem_of_getElem? (i := 0) rfl) hE hW.2.2 (fun _ => by first | rfl | (rw [vp_cell_i]; rfl)) (by decide) (by decide) (by decide) (Nat.le_of_ble_eq_true rfl) (Nat.le_of_ble_eq_true rfl) d_Store_init_6 (fun H ha9 hz9 hk9 hS9 => ?_)
  rw [hz] at ha9 ⊢
  have hW := WW_push2 hW hbs hz ha9 hk9 hS9
  have hW : WW G zs.heap [(sa, .inr (iStore, [.null, .null, .null, .null, .null])), (sa + 1, aI (gC G 0) (4) (fun _ => 0))] H locs := hW
  refine va_putF hx hb hts i_Store t_Store t_Store_ok n_Store hown hK hW.1 hW.2.1 hW.2.2 0 rfl rfl 0 (by decide) (hts _ kw_143) (fun _ h => h) rfl hini rfl (t_Store_ok 0 (by decide)) rfl rfl (Nat.le_of_ble_eq_true rfl) d_Store_init_8 (fun H locs h1 h2 h3 => ?_)
  have hW : WW G zs.heap [(sa, .inr (iStore, [.ref (sa + 1), .null, .null, .null, .null])), (sa + 1, aI (gC G 0) (4) (fun _ => 0))] H locs := ⟨h1, h2, h3⟩
  refine lv_aload_n hx hb d_Store_init_11 rfl (lv_at hl 0 rfl) ?_
  refine lv_iconst (v := 4) hx hb d_Store_init_12 (by decide) ?_
  refine W_sz (fun hzu => ?_)
  have hzl := (va_P_mem.mp hW.1 _ (List.mem_of_getElem? (i := 1) rfl)).lt
  have hz : Array.size H = sa + 2 := sz_eq hzu hz0 hzl rfl rfl
  refine h_newa (G := G) (atype := .int) (t0 := 0) (N' := 4) (a0 := (4, .inl (fun _ => 0))) hx hb hts kw_532 (List.mem_of_getElem? (i := 0) rfl) hE hW.2.2 (fun _ => by first | rfl | (rw [vp_cell_i]; rfl)) (by decide) (by decide) (by decide) (Nat.le_of_ble_eq_true rfl) (Nat.le_of_ble_eq_true rfl) d_Store_init_13 (fun H ha9 hz9 hk9 hS9 => ?_)
  rw [hz] at ha9 ⊢
  have hW := WW_push2 hW hbs hz ha9 hk9 hS9
  have hW : WW G zs.heap [(sa, .inr (iStore, [.ref (sa + 1), .null, .null, .null, .null])), (sa + 1, aI (gC G 0) (4) (fun _ => 0)), (sa + 2, aI (gC G 0) (4) (fun _ => 0))] H locs := hW
  refine va_putF hx hb hts i_Store t_Store t_Store_ok n_Store hown hK hW.1 hW.2.1 hW.2.2 0 rfl rfl 1 (by decide) (hts _ kw_131) (fun _ h => h) rfl hini rfl (t_Store_ok 1 (by decide)) rfl rfl (Nat.le_of_ble_eq_true rfl) d_Store_init_15 (fun H locs h1 h2 h3 => ?_)
  have hW : WW G zs.heap [(sa, .inr (iStore, [.ref (sa + 1), .ref (sa + 2), .null, .null, .null])), (sa + 1, aI (gC G 0) (4) (fun _ => 0)), (sa + 2, aI (gC G 0) (4) (fun _ => 0))] H locs := ⟨h1, h2, h3⟩
  refine lv_aload_n hx hb d_Store_init_18 rfl (lv_at hl 0 rfl) ?_
  refine lv_bipush (v := 8) hx hb d_Store_init_19 (by decide) ?_
  refine W_sz (fun hzu => ?_)
  have hzl := (va_P_mem.mp hW.1 _ (List.mem_of_getElem? (i := 2) rfl)).lt
  have hz : Array.size H = sa + 3 := sz_eq hzu hz0 hzl rfl rfl
  refine h_newa (G := G) (atype := .int) (t0 := 0) (N' := 8) (a0 := (8, .inl (fun _ => 0))) hx hb hts kw_532 (List.mem_of_getElem? (i := 0) rfl) hE hW.2.2 (fun _ => by first | rfl | (rw [vp_cell_i]; rfl)) (by decide) (by decide) (by decide) (Nat.le_of_ble_eq_true rfl) (Nat.le_of_ble_eq_true rfl) d_Store_init_21 (fun H ha9 hz9 hk9 hS9 => ?_)
  rw [hz] at ha9 ⊢
  have hW := WW_push2 hW hbs hz ha9 hk9 hS9
  have hW : WW G zs.heap [(sa, .inr (iStore, [.ref (sa + 1), .ref (sa + 2), .null, .null, .null])), (sa + 1, aI (gC G 0) (4) (fun _ => 0)), (sa + 2, aI (gC G 0) (4) (fun _ => 0)), (sa + 3, aI (gC G 0) (8) (fun _ => 0))] H locs := hW
  refine va_putF hx hb hts i_Store t_Store t_Store_ok n_Store hown hK hW.1 hW.2.1 hW.2.2 0 rfl rfl 2 (by decide) (hts _ kw_130) (fun _ h => h) rfl hini rfl (t_Store_ok 2 (by decide)) rfl rfl (Nat.le_of_ble_eq_true rfl) d_Store_init_23 (fun H locs h1 h2 h3 => ?_)
  have hW : WW G zs.heap [(sa, .inr (iStore, [.ref (sa + 1), .ref (sa + 2), .ref (sa + 3), .null, .null])), (sa + 1, aI (gC G 0) (4) (fun _ => 0)), (sa + 2, aI (gC G 0) (4) (fun _ => 0)), (sa + 3, aI (gC G 0) (8) (fun _ => 0))] H locs := ⟨h1, h2, h3⟩
  refine lv_aload_n hx hb d_Store_init_26 rfl (lv_at hl 0 rfl) ?_
  refine lv_bipush (v := 8) hx hb d_Store_init_27 (by decide) ?_
  refine W_sz (fun hzu => ?_)
  have hzl := (va_P_mem.mp hW.1 _ (List.mem_of_getElem? (i := 3) rfl)).lt
  have hz : Array.size H = sa + 4 := sz_eq hzu hz0 hzl rfl rfl
  refine h_newa (G := G) (atype := .int) (t0 := 0) (N' := 8) (a0 := (8, .inl (fun _ => 0))) hx hb hts kw_532 (List.mem_of_getElem? (i := 0) rfl) hE hW.2.2 (fun _ => by first | rfl | (rw [vp_cell_i]; rfl)) (by decide) (by decide) (by decide) (Nat.le_of_ble_eq_true rfl) (Nat.le_of_ble_eq_true rfl) d_Store_init_29 (fun H ha9 hz9 hk9 hS9 => ?_)
  rw [hz] at ha9 ⊢
  have hW := WW_push2 hW hbs hz ha9 hk9 hS9
  have hW : WW G zs.heap [(sa, .inr (iStore, [.ref (sa + 1), .ref (sa + 2), .ref (sa + 3), .null, .null])), (sa + 1, aI (gC G 0) (4) (fun _ => 0)), (sa + 2, aI (gC G 0) (4) (fun _ => 0)), (sa + 3, aI (gC G 0) (8) (fun _ => 0)), (sa + 4, aI (gC G 0) (8) (fun _ => 0))] H locs := hW
  refine va_putF hx hb hts i_Store t_Store t_Store_ok n_Store hown hK hW.1 hW.2.1 hW.2.2 0 rfl rfl 3 (by decide) (hts _ kw_132) (fun _ h => h) rfl hini rfl (t_Store_ok 3 (by decide)) rfl rfl (Nat.le_of_ble_eq_true rfl) d_Store_init_31 (fun H locs h1 h2 h3 => ?_)
  have hW : WW G zs.heap [(sa, .inr (iStore, [.ref (sa + 1), .ref (sa + 2), .ref (sa + 3), .ref (sa + 4), .null])), (sa + 1, aI (gC G 0) (4) (fun _ => 0)), (sa + 2, aI (gC G 0) (4) (fun _ => 0)), (sa + 3, aI (gC G 0) (8) (fun _ => 0)), (sa + 4, aI (gC G 0) (8) (fun _ => 0))] H locs := ⟨h1, h2, h3⟩
  refine lv_aload_n hx hb d_Store_init_34 rfl (lv_at hl 0 rfl) ?_
  refine lv_bipush (v := 8) hx hb d_Store_init_35 (by decide) ?_
  refine lv_iconst (v := 4) hx hb d_Store_init_37 (by decide) ?_
  refine W_sz (fun hzu => ?_)
  have hzl := (va_P_mem.mp hW.1 _ (List.mem_of_getElem? (i := 4) rfl)).lt
  have hz : Array.size H = sa + 5 := sz_eq hzu hz0 hzl rfl rfl
  have hlt0 := WW_lt hW
  rw [hz] at hlt0
  refine h_mna (G := G) (N' := 8) (K' := 4) hx hb hts hown kw_534 kw_532 hE hW.2.2 (by decide) (by decide) (by decide) (by decide) (by decide) (by decide) (by decide) (Nat.le_of_ble_eq_true rfl) (Nat.le_of_ble_eq_true rfl) d_Store_init_38 (fun H ha9 hr9 hz9 hk9 hS9 => ?_)
  rw [hz] at ha9 hr9 hk9 ⊢
  obtain ⟨hB1, hB2⟩ := mna_block ha9 hr9
  have hW := WW_block hW hlt0 (gs_le hbs hz0 (by decide)) (fun q h1 _ => hk9 q (by rw [hz] at h1; exact h1)) hB1 hB2 hS9
  have hW : WW G zs.heap [(sa, .inr (iStore, [.ref (sa + 1), .ref (sa + 2), .ref (sa + 3), .ref (sa + 4), .null])), (sa + 1, aI (gC G 0) (4) (fun _ => 0)), (sa + 2, aI (gC G 0) (4) (fun _ => 0)), (sa + 3, aI (gC G 0) (8) (fun _ => 0)), (sa + 4, aI (gC G 0) (8) (fun _ => 0)), (sa + 5, aR (gC G 3) (8) (fun i => if i < 8 then some (sa + 5 + 1 + i) else none)), (sa + 6, aI (gC G 0) (4) (fun _ => 0)), (sa + 7, aI (gC G 0) (4) (fun _ => 0)), (sa + 8, aI (gC G 0) (4) (fun _ => 0)), (sa + 9, aI (gC G 0) (4) (fun _ => 0)), (sa + 10, aI (gC G 0) (4) (fun _ => 0)), (sa + 11, aI (gC G 0) (4) (fun _ => 0)), (sa + 12, aI (gC G 0) (4) (fun _ => 0)), (sa + 13, aI (gC G 0) (4) (fun _ => 0))] H locs := hW
  refine va_putF hx hb hts i_Store t_Store t_Store_ok n_Store hown hK hW.1 hW.2.1 hW.2.2 0 rfl rfl 4 (by decide) (hts _ kw_135) (fun _ h => h) rfl hini rfl (t_Store_ok 4 (by decide)) rfl rfl (Nat.le_of_ble_eq_true rfl) d_Store_init_42 (fun H locs h1 h2 h3 => ?_)
  have hW : WW G zs.heap [(sa, .inr (iStore, [.ref (sa + 1), .ref (sa + 2), .ref (sa + 3), .ref (sa + 4), .ref (sa + 5)])), (sa + 1, aI (gC G 0) (4) (fun _ => 0)), (sa + 2, aI (gC G 0) (4) (fun _ => 0)), (sa + 3, aI (gC G 0) (8) (fun _ => 0)), (sa + 4, aI (gC G 0) (8) (fun _ => 0)), (sa + 5, aR (gC G 3) (8) (fun i => if i < 8 then some (sa + 5 + 1 + i) else none)), (sa + 6, aI (gC G 0) (4) (fun _ => 0)), (sa + 7, aI (gC G 0) (4) (fun _ => 0)), (sa + 8, aI (gC G 0) (4) (fun _ => 0)), (sa + 9, aI (gC G 0) (4) (fun _ => 0)), (sa + 10, aI (gC G 0) (4) (fun _ => 0)), (sa + 11, aI (gC G 0) (4) (fun _ => 0)), (sa + 12, aI (gC G 0) (4) (fun _ => 0)), (sa + 13, aI (gC G 0) (4) (fun _ => 0))] H locs := ⟨h1, h2, h3⟩
  refine lv_aload_n hx hb d_Store_init_45 rfl (lv_at hl 0 rfl) ?_
  refine va_get (v := .ref (sa + 2)) hx hb hts i_Store hown hK hW.1 0 rfl rfl 1 (by decide) (hts _ kw_131) (fun _ h => h) rfl d_Store_init_46 ?_
  refine lv_iconst (v := -1) hx hb d_Store_init_49 (by decide) ?_
  refine h_cv (G := G) (h_runS (G := G) (G' := G) (I := fun Hz => Hz = H) hx hb hml hown hts hE hW.2.2 (Nat.le_refl _) rfl (Nat.le_trans hbs hW.2.2.1) rfl (h_fill l G H _ 2 _ 4 (fun _ => 0) (-1) rfl (by decide) hW.1 hW.2.1) kw_535 kw_162 kw_26 kw_160 rfl rfl hd_Arrays_fill ⟨Nat.le_of_ble_eq_true rfl, Nat.le_of_ble_eq_true rfl⟩ (As := [.ref (sa + 2), .int (-1)]) (rest := []) rfl hl.1 rfl (Nat.le_of_ble_eq_true rfl) d_Store_init_50 ⟨Nat.le_of_ble_eq_true rfl, Nat.le_of_ble_eq_true rfl⟩) hW.2.2 (Nat.le_refl _) (fun H9 locs hJ hq9 hk9 hS9 => ?_)
  obtain ⟨hJ1, hJ2⟩ := hJ
  have hW : WW G zs.heap [(sa, .inr (iStore, [.ref (sa + 1), .ref (sa + 2), .ref (sa + 3), .ref (sa + 4), .ref (sa + 5)])), (sa + 1, aI (gC G 0) (4) (fun _ => 0)), (sa + 2, aI (gC G 0) (4) (flF (fun _ => 0) (-1) 4)), (sa + 3, aI (gC G 0) (8) (fun _ => 0)), (sa + 4, aI (gC G 0) (8) (fun _ => 0)), (sa + 5, aR (gC G 3) (8) (fun i => if i < 8 then some (sa + 5 + 1 + i) else none)), (sa + 6, aI (gC G 0) (4) (fun _ => 0)), (sa + 7, aI (gC G 0) (4) (fun _ => 0)), (sa + 8, aI (gC G 0) (4) (fun _ => 0)), (sa + 9, aI (gC G 0) (4) (fun _ => 0)), (sa + 10, aI (gC G 0) (4) (fun _ => 0)), (sa + 11, aI (gC G 0) (4) (fun _ => 0)), (sa + 12, aI (gC G 0) (4) (fun _ => 0)), (sa + 13, aI (gC G 0) (4) (fun _ => 0))] H9 locs := ⟨hJ1, hJ2, hS9⟩
  refine W_sz (fun hzu => ?_)
  have hzl := (va_P_mem.mp hW.1 _ (List.mem_of_getElem? (i := 13) rfl)).lt
  have hz : Array.size H9 = sa + 14 := sz_eq hzu hz0 hzl rfl rfl
  exact h_vret hx hb hr hlk hW.2.2 ⟨hW.1, bs_D hW.2.1 (ls_StoreI G sa), hz⟩ (Nat.le_of_ble_eq_true rfl) (Nat.le_of_ble_eq_true rfl) d_Store_init_53
def wAccI (G : GT) (sa : Nat) : va_W := [(sa, .inr (iAcc, [.ref (sa + 1), .ref (sa + 10)])), (sa + 1, aR (gC G 3) (8) (fun i => if i < 8 then some (sa + 1 + 1 + i) else none)), (sa + 2, aI (gC G 0) (3) (fun _ => 0)), (sa + 3, aI (gC G 0) (3) (fun _ => 0)), (sa + 4, aI (gC G 0) (3) (fun _ => 0)), (sa + 5, aI (gC G 0) (3) (fun _ => 0)), (sa + 6, aI (gC G 0) (3) (fun _ => 0)), (sa + 7, aI (gC G 0) (3) (fun _ => 0)), (sa + 8, aI (gC G 0) (3) (fun _ => 0)), (sa + 9, aI (gC G 0) (3) (fun _ => 0)), (sa + 10, aR (gC G 3) (8) (fun i => if i < 8 then some (sa + 10 + 1 + i) else none)), (sa + 11, aI (gC G 0) (3) (flF (fun _ => 0) (-1) 3)), (sa + 12, aI (gC G 0) (3) (flF (fun _ => 0) (-1) 3)), (sa + 13, aI (gC G 0) (3) (flF (fun _ => 0) (-1) 3)), (sa + 14, aI (gC G 0) (3) (flF (fun _ => 0) (-1) 3)), (sa + 15, aI (gC G 0) (3) (flF (fun _ => 0) (-1) 3)), (sa + 16, aI (gC G 0) (3) (flF (fun _ => 0) (-1) 3)), (sa + 17, aI (gC G 0) (3) (flF (fun _ => 0) (-1) 3)), (sa + 18, aI (gC G 0) (3) (flF (fun _ => 0) (-1) 3))]
theorem ls_AccI (G : GT) (sa : Nat) : ∀ q ∈ wAccI G sa, sa ≤ q.1 := by
  intro q hq
  unfold wAccI at hq
  simp only [List.mem_cons, List.not_mem_nil, or_false] at hq
  rcases hq with rfl | rfl | rfl | rfl | rfl | rfl | rfl | rfl | rfl | rfl | rfl | rfl | rfl | rfl | rfl | rfl | rfl | rfl | rfl <;> simp
set_option maxHeartbeats 4000000 in
set_option maxRecDepth 100000 in
theorem h_AccI (l : Launch) (G : GT) (Hx : Heap) (sa : Nat) (hz0 : Array.size Hx = sa + 1) (hP : va_P G.1 gcl [(sa, .inr (iAcc, [.null, .null]))] Hx) (hD : va_D (gAb G) [(sa, .inr (iAcc, [.null, .null]))]) : Met l y_Acc_init (.code y_Acc_init b_Acc_init 2 none :: WS) { frames := 1, cells := 18, slots := 64, locals := 30 } (hPre G [.ref sa] (fun H9 => H9 = Hx)) (hQv G (fun H9 => va_P G.1 gcl (wAccI G sa) H9 ∧ va_D (fun q => sa ≤ q) (wAccI G sa) ∧ Array.size H9 = sa + 19)) 18 64 (gAb G) := by
  refine h_startI (own := R_Acc) (by decide +kernel) rfl (Nat.le_of_ble_eq_true rfl) ?_
  intro p e zs zm below meth zc ls hini C hI hl
  subst hI
  obtain ⟨hx, hb, hr, hml, hown, hts, hlk, hE, hbs⟩ := C
  have hK := hE.1
  have hl : lv_has ls 2 [(0, .ref sa)] := hl
  obtain ⟨locs, hlocs⟩ : ∃ l9 : List Loc, l9 = [] := ⟨_, rfl⟩
  rw [← hlocs]
  have hW : WW G zs.heap [(sa, .inr (iAcc, [.null, .null]))] zs.heap locs := ⟨hP, hD, by rw [hlocs]; exact va_S.rf⟩
  refine lv_aload_n hx hb d_Acc_init_0 rfl (lv_at hl 0 rfl) ?_
  refine h_oinit hx hb hown (hts _ kw_536) (hts _ kw_89) (hts _ kw_90) (by rw [hml]; exact hl.1) d_Acc_init_1 (Nat.le_of_ble_eq_true rfl) (Nat.le_of_ble_eq_true rfl) ?_
  refine lv_aload_n hx hb d_Acc_init_4 rfl (lv_at hl 0 rfl) ?_
  refine lv_bipush (v := 8) hx hb d_Acc_init_5 (by decide) ?_
  refine lv_iconst (v := 3) hx hb d_Acc_init_7 (by decide) ?_
  refine W_sz (fun hzu => ?_)
  have hzl := (va_P_mem.mp hW.1 _ (List.mem_of_getElem? (i := 0) rfl)).lt
  have hz : Array.size zs.heap = sa + 1 := sz_eq hzu hz0 hzl rfl rfl
  have hlt0 := WW_lt hW
  rw [hz] at hlt0
  refine h_mna (G := G) (N' := 8) (K' := 3) hx hb hts hown kw_537 kw_532 hE hW.2.2 (by decide) (by decide) (by decide) (by decide) (by decide) (by decide) (by decide) (Nat.le_of_ble_eq_true rfl) (Nat.le_of_ble_eq_true rfl) d_Acc_init_8 (fun H ha9 hr9 hz9 hk9 hS9 => ?_)
  rw [hz] at ha9 hr9 hk9 ⊢
  obtain ⟨hB1, hB2⟩ := mna_block ha9 hr9
  have hW := WW_block hW hlt0 (gs_le hbs hz0 (by decide)) (fun q h1 _ => hk9 q (by rw [hz] at h1; exact h1)) hB1 hB2 hS9
  have hW : WW G zs.heap [(sa, .inr (iAcc, [.null, .null])), (sa + 1, aR (gC G 3) (8) (fun i => if i < 8 then some (sa + 1 + 1 + i) else none)), (sa + 2, aI (gC G 0) (3) (fun _ => 0)), (sa + 3, aI (gC G 0) (3) (fun _ => 0)), (sa + 4, aI (gC G 0) (3) (fun _ => 0)), (sa + 5, aI (gC G 0) (3) (fun _ => 0)), (sa + 6, aI (gC G 0) (3) (fun _ => 0)), (sa + 7, aI (gC G 0) (3) (fun _ => 0)), (sa + 8, aI (gC G 0) (3) (fun _ => 0)), (sa + 9, aI (gC G 0) (3) (fun _ => 0))] H locs := hW
  refine va_putF hx hb hts i_Acc t_Acc t_Acc_ok n_Acc hown hK hW.1 hW.2.1 hW.2.2 0 rfl rfl 0 (by decide) (hts _ kw_148) (fun _ h => h) rfl hini rfl (t_Acc_ok 0 (by decide)) rfl rfl (Nat.le_of_ble_eq_true rfl) d_Acc_init_12 (fun H locs h1 h2 h3 => ?_)
  have hW : WW G zs.heap [(sa, .inr (iAcc, [.ref (sa + 1), .null])), (sa + 1, aR (gC G 3) (8) (fun i => if i < 8 then some (sa + 1 + 1 + i) else none)), (sa + 2, aI (gC G 0) (3) (fun _ => 0)), (sa + 3, aI (gC G 0) (3) (fun _ => 0)), (sa + 4, aI (gC G 0) (3) (fun _ => 0)), (sa + 5, aI (gC G 0) (3) (fun _ => 0)), (sa + 6, aI (gC G 0) (3) (fun _ => 0)), (sa + 7, aI (gC G 0) (3) (fun _ => 0)), (sa + 8, aI (gC G 0) (3) (fun _ => 0)), (sa + 9, aI (gC G 0) (3) (fun _ => 0))] H locs := ⟨h1, h2, h3⟩
  refine lv_aload_n hx hb d_Acc_init_15 rfl (lv_at hl 0 rfl) ?_
  refine lv_bipush (v := 8) hx hb d_Acc_init_16 (by decide) ?_
  refine lv_iconst (v := 3) hx hb d_Acc_init_18 (by decide) ?_
  refine W_sz (fun hzu => ?_)
  have hzl := (va_P_mem.mp hW.1 _ (List.mem_of_getElem? (i := 9) rfl)).lt
  have hz : Array.size H = sa + 10 := sz_eq hzu hz0 hzl rfl rfl
  have hlt0 := WW_lt hW
  rw [hz] at hlt0
  refine h_mna (G := G) (N' := 8) (K' := 3) hx hb hts hown kw_537 kw_532 hE hW.2.2 (by decide) (by decide) (by decide) (by decide) (by decide) (by decide) (by decide) (Nat.le_of_ble_eq_true rfl) (Nat.le_of_ble_eq_true rfl) d_Acc_init_19 (fun H ha9 hr9 hz9 hk9 hS9 => ?_)
  rw [hz] at ha9 hr9 hk9 ⊢
  obtain ⟨hB1, hB2⟩ := mna_block ha9 hr9
  have hW := WW_block hW hlt0 (gs_le hbs hz0 (by decide)) (fun q h1 _ => hk9 q (by rw [hz] at h1; exact h1)) hB1 hB2 hS9
  have hW : WW G zs.heap [(sa, .inr (iAcc, [.ref (sa + 1), .null])), (sa + 1, aR (gC G 3) (8) (fun i => if i < 8 then some (sa + 1 + 1 + i) else none)), (sa + 2, aI (gC G 0) (3) (fun _ => 0)), (sa + 3, aI (gC G 0) (3) (fun _ => 0)), (sa + 4, aI (gC G 0) (3) (fun _ => 0)), (sa + 5, aI (gC G 0) (3) (fun _ => 0)), (sa + 6, aI (gC G 0) (3) (fun _ => 0)), (sa + 7, aI (gC G 0) (3) (fun _ => 0)), (sa + 8, aI (gC G 0) (3) (fun _ => 0)), (sa + 9, aI (gC G 0) (3) (fun _ => 0)), (sa + 10, aR (gC G 3) (8) (fun i => if i < 8 then some (sa + 10 + 1 + i) else none)), (sa + 11, aI (gC G 0) (3) (fun _ => 0)), (sa + 12, aI (gC G 0) (3) (fun _ => 0)), (sa + 13, aI (gC G 0) (3) (fun _ => 0)), (sa + 14, aI (gC G 0) (3) (fun _ => 0)), (sa + 15, aI (gC G 0) (3) (fun _ => 0)), (sa + 16, aI (gC G 0) (3) (fun _ => 0)), (sa + 17, aI (gC G 0) (3) (fun _ => 0)), (sa + 18, aI (gC G 0) (3) (fun _ => 0))] H locs := hW
  refine va_putF hx hb hts i_Acc t_Acc t_Acc_ok n_Acc hown hK hW.1 hW.2.1 hW.2.2 0 rfl rfl 1 (by decide) (hts _ kw_149) (fun _ h => h) rfl hini rfl (t_Acc_ok 1 (by decide)) rfl rfl (Nat.le_of_ble_eq_true rfl) d_Acc_init_23 (fun H locs h1 h2 h3 => ?_)
  have hW : WW G zs.heap [(sa, .inr (iAcc, [.ref (sa + 1), .ref (sa + 10)])), (sa + 1, aR (gC G 3) (8) (fun i => if i < 8 then some (sa + 1 + 1 + i) else none)), (sa + 2, aI (gC G 0) (3) (fun _ => 0)), (sa + 3, aI (gC G 0) (3) (fun _ => 0)), (sa + 4, aI (gC G 0) (3) (fun _ => 0)), (sa + 5, aI (gC G 0) (3) (fun _ => 0)), (sa + 6, aI (gC G 0) (3) (fun _ => 0)), (sa + 7, aI (gC G 0) (3) (fun _ => 0)), (sa + 8, aI (gC G 0) (3) (fun _ => 0)), (sa + 9, aI (gC G 0) (3) (fun _ => 0)), (sa + 10, aR (gC G 3) (8) (fun i => if i < 8 then some (sa + 10 + 1 + i) else none)), (sa + 11, aI (gC G 0) (3) (fun _ => 0)), (sa + 12, aI (gC G 0) (3) (fun _ => 0)), (sa + 13, aI (gC G 0) (3) (fun _ => 0)), (sa + 14, aI (gC G 0) (3) (fun _ => 0)), (sa + 15, aI (gC G 0) (3) (fun _ => 0)), (sa + 16, aI (gC G 0) (3) (fun _ => 0)), (sa + 17, aI (gC G 0) (3) (fun _ => 0)), (sa + 18, aI (gC G 0) (3) (fun _ => 0))] H locs := ⟨h1, h2, h3⟩
  refine lv_iconst (v := 0) hx hb d_Acc_init_26 (by decide) ?_
  refine lv_istore_n (lv' := [(1, .int (0)), (0, .ref sa)]) hx hb d_Acc_init_27 rfl hl (by decide) rfl (fun ls hl => ?_)
  refine lv_iload_n hx hb d_Acc_init_28 rfl (lv_at hl 0 rfl) ?_
  refine lv_bipush (v := 8) hx hb d_Acc_init_29 (by decide) ?_
  refine lv_icmp_ge (tgt := 50) hx hb d_Acc_init_31 (by decide) (fun c_1 => ?_) (fun c_1 => ?_)
  · exact absurd c_1 (by decide)
  · skip
    refine lv_aload_n hx hb d_Acc_init_34 rfl (lv_at hl 1 rfl) ?_
    refine va_get (v := .ref (sa + 10)) hx hb hts i_Acc hown hK hW.1 0 rfl rfl 1 (by decide) (hts _ kw_149) (fun _ h => h) rfl d_Acc_init_35 ?_
    refine lv_iload_n hx hb d_Acc_init_38 rfl (lv_at hl 0 rfl) ?_
    refine h_aldA (j := 0) (q := sa + 11) hx hb hK hW.1 10 rfl (by decide) (by decide) rfl rfl d_Acc_init_39 ?_
    refine lv_iconst (v := -1) hx hb d_Acc_init_40 (by decide) ?_
    refine h_cv (G := G) (h_runS (G := G) (G' := G) (I := fun Hz => Hz = H) hx hb hml hown hts hE hW.2.2 (Nat.le_refl _) rfl (Nat.le_trans hbs hW.2.2.1) rfl (h_fill l G H _ 11 _ 3 (fun _ => 0) (-1) rfl (by decide) hW.1 hW.2.1) kw_538 kw_162 kw_26 kw_160 rfl rfl hd_Arrays_fill ⟨Nat.le_of_ble_eq_true rfl, Nat.le_of_ble_eq_true rfl⟩ (As := [.ref (sa + 11), .int (-1)]) (rest := []) rfl hl.1 rfl (Nat.le_of_ble_eq_true rfl) d_Acc_init_41 ⟨Nat.le_of_ble_eq_true rfl, Nat.le_of_ble_eq_true rfl⟩) hW.2.2 (Nat.le_refl _) (fun H9 locs hJ hq9 hk9 hS9 => ?_)
    obtain ⟨hJ1, hJ2⟩ := hJ
    have hW : WW G zs.heap [(sa, .inr (iAcc, [.ref (sa + 1), .ref (sa + 10)])), (sa + 1, aR (gC G 3) (8) (fun i => if i < 8 then some (sa + 1 + 1 + i) else none)), (sa + 2, aI (gC G 0) (3) (fun _ => 0)), (sa + 3, aI (gC G 0) (3) (fun _ => 0)), (sa + 4, aI (gC G 0) (3) (fun _ => 0)), (sa + 5, aI (gC G 0) (3) (fun _ => 0)), (sa + 6, aI (gC G 0) (3) (fun _ => 0)), (sa + 7, aI (gC G 0) (3) (fun _ => 0)), (sa + 8, aI (gC G 0) (3) (fun _ => 0)), (sa + 9, aI (gC G 0) (3) (fun _ => 0)), (sa + 10, aR (gC G 3) (8) (fun i => if i < 8 then some (sa + 10 + 1 + i) else none)), (sa + 11, aI (gC G 0) (3) (flF (fun _ => 0) (-1) 3)), (sa + 12, aI (gC G 0) (3) (fun _ => 0)), (sa + 13, aI (gC G 0) (3) (fun _ => 0)), (sa + 14, aI (gC G 0) (3) (fun _ => 0)), (sa + 15, aI (gC G 0) (3) (fun _ => 0)), (sa + 16, aI (gC G 0) (3) (fun _ => 0)), (sa + 17, aI (gC G 0) (3) (fun _ => 0)), (sa + 18, aI (gC G 0) (3) (fun _ => 0))] H9 locs := ⟨hJ1, hJ2, hS9⟩
    refine lv_iinc (v := 1) (lv' := [(1, .int (1)), (0, .ref sa)]) hx hb d_Acc_init_44 hl (k := 0) rfl (by decide) (by decide) rfl (fun ls hl => ?_)
    refine lv_goto (tgt := 28) hx hb d_Acc_init_47 (by decide) ?_
    refine lv_iload_n hx hb d_Acc_init_28 rfl (lv_at hl 0 rfl) ?_
    refine lv_bipush (v := 8) hx hb d_Acc_init_29 (by decide) ?_
    refine lv_icmp_ge (tgt := 50) hx hb d_Acc_init_31 (by decide) (fun c_2 => ?_) (fun c_2 => ?_)
    · exact absurd c_2 (by decide)
    · skip
      refine lv_aload_n hx hb d_Acc_init_34 rfl (lv_at hl 1 rfl) ?_
      refine va_get (v := .ref (sa + 10)) hx hb hts i_Acc hown hK hW.1 0 rfl rfl 1 (by decide) (hts _ kw_149) (fun _ h => h) rfl d_Acc_init_35 ?_
      refine lv_iload_n hx hb d_Acc_init_38 rfl (lv_at hl 0 rfl) ?_
      refine h_aldA (j := 1) (q := sa + 12) hx hb hK hW.1 10 rfl (by decide) (by decide) rfl rfl d_Acc_init_39 ?_
      refine lv_iconst (v := -1) hx hb d_Acc_init_40 (by decide) ?_
      refine h_cv (G := G) (h_runS (G := G) (G' := G) (I := fun Hz => Hz = H9) hx hb hml hown hts hE hW.2.2 (Nat.le_refl _) rfl (Nat.le_trans hbs hW.2.2.1) rfl (h_fill l G H9 _ 12 _ 3 (fun _ => 0) (-1) rfl (by decide) hW.1 hW.2.1) kw_538 kw_162 kw_26 kw_160 rfl rfl hd_Arrays_fill ⟨Nat.le_of_ble_eq_true rfl, Nat.le_of_ble_eq_true rfl⟩ (As := [.ref (sa + 12), .int (-1)]) (rest := []) rfl hl.1 rfl (Nat.le_of_ble_eq_true rfl) d_Acc_init_41 ⟨Nat.le_of_ble_eq_true rfl, Nat.le_of_ble_eq_true rfl⟩) hW.2.2 (Nat.le_refl _) (fun H9 locs hJ hq9 hk9 hS9 => ?_)
      obtain ⟨hJ1, hJ2⟩ := hJ
      have hW : WW G zs.heap [(sa, .inr (iAcc, [.ref (sa + 1), .ref (sa + 10)])), (sa + 1, aR (gC G 3) (8) (fun i => if i < 8 then some (sa + 1 + 1 + i) else none)), (sa + 2, aI (gC G 0) (3) (fun _ => 0)), (sa + 3, aI (gC G 0) (3) (fun _ => 0)), (sa + 4, aI (gC G 0) (3) (fun _ => 0)), (sa + 5, aI (gC G 0) (3) (fun _ => 0)), (sa + 6, aI (gC G 0) (3) (fun _ => 0)), (sa + 7, aI (gC G 0) (3) (fun _ => 0)), (sa + 8, aI (gC G 0) (3) (fun _ => 0)), (sa + 9, aI (gC G 0) (3) (fun _ => 0)), (sa + 10, aR (gC G 3) (8) (fun i => if i < 8 then some (sa + 10 + 1 + i) else none)), (sa + 11, aI (gC G 0) (3) (flF (fun _ => 0) (-1) 3)), (sa + 12, aI (gC G 0) (3) (flF (fun _ => 0) (-1) 3)), (sa + 13, aI (gC G 0) (3) (fun _ => 0)), (sa + 14, aI (gC G 0) (3) (fun _ => 0)), (sa + 15, aI (gC G 0) (3) (fun _ => 0)), (sa + 16, aI (gC G 0) (3) (fun _ => 0)), (sa + 17, aI (gC G 0) (3) (fun _ => 0)), (sa + 18, aI (gC G 0) (3) (fun _ => 0))] H9 locs := ⟨hJ1, hJ2, hS9⟩
      refine lv_iinc (v := 2) (lv' := [(1, .int (2)), (0, .ref sa)]) hx hb d_Acc_init_44 hl (k := 0) rfl (by decide) (by decide) rfl (fun ls hl => ?_)
      refine lv_goto (tgt := 28) hx hb d_Acc_init_47 (by decide) ?_
      refine lv_iload_n hx hb d_Acc_init_28 rfl (lv_at hl 0 rfl) ?_
      refine lv_bipush (v := 8) hx hb d_Acc_init_29 (by decide) ?_
      refine lv_icmp_ge (tgt := 50) hx hb d_Acc_init_31 (by decide) (fun c_3 => ?_) (fun c_3 => ?_)
      · exact absurd c_3 (by decide)
      · skip
        refine lv_aload_n hx hb d_Acc_init_34 rfl (lv_at hl 1 rfl) ?_
        refine va_get (v := .ref (sa + 10)) hx hb hts i_Acc hown hK hW.1 0 rfl rfl 1 (by decide) (hts _ kw_149) (fun _ h => h) rfl d_Acc_init_35 ?_
        refine lv_iload_n hx hb d_Acc_init_38 rfl (lv_at hl 0 rfl) ?_
        refine h_aldA (j := 2) (q := sa + 13) hx hb hK hW.1 10 rfl (by decide) (by decide) rfl rfl d_Acc_init_39 ?_
        refine lv_iconst (v := -1) hx hb d_Acc_init_40 (by decide) ?_
        refine h_cv (G := G) (h_runS (G := G) (G' := G) (I := fun Hz => Hz = H9) hx hb hml hown hts hE hW.2.2 (Nat.le_refl _) rfl (Nat.le_trans hbs hW.2.2.1) rfl (h_fill l G H9 _ 13 _ 3 (fun _ => 0) (-1) rfl (by decide) hW.1 hW.2.1) kw_538 kw_162 kw_26 kw_160 rfl rfl hd_Arrays_fill ⟨Nat.le_of_ble_eq_true rfl, Nat.le_of_ble_eq_true rfl⟩ (As := [.ref (sa + 13), .int (-1)]) (rest := []) rfl hl.1 rfl (Nat.le_of_ble_eq_true rfl) d_Acc_init_41 ⟨Nat.le_of_ble_eq_true rfl, Nat.le_of_ble_eq_true rfl⟩) hW.2.2 (Nat.le_refl _) (fun H9 locs hJ hq9 hk9 hS9 => ?_)
        obtain ⟨hJ1, hJ2⟩ := hJ
        have hW : WW G zs.heap [(sa, .inr (iAcc, [.ref (sa + 1), .ref (sa + 10)])), (sa + 1, aR (gC G 3) (8) (fun i => if i < 8 then some (sa + 1 + 1 + i) else none)), (sa + 2, aI (gC G 0) (3) (fun _ => 0)), (sa + 3, aI (gC G 0) (3) (fun _ => 0)), (sa + 4, aI (gC G 0) (3) (fun _ => 0)), (sa + 5, aI (gC G 0) (3) (fun _ => 0)), (sa + 6, aI (gC G 0) (3) (fun _ => 0)), (sa + 7, aI (gC G 0) (3) (fun _ => 0)), (sa + 8, aI (gC G 0) (3) (fun _ => 0)), (sa + 9, aI (gC G 0) (3) (fun _ => 0)), (sa + 10, aR (gC G 3) (8) (fun i => if i < 8 then some (sa + 10 + 1 + i) else none)), (sa + 11, aI (gC G 0) (3) (flF (fun _ => 0) (-1) 3)), (sa + 12, aI (gC G 0) (3) (flF (fun _ => 0) (-1) 3)), (sa + 13, aI (gC G 0) (3) (flF (fun _ => 0) (-1) 3)), (sa + 14, aI (gC G 0) (3) (fun _ => 0)), (sa + 15, aI (gC G 0) (3) (fun _ => 0)), (sa + 16, aI (gC G 0) (3) (fun _ => 0)), (sa + 17, aI (gC G 0) (3) (fun _ => 0)), (sa + 18, aI (gC G 0) (3) (fun _ => 0))] H9 locs := ⟨hJ1, hJ2, hS9⟩
        refine lv_iinc (v := 3) (lv' := [(1, .int (3)), (0, .ref sa)]) hx hb d_Acc_init_44 hl (k := 0) rfl (by decide) (by decide) rfl (fun ls hl => ?_)
        refine lv_goto (tgt := 28) hx hb d_Acc_init_47 (by decide) ?_
        refine lv_iload_n hx hb d_Acc_init_28 rfl (lv_at hl 0 rfl) ?_
        refine lv_bipush (v := 8) hx hb d_Acc_init_29 (by decide) ?_
        refine lv_icmp_ge (tgt := 50) hx hb d_Acc_init_31 (by decide) (fun c_4 => ?_) (fun c_4 => ?_)
        · exact absurd c_4 (by decide)
        · skip
          refine lv_aload_n hx hb d_Acc_init_34 rfl (lv_at hl 1 rfl) ?_
          refine va_get (v := .ref (sa + 10)) hx hb hts i_Acc hown hK hW.1 0 rfl rfl 1 (by decide) (hts _ kw_149) (fun _ h => h) rfl d_Acc_init_35 ?_
          refine lv_iload_n hx hb d_Acc_init_38 rfl (lv_at hl 0 rfl) ?_
          refine h_aldA (j := 3) (q := sa + 14) hx hb hK hW.1 10 rfl (by decide) (by decide) rfl rfl d_Acc_init_39 ?_
          refine lv_iconst (v := -1) hx hb d_Acc_init_40 (by decide) ?_
          refine h_cv (G := G) (h_runS (G := G) (G' := G) (I := fun Hz => Hz = H9) hx hb hml hown hts hE hW.2.2 (Nat.le_refl _) rfl (Nat.le_trans hbs hW.2.2.1) rfl (h_fill l G H9 _ 14 _ 3 (fun _ => 0) (-1) rfl (by decide) hW.1 hW.2.1) kw_538 kw_162 kw_26 kw_160 rfl rfl hd_Arrays_fill ⟨Nat.le_of_ble_eq_true rfl, Nat.le_of_ble_eq_true rfl⟩ (As := [.ref (sa + 14), .int (-1)]) (rest := []) rfl hl.1 rfl (Nat.le_of_ble_eq_true rfl) d_Acc_init_41 ⟨Nat.le_of_ble_eq_true rfl, Nat.le_of_ble_eq_true rfl⟩) hW.2.2 (Nat.le_refl _) (fun H9 locs hJ hq9 hk9 hS9 => ?_)
          obtain ⟨hJ1, hJ2⟩ := hJ
          have hW : WW G zs.heap [(sa, .inr (iAcc, [.ref (sa + 1), .ref (sa + 10)])), (sa + 1, aR (gC G 3) (8) (fun i => if i < 8 then some (sa + 1 + 1 + i) else none)), (sa + 2, aI (gC G 0) (3) (fun _ => 0)), (sa + 3, aI (gC G 0) (3) (fun _ => 0)), (sa + 4, aI (gC G 0) (3) (fun _ => 0)), (sa + 5, aI (gC G 0) (3) (fun _ => 0)), (sa + 6, aI (gC G 0) (3) (fun _ => 0)), (sa + 7, aI (gC G 0) (3) (fun _ => 0)), (sa + 8, aI (gC G 0) (3) (fun _ => 0)), (sa + 9, aI (gC G 0) (3) (fun _ => 0)), (sa + 10, aR (gC G 3) (8) (fun i => if i < 8 then some (sa + 10 + 1 + i) else none)), (sa + 11, aI (gC G 0) (3) (flF (fun _ => 0) (-1) 3)), (sa + 12, aI (gC G 0) (3) (flF (fun _ => 0) (-1) 3)), (sa + 13, aI (gC G 0) (3) (flF (fun _ => 0) (-1) 3)), (sa + 14, aI (gC G 0) (3) (flF (fun _ => 0) (-1) 3)), (sa + 15, aI (gC G 0) (3) (fun _ => 0)), (sa + 16, aI (gC G 0) (3) (fun _ => 0)), (sa + 17, aI (gC G 0) (3) (fun _ => 0)), (sa + 18, aI (gC G 0) (3) (fun _ => 0))] H9 locs := ⟨hJ1, hJ2, hS9⟩
          refine lv_iinc (v := 4) (lv' := [(1, .int (4)), (0, .ref sa)]) hx hb d_Acc_init_44 hl (k := 0) rfl (by decide) (by decide) rfl (fun ls hl => ?_)
          refine lv_goto (tgt := 28) hx hb d_Acc_init_47 (by decide) ?_
          refine lv_iload_n hx hb d_Acc_init_28 rfl (lv_at hl 0 rfl) ?_
          refine lv_bipush (v := 8) hx hb d_Acc_init_29 (by decide) ?_
          refine lv_icmp_ge (tgt := 50) hx hb d_Acc_init_31 (by decide) (fun c_5 => ?_) (fun c_5 => ?_)
          · exact absurd c_5 (by decide)
          · skip
            refine lv_aload_n hx hb d_Acc_init_34 rfl (lv_at hl 1 rfl) ?_
            refine va_get (v := .ref (sa + 10)) hx hb hts i_Acc hown hK hW.1 0 rfl rfl 1 (by decide) (hts _ kw_149) (fun _ h => h) rfl d_Acc_init_35 ?_
            refine lv_iload_n hx hb d_Acc_init_38 rfl (lv_at hl 0 rfl) ?_
            refine h_aldA (j := 4) (q := sa + 15) hx hb hK hW.1 10 rfl (by decide) (by decide) rfl rfl d_Acc_init_39 ?_
            refine lv_iconst (v := -1) hx hb d_Acc_init_40 (by decide) ?_
            refine h_cv (G := G) (h_runS (G := G) (G' := G) (I := fun Hz => Hz = H9) hx hb hml hown hts hE hW.2.2 (Nat.le_refl _) rfl (Nat.le_trans hbs hW.2.2.1) rfl (h_fill l G H9 _ 15 _ 3 (fun _ => 0) (-1) rfl (by decide) hW.1 hW.2.1) kw_538 kw_162 kw_26 kw_160 rfl rfl hd_Arrays_fill ⟨Nat.le_of_ble_eq_true rfl, Nat.le_of_ble_eq_true rfl⟩ (As := [.ref (sa + 15), .int (-1)]) (rest := []) rfl hl.1 rfl (Nat.le_of_ble_eq_true rfl) d_Acc_init_41 ⟨Nat.le_of_ble_eq_true rfl, Nat.le_of_ble_eq_true rfl⟩) hW.2.2 (Nat.le_refl _) (fun H9 locs hJ hq9 hk9 hS9 => ?_)
            obtain ⟨hJ1, hJ2⟩ := hJ
            have hW : WW G zs.heap [(sa, .inr (iAcc, [.ref (sa + 1), .ref (sa + 10)])), (sa + 1, aR (gC G 3) (8) (fun i => if i < 8 then some (sa + 1 + 1 + i) else none)), (sa + 2, aI (gC G 0) (3) (fun _ => 0)), (sa + 3, aI (gC G 0) (3) (fun _ => 0)), (sa + 4, aI (gC G 0) (3) (fun _ => 0)), (sa + 5, aI (gC G 0) (3) (fun _ => 0)), (sa + 6, aI (gC G 0) (3) (fun _ => 0)), (sa + 7, aI (gC G 0) (3) (fun _ => 0)), (sa + 8, aI (gC G 0) (3) (fun _ => 0)), (sa + 9, aI (gC G 0) (3) (fun _ => 0)), (sa + 10, aR (gC G 3) (8) (fun i => if i < 8 then some (sa + 10 + 1 + i) else none)), (sa + 11, aI (gC G 0) (3) (flF (fun _ => 0) (-1) 3)), (sa + 12, aI (gC G 0) (3) (flF (fun _ => 0) (-1) 3)), (sa + 13, aI (gC G 0) (3) (flF (fun _ => 0) (-1) 3)), (sa + 14, aI (gC G 0) (3) (flF (fun _ => 0) (-1) 3)), (sa + 15, aI (gC G 0) (3) (flF (fun _ => 0) (-1) 3)), (sa + 16, aI (gC G 0) (3) (fun _ => 0)), (sa + 17, aI (gC G 0) (3) (fun _ => 0)), (sa + 18, aI (gC G 0) (3) (fun _ => 0))] H9 locs := ⟨hJ1, hJ2, hS9⟩
            refine lv_iinc (v := 5) (lv' := [(1, .int (5)), (0, .ref sa)]) hx hb d_Acc_init_44 hl (k := 0) rfl (by decide) (by decide) rfl (fun ls hl => ?_)
            refine lv_goto (tgt := 28) hx hb d_Acc_init_47 (by decide) ?_
            refine lv_iload_n hx hb d_Acc_init_28 rfl (lv_at hl 0 rfl) ?_
            refine lv_bipush (v := 8) hx hb d_Acc_init_29 (by decide) ?_
            refine lv_icmp_ge (tgt := 50) hx hb d_Acc_init_31 (by decide) (fun c_6 => ?_) (fun c_6 => ?_)
            · exact absurd c_6 (by decide)
            · skip
              refine lv_aload_n hx hb d_Acc_init_34 rfl (lv_at hl 1 rfl) ?_
              refine va_get (v := .ref (sa + 10)) hx hb hts i_Acc hown hK hW.1 0 rfl rfl 1 (by decide) (hts _ kw_149) (fun _ h => h) rfl d_Acc_init_35 ?_
              refine lv_iload_n hx hb d_Acc_init_38 rfl (lv_at hl 0 rfl) ?_
              refine h_aldA (j := 5) (q := sa + 16) hx hb hK hW.1 10 rfl (by decide) (by decide) rfl rfl d_Acc_init_39 ?_
              refine lv_iconst (v := -1) hx hb d_Acc_init_40 (by decide) ?_
              refine h_cv (G := G) (h_runS (G := G) (G' := G) (I := fun Hz => Hz = H9) hx hb hml hown hts hE hW.2.2 (Nat.le_refl _) rfl (Nat.le_trans hbs hW.2.2.1) rfl (h_fill l G H9 _ 16 _ 3 (fun _ => 0) (-1) rfl (by decide) hW.1 hW.2.1) kw_538 kw_162 kw_26 kw_160 rfl rfl hd_Arrays_fill ⟨Nat.le_of_ble_eq_true rfl, Nat.le_of_ble_eq_true rfl⟩ (As := [.ref (sa + 16), .int (-1)]) (rest := []) rfl hl.1 rfl (Nat.le_of_ble_eq_true rfl) d_Acc_init_41 ⟨Nat.le_of_ble_eq_true rfl, Nat.le_of_ble_eq_true rfl⟩) hW.2.2 (Nat.le_refl _) (fun H9 locs hJ hq9 hk9 hS9 => ?_)
              obtain ⟨hJ1, hJ2⟩ := hJ
              have hW : WW G zs.heap [(sa, .inr (iAcc, [.ref (sa + 1), .ref (sa + 10)])), (sa + 1, aR (gC G 3) (8) (fun i => if i < 8 then some (sa + 1 + 1 + i) else none)), (sa + 2, aI (gC G 0) (3) (fun _ => 0)), (sa + 3, aI (gC G 0) (3) (fun _ => 0)), (sa + 4, aI (gC G 0) (3) (fun _ => 0)), (sa + 5, aI (gC G 0) (3) (fun _ => 0)), (sa + 6, aI (gC G 0) (3) (fun _ => 0)), (sa + 7, aI (gC G 0) (3) (fun _ => 0)), (sa + 8, aI (gC G 0) (3) (fun _ => 0)), (sa + 9, aI (gC G 0) (3) (fun _ => 0)), (sa + 10, aR (gC G 3) (8) (fun i => if i < 8 then some (sa + 10 + 1 + i) else none)), (sa + 11, aI (gC G 0) (3) (flF (fun _ => 0) (-1) 3)), (sa + 12, aI (gC G 0) (3) (flF (fun _ => 0) (-1) 3)), (sa + 13, aI (gC G 0) (3) (flF (fun _ => 0) (-1) 3)), (sa + 14, aI (gC G 0) (3) (flF (fun _ => 0) (-1) 3)), (sa + 15, aI (gC G 0) (3) (flF (fun _ => 0) (-1) 3)), (sa + 16, aI (gC G 0) (3) (flF (fun _ => 0) (-1) 3)), (sa + 17, aI (gC G 0) (3) (fun _ => 0)), (sa + 18, aI (gC G 0) (3) (fun _ => 0))] H9 locs := ⟨hJ1, hJ2, hS9⟩
              refine lv_iinc (v := 6) (lv' := [(1, .int (6)), (0, .ref sa)]) hx hb d_Acc_init_44 hl (k := 0) rfl (by decide) (by decide) rfl (fun ls hl => ?_)
              refine lv_goto (tgt := 28) hx hb d_Acc_init_47 (by decide) ?_
              refine lv_iload_n hx hb d_Acc_init_28 rfl (lv_at hl 0 rfl) ?_
              refine lv_bipush (v := 8) hx hb d_Acc_init_29 (by decide) ?_
              refine lv_icmp_ge (tgt := 50) hx hb d_Acc_init_31 (by decide) (fun c_7 => ?_) (fun c_7 => ?_)
              · exact absurd c_7 (by decide)
              · skip
                refine lv_aload_n hx hb d_Acc_init_34 rfl (lv_at hl 1 rfl) ?_
                refine va_get (v := .ref (sa + 10)) hx hb hts i_Acc hown hK hW.1 0 rfl rfl 1 (by decide) (hts _ kw_149) (fun _ h => h) rfl d_Acc_init_35 ?_
                refine lv_iload_n hx hb d_Acc_init_38 rfl (lv_at hl 0 rfl) ?_
                refine h_aldA (j := 6) (q := sa + 17) hx hb hK hW.1 10 rfl (by decide) (by decide) rfl rfl d_Acc_init_39 ?_
                refine lv_iconst (v := -1) hx hb d_Acc_init_40 (by decide) ?_
                refine h_cv (G := G) (h_runS (G := G) (G' := G) (I := fun Hz => Hz = H9) hx hb hml hown hts hE hW.2.2 (Nat.le_refl _) rfl (Nat.le_trans hbs hW.2.2.1) rfl (h_fill l G H9 _ 17 _ 3 (fun _ => 0) (-1) rfl (by decide) hW.1 hW.2.1) kw_538 kw_162 kw_26 kw_160 rfl rfl hd_Arrays_fill ⟨Nat.le_of_ble_eq_true rfl, Nat.le_of_ble_eq_true rfl⟩ (As := [.ref (sa + 17), .int (-1)]) (rest := []) rfl hl.1 rfl (Nat.le_of_ble_eq_true rfl) d_Acc_init_41 ⟨Nat.le_of_ble_eq_true rfl, Nat.le_of_ble_eq_true rfl⟩) hW.2.2 (Nat.le_refl _) (fun H9 locs hJ hq9 hk9 hS9 => ?_)
                obtain ⟨hJ1, hJ2⟩ := hJ
                have hW : WW G zs.heap [(sa, .inr (iAcc, [.ref (sa + 1), .ref (sa + 10)])), (sa + 1, aR (gC G 3) (8) (fun i => if i < 8 then some (sa + 1 + 1 + i) else none)), (sa + 2, aI (gC G 0) (3) (fun _ => 0)), (sa + 3, aI (gC G 0) (3) (fun _ => 0)), (sa + 4, aI (gC G 0) (3) (fun _ => 0)), (sa + 5, aI (gC G 0) (3) (fun _ => 0)), (sa + 6, aI (gC G 0) (3) (fun _ => 0)), (sa + 7, aI (gC G 0) (3) (fun _ => 0)), (sa + 8, aI (gC G 0) (3) (fun _ => 0)), (sa + 9, aI (gC G 0) (3) (fun _ => 0)), (sa + 10, aR (gC G 3) (8) (fun i => if i < 8 then some (sa + 10 + 1 + i) else none)), (sa + 11, aI (gC G 0) (3) (flF (fun _ => 0) (-1) 3)), (sa + 12, aI (gC G 0) (3) (flF (fun _ => 0) (-1) 3)), (sa + 13, aI (gC G 0) (3) (flF (fun _ => 0) (-1) 3)), (sa + 14, aI (gC G 0) (3) (flF (fun _ => 0) (-1) 3)), (sa + 15, aI (gC G 0) (3) (flF (fun _ => 0) (-1) 3)), (sa + 16, aI (gC G 0) (3) (flF (fun _ => 0) (-1) 3)), (sa + 17, aI (gC G 0) (3) (flF (fun _ => 0) (-1) 3)), (sa + 18, aI (gC G 0) (3) (fun _ => 0))] H9 locs := ⟨hJ1, hJ2, hS9⟩
                refine lv_iinc (v := 7) (lv' := [(1, .int (7)), (0, .ref sa)]) hx hb d_Acc_init_44 hl (k := 0) rfl (by decide) (by decide) rfl (fun ls hl => ?_)
                refine lv_goto (tgt := 28) hx hb d_Acc_init_47 (by decide) ?_
                refine lv_iload_n hx hb d_Acc_init_28 rfl (lv_at hl 0 rfl) ?_
                refine lv_bipush (v := 8) hx hb d_Acc_init_29 (by decide) ?_
                refine lv_icmp_ge (tgt := 50) hx hb d_Acc_init_31 (by decide) (fun c_8 => ?_) (fun c_8 => ?_)
                · exact absurd c_8 (by decide)
                · skip
                  refine lv_aload_n hx hb d_Acc_init_34 rfl (lv_at hl 1 rfl) ?_
                  refine va_get (v := .ref (sa + 10)) hx hb hts i_Acc hown hK hW.1 0 rfl rfl 1 (by decide) (hts _ kw_149) (fun _ h => h) rfl d_Acc_init_35 ?_
                  refine lv_iload_n hx hb d_Acc_init_38 rfl (lv_at hl 0 rfl) ?_
                  refine h_aldA (j := 7) (q := sa + 18) hx hb hK hW.1 10 rfl (by decide) (by decide) rfl rfl d_Acc_init_39 ?_
                  refine lv_iconst (v := -1) hx hb d_Acc_init_40 (by decide) ?_
                  refine h_cv (G := G) (h_runS (G := G) (G' := G) (I := fun Hz => Hz = H9) hx hb hml hown hts hE hW.2.2 (Nat.le_refl _) rfl (Nat.le_trans hbs hW.2.2.1) rfl (h_fill l G H9 _ 18 _ 3 (fun _ => 0) (-1) rfl (by decide) hW.1 hW.2.1) kw_538 kw_162 kw_26 kw_160 rfl rfl hd_Arrays_fill ⟨Nat.le_of_ble_eq_true rfl, Nat.le_of_ble_eq_true rfl⟩ (As := [.ref (sa + 18), .int (-1)]) (rest := []) rfl hl.1 rfl (Nat.le_of_ble_eq_true rfl) d_Acc_init_41 ⟨Nat.le_of_ble_eq_true rfl, Nat.le_of_ble_eq_true rfl⟩) hW.2.2 (Nat.le_refl _) (fun H9 locs hJ hq9 hk9 hS9 => ?_)
                  obtain ⟨hJ1, hJ2⟩ := hJ
                  have hW : WW G zs.heap [(sa, .inr (iAcc, [.ref (sa + 1), .ref (sa + 10)])), (sa + 1, aR (gC G 3) (8) (fun i => if i < 8 then some (sa + 1 + 1 + i) else none)), (sa + 2, aI (gC G 0) (3) (fun _ => 0)), (sa + 3, aI (gC G 0) (3) (fun _ => 0)), (sa + 4, aI (gC G 0) (3) (fun _ => 0)), (sa + 5, aI (gC G 0) (3) (fun _ => 0)), (sa + 6, aI (gC G 0) (3) (fun _ => 0)), (sa + 7, aI (gC G 0) (3) (fun _ => 0)), (sa + 8, aI (gC G 0) (3) (fun _ => 0)), (sa + 9, aI (gC G 0) (3) (fun _ => 0)), (sa + 10, aR (gC G 3) (8) (fun i => if i < 8 then some (sa + 10 + 1 + i) else none)), (sa + 11, aI (gC G 0) (3) (flF (fun _ => 0) (-1) 3)), (sa + 12, aI (gC G 0) (3) (flF (fun _ => 0) (-1) 3)), (sa + 13, aI (gC G 0) (3) (flF (fun _ => 0) (-1) 3)), (sa + 14, aI (gC G 0) (3) (flF (fun _ => 0) (-1) 3)), (sa + 15, aI (gC G 0) (3) (flF (fun _ => 0) (-1) 3)), (sa + 16, aI (gC G 0) (3) (flF (fun _ => 0) (-1) 3)), (sa + 17, aI (gC G 0) (3) (flF (fun _ => 0) (-1) 3)), (sa + 18, aI (gC G 0) (3) (flF (fun _ => 0) (-1) 3))] H9 locs := ⟨hJ1, hJ2, hS9⟩
                  refine lv_iinc (v := 8) (lv' := [(1, .int (8)), (0, .ref sa)]) hx hb d_Acc_init_44 hl (k := 0) rfl (by decide) (by decide) rfl (fun ls hl => ?_)
                  refine lv_goto (tgt := 28) hx hb d_Acc_init_47 (by decide) ?_
                  refine lv_iload_n hx hb d_Acc_init_28 rfl (lv_at hl 0 rfl) ?_
                  refine lv_bipush (v := 8) hx hb d_Acc_init_29 (by decide) ?_
                  refine lv_icmp_ge (tgt := 50) hx hb d_Acc_init_31 (by decide) (fun c_9 => ?_) (fun c_9 => ?_)
                  · skip
                    refine W_sz (fun hzu => ?_)
                    have hzl := (va_P_mem.mp hW.1 _ (List.mem_of_getElem? (i := 18) rfl)).lt
                    have hz : Array.size H9 = sa + 19 := sz_eq hzu hz0 hzl rfl rfl
                    exact h_vret hx hb hr hlk hW.2.2 ⟨hW.1, bs_D hW.2.1 (ls_AccI G sa), hz⟩ (Nat.le_of_ble_eq_true rfl) (Nat.le_of_ble_eq_true rfl) d_Acc_init_50
                  · exact absurd c_9 (by decide)
def wLedI1 (G : GT) (sa : Nat) : va_W := [(sa, .inr (iLed, [.int (0), .int (0), .int (-1), .ref (sa + 1), .ref (sa + 2), .ref (sa + 4)])), (sa + 1, aI (gC G 1) (1) (fun _ => 0)), (sa + 2, aR (gC G 3) (1) (fun i => if i < 1 then some (sa + 2 + 1 + i) else none)), (sa + 3, aI (gC G 0) (3) (fun _ => 0)), (sa + 4, aR (gC G 3) (1) (fun i => if i < 1 then some (sa + 4 + 1 + i) else none)), (sa + 5, aI (gC G 0) (3) (flF (fun _ => 0) (-1) 3))]
theorem ls_LedI1 (G : GT) (sa : Nat) : ∀ q ∈ wLedI1 G sa, sa ≤ q.1 := by
  intro q hq
  unfold wLedI1 at hq
  simp only [List.mem_cons, List.not_mem_nil, or_false] at hq
  rcases hq with rfl | rfl | rfl | rfl | rfl | rfl <;> simp
set_option maxHeartbeats 4000000 in
set_option maxRecDepth 100000 in
theorem h_LedI1 (l : Launch) (G : GT) (Hx : Heap) (sa : Nat) (hz0 : Array.size Hx = sa + 1) (hP : va_P G.1 gcl [(sa, .inr (iLed, [.int (0), .int (0), .int (0), .null, .null, .null]))] Hx) (hD : va_D (gAb G) [(sa, .inr (iLed, [.int (0), .int (0), .int (0), .null, .null, .null]))]) : Met l y_Led_init (.code y_Led_init b_Led_init 3 none :: WS) { frames := 1, cells := 5, slots := 9, locals := 30 } (hPre G [.ref sa, .int (1)] (fun H9 => H9 = Hx)) (hQv G (fun H9 => va_P G.1 gcl (wLedI1 G sa) H9 ∧ va_D (fun q => sa ≤ q) (wLedI1 G sa) ∧ Array.size H9 = sa + 6)) 5 9 (gAb G) := by
  refine h_startI (own := R_Led) (by decide +kernel) rfl (Nat.le_of_ble_eq_true rfl) ?_
  intro p e zs zm below meth zc ls hini C hI hl
  subst hI
  obtain ⟨hx, hb, hr, hml, hown, hts, hlk, hE, hbs⟩ := C
  have hK := hE.1
  have hl : lv_has ls 3 [(0, .ref sa), (1, .int (1))] := hl
  obtain ⟨locs, hlocs⟩ : ∃ l9 : List Loc, l9 = [] := ⟨_, rfl⟩
  rw [← hlocs]
  have hW : WW G zs.heap [(sa, .inr (iLed, [.int (0), .int (0), .int (0), .null, .null, .null]))] zs.heap locs := ⟨hP, hD, by rw [hlocs]; exact va_S.rf⟩
  refine lv_aload_n hx hb d_Led_init_0 rfl (lv_at hl 0 rfl) ?_
  refine h_oinit hx hb hown (hts _ kw_539) (hts _ kw_89) (hts _ kw_90) (by rw [hml]; exact hl.1) d_Led_init_1 (Nat.le_of_ble_eq_true rfl) (Nat.le_of_ble_eq_true rfl) ?_
  refine lv_aload_n hx hb d_Led_init_4 rfl (lv_at hl 0 rfl) ?_
  refine lv_iconst (v := 0) hx hb d_Led_init_5 (by decide) ?_
  refine va_put hx hb hts i_Led t_Led t_Led_ok n_Led hown hK hW.1 hW.2.1 hW.2.2 0 rfl rfl 0 (by decide) (hts _ kw_177) (fun _ h => h) rfl (t_Led_ok 0 (by decide)) rfl rfl (Nat.le_of_ble_eq_true rfl) d_Led_init_6 (fun H locs h1 h2 h3 => ?_)
  have hW : WW G zs.heap [(sa, .inr (iLed, [.int (0), .int (0), .int (0), .null, .null, .null]))] H locs := ⟨h1, h2, h3⟩
  refine lv_aload_n hx hb d_Led_init_9 rfl (lv_at hl 0 rfl) ?_
  refine lv_iconst (v := 0) hx hb d_Led_init_10 (by decide) ?_
  refine va_put hx hb hts i_Led t_Led t_Led_ok n_Led hown hK hW.1 hW.2.1 hW.2.2 0 rfl rfl 1 (by decide) (hts _ kw_181) (fun _ h => h) rfl (t_Led_ok 1 (by decide)) rfl rfl (Nat.le_of_ble_eq_true rfl) d_Led_init_11 (fun H locs h1 h2 h3 => ?_)
  have hW : WW G zs.heap [(sa, .inr (iLed, [.int (0), .int (0), .int (0), .null, .null, .null]))] H locs := ⟨h1, h2, h3⟩
  refine lv_aload_n hx hb d_Led_init_14 rfl (lv_at hl 0 rfl) ?_
  refine lv_iconst (v := -1) hx hb d_Led_init_15 (by decide) ?_
  refine va_put hx hb hts i_Led t_Led t_Led_ok n_Led hown hK hW.1 hW.2.1 hW.2.2 0 rfl rfl 2 (by decide) (hts _ kw_186) (fun _ h => h) rfl (t_Led_ok 2 (by decide)) rfl rfl (Nat.le_of_ble_eq_true rfl) d_Led_init_16 (fun H locs h1 h2 h3 => ?_)
  have hW : WW G zs.heap [(sa, .inr (iLed, [.int (0), .int (0), .int (-1), .null, .null, .null]))] H locs := ⟨h1, h2, h3⟩
  refine lv_aload_n hx hb d_Led_init_19 rfl (lv_at hl 0 rfl) ?_
  refine lv_iload_n hx hb d_Led_init_20 rfl (lv_at hl 1 rfl) ?_
  refine W_sz (fun hzu => ?_)
  have hzl := (va_P_mem.mp hW.1 _ (List.mem_of_getElem? (i := 0) rfl)).lt
  have hz : Array.size H = sa + 1 := sz_eq hzu hz0 hzl rfl rfl
  refine h_newa (G := G) (atype := .boolean) (t0 := 1) (N' := 1) (a0 := (1, .inl (fun _ => 0))) hx hb hts kw_540 (List.mem_of_getElem? (i := 1) rfl) hE hW.2.2 (fun _ => by first | rfl | (rw [vp_cell_i]; rfl)) (by decide) (by decide) (by decide) (Nat.le_of_ble_eq_true rfl) (Nat.le_of_ble_eq_true rfl) d_Led_init_21 (fun H ha9 hz9 hk9 hS9 => ?_)
  rw [hz] at ha9 ⊢
  have hW := WW_push2 hW hbs hz ha9 hk9 hS9
  have hW : WW G zs.heap [(sa, .inr (iLed, [.int (0), .int (0), .int (-1), .null, .null, .null])), (sa + 1, aI (gC G 1) (1) (fun _ => 0))] H locs := hW
  refine va_putF hx hb hts i_Led t_Led t_Led_ok n_Led hown hK hW.1 hW.2.1 hW.2.2 0 rfl rfl 3 (by decide) (hts _ kw_152) (fun _ h => h) rfl hini rfl (t_Led_ok 3 (by decide)) rfl rfl (Nat.le_of_ble_eq_true rfl) d_Led_init_23 (fun H locs h1 h2 h3 => ?_)
  have hW : WW G zs.heap [(sa, .inr (iLed, [.int (0), .int (0), .int (-1), .ref (sa + 1), .null, .null])), (sa + 1, aI (gC G 1) (1) (fun _ => 0))] H locs := ⟨h1, h2, h3⟩
  refine lv_aload_n hx hb d_Led_init_26 rfl (lv_at hl 0 rfl) ?_
  refine lv_iload_n hx hb d_Led_init_27 rfl (lv_at hl 1 rfl) ?_
  refine lv_iconst (v := 3) hx hb d_Led_init_28 (by decide) ?_
  refine W_sz (fun hzu => ?_)
  have hzl := (va_P_mem.mp hW.1 _ (List.mem_of_getElem? (i := 1) rfl)).lt
  have hz : Array.size H = sa + 2 := sz_eq hzu hz0 hzl rfl rfl
  have hlt0 := WW_lt hW
  rw [hz] at hlt0
  refine h_mna (G := G) (N' := 1) (K' := 3) hx hb hts hown kw_541 kw_532 hE hW.2.2 (by decide) (by decide) (by decide) (by decide) (by decide) (by decide) (by decide) (Nat.le_of_ble_eq_true rfl) (Nat.le_of_ble_eq_true rfl) d_Led_init_29 (fun H ha9 hr9 hz9 hk9 hS9 => ?_)
  rw [hz] at ha9 hr9 hk9 ⊢
  obtain ⟨hB1, hB2⟩ := mna_block ha9 hr9
  have hW := WW_block hW hlt0 (gs_le hbs hz0 (by decide)) (fun q h1 _ => hk9 q (by rw [hz] at h1; exact h1)) hB1 hB2 hS9
  have hW : WW G zs.heap [(sa, .inr (iLed, [.int (0), .int (0), .int (-1), .ref (sa + 1), .null, .null])), (sa + 1, aI (gC G 1) (1) (fun _ => 0)), (sa + 2, aR (gC G 3) (1) (fun i => if i < 1 then some (sa + 2 + 1 + i) else none)), (sa + 3, aI (gC G 0) (3) (fun _ => 0))] H locs := hW
  refine va_putF hx hb hts i_Led t_Led t_Led_ok n_Led hown hK hW.1 hW.2.1 hW.2.2 0 rfl rfl 4 (by decide) (hts _ kw_154) (fun _ h => h) rfl hini rfl (t_Led_ok 4 (by decide)) rfl rfl (Nat.le_of_ble_eq_true rfl) d_Led_init_33 (fun H locs h1 h2 h3 => ?_)
  have hW : WW G zs.heap [(sa, .inr (iLed, [.int (0), .int (0), .int (-1), .ref (sa + 1), .ref (sa + 2), .null])), (sa + 1, aI (gC G 1) (1) (fun _ => 0)), (sa + 2, aR (gC G 3) (1) (fun i => if i < 1 then some (sa + 2 + 1 + i) else none)), (sa + 3, aI (gC G 0) (3) (fun _ => 0))] H locs := ⟨h1, h2, h3⟩
  refine lv_aload_n hx hb d_Led_init_36 rfl (lv_at hl 0 rfl) ?_
  refine lv_iload_n hx hb d_Led_init_37 rfl (lv_at hl 1 rfl) ?_
  refine lv_iconst (v := 3) hx hb d_Led_init_38 (by decide) ?_
  refine W_sz (fun hzu => ?_)
  have hzl := (va_P_mem.mp hW.1 _ (List.mem_of_getElem? (i := 3) rfl)).lt
  have hz : Array.size H = sa + 4 := sz_eq hzu hz0 hzl rfl rfl
  have hlt0 := WW_lt hW
  rw [hz] at hlt0
  refine h_mna (G := G) (N' := 1) (K' := 3) hx hb hts hown kw_541 kw_532 hE hW.2.2 (by decide) (by decide) (by decide) (by decide) (by decide) (by decide) (by decide) (Nat.le_of_ble_eq_true rfl) (Nat.le_of_ble_eq_true rfl) d_Led_init_39 (fun H ha9 hr9 hz9 hk9 hS9 => ?_)
  rw [hz] at ha9 hr9 hk9 ⊢
  obtain ⟨hB1, hB2⟩ := mna_block ha9 hr9
  have hW := WW_block hW hlt0 (gs_le hbs hz0 (by decide)) (fun q h1 _ => hk9 q (by rw [hz] at h1; exact h1)) hB1 hB2 hS9
  have hW : WW G zs.heap [(sa, .inr (iLed, [.int (0), .int (0), .int (-1), .ref (sa + 1), .ref (sa + 2), .null])), (sa + 1, aI (gC G 1) (1) (fun _ => 0)), (sa + 2, aR (gC G 3) (1) (fun i => if i < 1 then some (sa + 2 + 1 + i) else none)), (sa + 3, aI (gC G 0) (3) (fun _ => 0)), (sa + 4, aR (gC G 3) (1) (fun i => if i < 1 then some (sa + 4 + 1 + i) else none)), (sa + 5, aI (gC G 0) (3) (fun _ => 0))] H locs := hW
  refine va_putF hx hb hts i_Led t_Led t_Led_ok n_Led hown hK hW.1 hW.2.1 hW.2.2 0 rfl rfl 5 (by decide) (hts _ kw_153) (fun _ h => h) rfl hini rfl (t_Led_ok 5 (by decide)) rfl rfl (Nat.le_of_ble_eq_true rfl) d_Led_init_43 (fun H locs h1 h2 h3 => ?_)
  have hW : WW G zs.heap [(sa, .inr (iLed, [.int (0), .int (0), .int (-1), .ref (sa + 1), .ref (sa + 2), .ref (sa + 4)])), (sa + 1, aI (gC G 1) (1) (fun _ => 0)), (sa + 2, aR (gC G 3) (1) (fun i => if i < 1 then some (sa + 2 + 1 + i) else none)), (sa + 3, aI (gC G 0) (3) (fun _ => 0)), (sa + 4, aR (gC G 3) (1) (fun i => if i < 1 then some (sa + 4 + 1 + i) else none)), (sa + 5, aI (gC G 0) (3) (fun _ => 0))] H locs := ⟨h1, h2, h3⟩
  refine lv_iconst (v := 0) hx hb d_Led_init_46 (by decide) ?_
  refine lv_istore_n (lv' := [(2, .int (0)), (0, .ref sa), (1, .int (1))]) hx hb d_Led_init_47 rfl hl (by decide) rfl (fun ls hl => ?_)
  refine lv_iload_n hx hb d_Led_init_48 rfl (lv_at hl 0 rfl) ?_
  refine lv_iload_n hx hb d_Led_init_49 rfl (lv_at hl 2 rfl) ?_
  refine lv_icmp_ge (tgt := 69) hx hb d_Led_init_50 (by decide) (fun c_1 => ?_) (fun c_1 => ?_)
  · exact absurd c_1 (by decide)
  · skip
    refine lv_aload_n hx hb d_Led_init_53 rfl (lv_at hl 1 rfl) ?_
    refine va_get (v := .ref (sa + 4)) hx hb hts i_Led hown hK hW.1 0 rfl rfl 5 (by decide) (hts _ kw_153) (fun _ h => h) rfl d_Led_init_54 ?_
    refine lv_iload_n hx hb d_Led_init_57 rfl (lv_at hl 0 rfl) ?_
    refine h_aldA (j := 0) (q := sa + 5) hx hb hK hW.1 4 rfl (by decide) (by decide) rfl rfl d_Led_init_58 ?_
    refine lv_iconst (v := -1) hx hb d_Led_init_59 (by decide) ?_
    refine h_cv (G := G) (h_runS (G := G) (G' := G) (I := fun Hz => Hz = H) hx hb hml hown hts hE hW.2.2 (Nat.le_refl _) rfl (Nat.le_trans hbs hW.2.2.1) rfl (h_fill l G H _ 5 _ 3 (fun _ => 0) (-1) rfl (by decide) hW.1 hW.2.1) kw_187 kw_162 kw_26 kw_160 rfl rfl hd_Arrays_fill ⟨Nat.le_of_ble_eq_true rfl, Nat.le_of_ble_eq_true rfl⟩ (As := [.ref (sa + 5), .int (-1)]) (rest := []) rfl hl.1 rfl (Nat.le_of_ble_eq_true rfl) d_Led_init_60 ⟨Nat.le_of_ble_eq_true rfl, Nat.le_of_ble_eq_true rfl⟩) hW.2.2 (Nat.le_refl _) (fun H9 locs hJ hq9 hk9 hS9 => ?_)
    obtain ⟨hJ1, hJ2⟩ := hJ
    have hW : WW G zs.heap [(sa, .inr (iLed, [.int (0), .int (0), .int (-1), .ref (sa + 1), .ref (sa + 2), .ref (sa + 4)])), (sa + 1, aI (gC G 1) (1) (fun _ => 0)), (sa + 2, aR (gC G 3) (1) (fun i => if i < 1 then some (sa + 2 + 1 + i) else none)), (sa + 3, aI (gC G 0) (3) (fun _ => 0)), (sa + 4, aR (gC G 3) (1) (fun i => if i < 1 then some (sa + 4 + 1 + i) else none)), (sa + 5, aI (gC G 0) (3) (flF (fun _ => 0) (-1) 3))] H9 locs := ⟨hJ1, hJ2, hS9⟩
    refine lv_iinc (v := 1) (lv' := [(2, .int (1)), (0, .ref sa), (1, .int (1))]) hx hb d_Led_init_63 hl (k := 0) rfl (by decide) (by decide) rfl (fun ls hl => ?_)
    refine lv_goto (tgt := 48) hx hb d_Led_init_66 (by decide) ?_
    refine lv_iload_n hx hb d_Led_init_48 rfl (lv_at hl 0 rfl) ?_
    refine lv_iload_n hx hb d_Led_init_49 rfl (lv_at hl 2 rfl) ?_
    refine lv_icmp_ge (tgt := 69) hx hb d_Led_init_50 (by decide) (fun c_2 => ?_) (fun c_2 => ?_)
    · skip
      refine W_sz (fun hzu => ?_)
      have hzl := (va_P_mem.mp hW.1 _ (List.mem_of_getElem? (i := 5) rfl)).lt
      have hz : Array.size H9 = sa + 6 := sz_eq hzu hz0 hzl rfl rfl
      exact h_vret hx hb hr hlk hW.2.2 ⟨hW.1, bs_D hW.2.1 (ls_LedI1 G sa), hz⟩ (Nat.le_of_ble_eq_true rfl) (Nat.le_of_ble_eq_true rfl) d_Led_init_69
    · exact absurd c_2 (by decide)
def wLedI3 (G : GT) (sa : Nat) : va_W := [(sa, .inr (iLed, [.int (0), .int (0), .int (-1), .ref (sa + 1), .ref (sa + 2), .ref (sa + 6)])), (sa + 1, aI (gC G 1) (3) (fun _ => 0)), (sa + 2, aR (gC G 3) (3) (fun i => if i < 3 then some (sa + 2 + 1 + i) else none)), (sa + 3, aI (gC G 0) (3) (fun _ => 0)), (sa + 4, aI (gC G 0) (3) (fun _ => 0)), (sa + 5, aI (gC G 0) (3) (fun _ => 0)), (sa + 6, aR (gC G 3) (3) (fun i => if i < 3 then some (sa + 6 + 1 + i) else none)), (sa + 7, aI (gC G 0) (3) (flF (fun _ => 0) (-1) 3)), (sa + 8, aI (gC G 0) (3) (flF (fun _ => 0) (-1) 3)), (sa + 9, aI (gC G 0) (3) (flF (fun _ => 0) (-1) 3))]
theorem ls_LedI3 (G : GT) (sa : Nat) : ∀ q ∈ wLedI3 G sa, sa ≤ q.1 := by
  intro q hq
  unfold wLedI3 at hq
  simp only [List.mem_cons, List.not_mem_nil, or_false] at hq
  rcases hq with rfl | rfl | rfl | rfl | rfl | rfl | rfl | rfl | rfl | rfl <;> simp
set_option maxHeartbeats 4000000 in
set_option maxRecDepth 100000 in
theorem h_LedI3 (l : Launch) (G : GT) (Hx : Heap) (sa : Nat) (hz0 : Array.size Hx = sa + 1) (hP : va_P G.1 gcl [(sa, .inr (iLed, [.int (0), .int (0), .int (0), .null, .null, .null]))] Hx) (hD : va_D (gAb G) [(sa, .inr (iLed, [.int (0), .int (0), .int (0), .null, .null, .null]))]) : Met l y_Led_init (.code y_Led_init b_Led_init 3 none :: WS) { frames := 1, cells := 9, slots := 27, locals := 30 } (hPre G [.ref sa, .int (3)] (fun H9 => H9 = Hx)) (hQv G (fun H9 => va_P G.1 gcl (wLedI3 G sa) H9 ∧ va_D (fun q => sa ≤ q) (wLedI3 G sa) ∧ Array.size H9 = sa + 10)) 9 27 (gAb G) := by
  refine h_startI (own := R_Led) (by decide +kernel) rfl (Nat.le_of_ble_eq_true rfl) ?_
  intro p e zs zm below meth zc ls hini C hI hl
  subst hI
  obtain ⟨hx, hb, hr, hml, hown, hts, hlk, hE, hbs⟩ := C
  have hK := hE.1
  have hl : lv_has ls 3 [(0, .ref sa), (1, .int (3))] := hl
  obtain ⟨locs, hlocs⟩ : ∃ l9 : List Loc, l9 = [] := ⟨_, rfl⟩
  rw [← hlocs]
  have hW : WW G zs.heap [(sa, .inr (iLed, [.int (0), .int (0), .int (0), .null, .null, .null]))] zs.heap locs := ⟨hP, hD, by rw [hlocs]; exact va_S.rf⟩
  refine lv_aload_n hx hb d_Led_init_0 rfl (lv_at hl 0 rfl) ?_
  refine h_oinit hx hb hown (hts _ kw_539) (hts _ kw_89) (hts _ kw_90) (by rw [hml]; exact hl.1) d_Led_init_1 (Nat.le_of_ble_eq_true rfl) (Nat.le_of_ble_eq_true rfl) ?_
  refine lv_aload_n hx hb d_Led_init_4 rfl (lv_at hl 0 rfl) ?_
  refine lv_iconst (v := 0) hx hb d_Led_init_5 (by decide) ?_
  refine va_put hx hb hts i_Led t_Led t_Led_ok n_Led hown hK hW.1 hW.2.1 hW.2.2 0 rfl rfl 0 (by decide) (hts _ kw_177) (fun _ h => h) rfl (t_Led_ok 0 (by decide)) rfl rfl (Nat.le_of_ble_eq_true rfl) d_Led_init_6 (fun H locs h1 h2 h3 => ?_)
  have hW : WW G zs.heap [(sa, .inr (iLed, [.int (0), .int (0), .int (0), .null, .null, .null]))] H locs := ⟨h1, h2, h3⟩
  refine lv_aload_n hx hb d_Led_init_9 rfl (lv_at hl 0 rfl) ?_
  refine lv_iconst (v := 0) hx hb d_Led_init_10 (by decide) ?_
  refine va_put hx hb hts i_Led t_Led t_Led_ok n_Led hown hK hW.1 hW.2.1 hW.2.2 0 rfl rfl 1 (by decide) (hts _ kw_181) (fun _ h => h) rfl (t_Led_ok 1 (by decide)) rfl rfl (Nat.le_of_ble_eq_true rfl) d_Led_init_11 (fun H locs h1 h2 h3 => ?_)
  have hW : WW G zs.heap [(sa, .inr (iLed, [.int (0), .int (0), .int (0), .null, .null, .null]))] H locs := ⟨h1, h2, h3⟩
  refine lv_aload_n hx hb d_Led_init_14 rfl (lv_at hl 0 rfl) ?_
  refine lv_iconst (v := -1) hx hb d_Led_init_15 (by decide) ?_
  refine va_put hx hb hts i_Led t_Led t_Led_ok n_Led hown hK hW.1 hW.2.1 hW.2.2 0 rfl rfl 2 (by decide) (hts _ kw_186) (fun _ h => h) rfl (t_Led_ok 2 (by decide)) rfl rfl (Nat.le_of_ble_eq_true rfl) d_Led_init_16 (fun H locs h1 h2 h3 => ?_)
  have hW : WW G zs.heap [(sa, .inr (iLed, [.int (0), .int (0), .int (-1), .null, .null, .null]))] H locs := ⟨h1, h2, h3⟩
  refine lv_aload_n hx hb d_Led_init_19 rfl (lv_at hl 0 rfl) ?_
  refine lv_iload_n hx hb d_Led_init_20 rfl (lv_at hl 1 rfl) ?_
  refine W_sz (fun hzu => ?_)
  have hzl := (va_P_mem.mp hW.1 _ (List.mem_of_getElem? (i := 0) rfl)).lt
  have hz : Array.size H = sa + 1 := sz_eq hzu hz0 hzl rfl rfl
  refine h_newa (G := G) (atype := .boolean) (t0 := 1) (N' := 3) (a0 := (3, .inl (fun _ => 0))) hx hb hts kw_540 (List.mem_of_getElem? (i := 1) rfl) hE hW.2.2 (fun _ => by first | rfl | (rw [vp_cell_i]; rfl)) (by decide) (by decide) (by decide) (Nat.le_of_ble_eq_true rfl) (Nat.le_of_ble_eq_true rfl) d_Led_init_21 (fun H ha9 hz9 hk9 hS9 => ?_)
  rw [hz] at ha9 ⊢
  have hW := WW_push2 hW hbs hz ha9 hk9 hS9
  have hW : WW G zs.heap [(sa, .inr (iLed, [.int (0), .int (0), .int (-1), .null, .null, .null])), (sa + 1, aI (gC G 1) (3) (fun _ => 0))] H locs := hW
  refine va_putF hx hb hts i_Led t_Led t_Led_ok n_Led hown hK hW.1 hW.2.1 hW.2.2 0 rfl rfl 3 (by decide) (hts _ kw_152) (fun _ h => h) rfl hini rfl (t_Led_ok 3 (by decide)) rfl rfl (Nat.le_of_ble_eq_true rfl) d_Led_init_23 (fun H locs h1 h2 h3 => ?_)
  have hW : WW G zs.heap [(sa, .inr (iLed, [.int (0), .int (0), .int (-1), .ref (sa + 1), .null, .null])), (sa + 1, aI (gC G 1) (3) (fun _ => 0))] H locs := ⟨h1, h2, h3⟩
  refine lv_aload_n hx hb d_Led_init_26 rfl (lv_at hl 0 rfl) ?_
  refine lv_iload_n hx hb d_Led_init_27 rfl (lv_at hl 1 rfl) ?_
  refine lv_iconst (v := 3) hx hb d_Led_init_28 (by decide) ?_
  refine W_sz (fun hzu => ?_)
  have hzl := (va_P_mem.mp hW.1 _ (List.mem_of_getElem? (i := 1) rfl)).lt
  have hz : Array.size H = sa + 2 := sz_eq hzu hz0 hzl rfl rfl
  have hlt0 := WW_lt hW
  rw [hz] at hlt0
  refine h_mna (G := G) (N' := 3) (K' := 3) hx hb hts hown kw_541 kw_532 hE hW.2.2 (by decide) (by decide) (by decide) (by decide) (by decide) (by decide) (by decide) (Nat.le_of_ble_eq_true rfl) (Nat.le_of_ble_eq_true rfl) d_Led_init_29 (fun H ha9 hr9 hz9 hk9 hS9 => ?_)
  rw [hz] at ha9 hr9 hk9 ⊢
  obtain ⟨hB1, hB2⟩ := mna_block ha9 hr9
  have hW := WW_block hW hlt0 (gs_le hbs hz0 (by decide)) (fun q h1 _ => hk9 q (by rw [hz] at h1; exact h1)) hB1 hB2 hS9
  have hW : WW G zs.heap [(sa, .inr (iLed, [.int (0), .int (0), .int (-1), .ref (sa + 1), .null, .null])), (sa + 1, aI (gC G 1) (3) (fun _ => 0)), (sa + 2, aR (gC G 3) (3) (fun i => if i < 3 then some (sa + 2 + 1 + i) else none)), (sa + 3, aI (gC G 0) (3) (fun _ => 0)), (sa + 4, aI (gC G 0) (3) (fun _ => 0)), (sa + 5, aI (gC G 0) (3) (fun _ => 0))] H locs := hW
  refine va_putF hx hb hts i_Led t_Led t_Led_ok n_Led hown hK hW.1 hW.2.1 hW.2.2 0 rfl rfl 4 (by decide) (hts _ kw_154) (fun _ h => h) rfl hini rfl (t_Led_ok 4 (by decide)) rfl rfl (Nat.le_of_ble_eq_true rfl) d_Led_init_33 (fun H locs h1 h2 h3 => ?_)
  have hW : WW G zs.heap [(sa, .inr (iLed, [.int (0), .int (0), .int (-1), .ref (sa + 1), .ref (sa + 2), .null])), (sa + 1, aI (gC G 1) (3) (fun _ => 0)), (sa + 2, aR (gC G 3) (3) (fun i => if i < 3 then some (sa + 2 + 1 + i) else none)), (sa + 3, aI (gC G 0) (3) (fun _ => 0)), (sa + 4, aI (gC G 0) (3) (fun _ => 0)), (sa + 5, aI (gC G 0) (3) (fun _ => 0))] H locs := ⟨h1, h2, h3⟩
  refine lv_aload_n hx hb d_Led_init_36 rfl (lv_at hl 0 rfl) ?_
  refine lv_iload_n hx hb d_Led_init_37 rfl (lv_at hl 1 rfl) ?_
  refine lv_iconst (v := 3) hx hb d_Led_init_38 (by decide) ?_
  refine W_sz (fun hzu => ?_)
  have hzl := (va_P_mem.mp hW.1 _ (List.mem_of_getElem? (i := 5) rfl)).lt
  have hz : Array.size H = sa + 6 := sz_eq hzu hz0 hzl rfl rfl
  have hlt0 := WW_lt hW
  rw [hz] at hlt0
  refine h_mna (G := G) (N' := 3) (K' := 3) hx hb hts hown kw_541 kw_532 hE hW.2.2 (by decide) (by decide) (by decide) (by decide) (by decide) (by decide) (by decide) (Nat.le_of_ble_eq_true rfl) (Nat.le_of_ble_eq_true rfl) d_Led_init_39 (fun H ha9 hr9 hz9 hk9 hS9 => ?_)
  rw [hz] at ha9 hr9 hk9 ⊢
  obtain ⟨hB1, hB2⟩ := mna_block ha9 hr9
  have hW := WW_block hW hlt0 (gs_le hbs hz0 (by decide)) (fun q h1 _ => hk9 q (by rw [hz] at h1; exact h1)) hB1 hB2 hS9
  have hW : WW G zs.heap [(sa, .inr (iLed, [.int (0), .int (0), .int (-1), .ref (sa + 1), .ref (sa + 2), .null])), (sa + 1, aI (gC G 1) (3) (fun _ => 0)), (sa + 2, aR (gC G 3) (3) (fun i => if i < 3 then some (sa + 2 + 1 + i) else none)), (sa + 3, aI (gC G 0) (3) (fun _ => 0)), (sa + 4, aI (gC G 0) (3) (fun _ => 0)), (sa + 5, aI (gC G 0) (3) (fun _ => 0)), (sa + 6, aR (gC G 3) (3) (fun i => if i < 3 then some (sa + 6 + 1 + i) else none)), (sa + 7, aI (gC G 0) (3) (fun _ => 0)), (sa + 8, aI (gC G 0) (3) (fun _ => 0)), (sa + 9, aI (gC G 0) (3) (fun _ => 0))] H locs := hW
  refine va_putF hx hb hts i_Led t_Led t_Led_ok n_Led hown hK hW.1 hW.2.1 hW.2.2 0 rfl rfl 5 (by decide) (hts _ kw_153) (fun _ h => h) rfl hini rfl (t_Led_ok 5 (by decide)) rfl rfl (Nat.le_of_ble_eq_true rfl) d_Led_init_43 (fun H locs h1 h2 h3 => ?_)
  have hW : WW G zs.heap [(sa, .inr (iLed, [.int (0), .int (0), .int (-1), .ref (sa + 1), .ref (sa + 2), .ref (sa + 6)])), (sa + 1, aI (gC G 1) (3) (fun _ => 0)), (sa + 2, aR (gC G 3) (3) (fun i => if i < 3 then some (sa + 2 + 1 + i) else none)), (sa + 3, aI (gC G 0) (3) (fun _ => 0)), (sa + 4, aI (gC G 0) (3) (fun _ => 0)), (sa + 5, aI (gC G 0) (3) (fun _ => 0)), (sa + 6, aR (gC G 3) (3) (fun i => if i < 3 then some (sa + 6 + 1 + i) else none)), (sa + 7, aI (gC G 0) (3) (fun _ => 0)), (sa + 8, aI (gC G 0) (3) (fun _ => 0)), (sa + 9, aI (gC G 0) (3) (fun _ => 0))] H locs := ⟨h1, h2, h3⟩
  refine lv_iconst (v := 0) hx hb d_Led_init_46 (by decide) ?_
  refine lv_istore_n (lv' := [(2, .int (0)), (0, .ref sa), (1, .int (3))]) hx hb d_Led_init_47 rfl hl (by decide) rfl (fun ls hl => ?_)
  refine lv_iload_n hx hb d_Led_init_48 rfl (lv_at hl 0 rfl) ?_
  refine lv_iload_n hx hb d_Led_init_49 rfl (lv_at hl 2 rfl) ?_
  refine lv_icmp_ge (tgt := 69) hx hb d_Led_init_50 (by decide) (fun c_1 => ?_) (fun c_1 => ?_)
  · exact absurd c_1 (by decide)
  · skip
    refine lv_aload_n hx hb d_Led_init_53 rfl (lv_at hl 1 rfl) ?_
    refine va_get (v := .ref (sa + 6)) hx hb hts i_Led hown hK hW.1 0 rfl rfl 5 (by decide) (hts _ kw_153) (fun _ h => h) rfl d_Led_init_54 ?_
    refine lv_iload_n hx hb d_Led_init_57 rfl (lv_at hl 0 rfl) ?_
    refine h_aldA (j := 0) (q := sa + 7) hx hb hK hW.1 6 rfl (by decide) (by decide) rfl rfl d_Led_init_58 ?_
    refine lv_iconst (v := -1) hx hb d_Led_init_59 (by decide) ?_
    refine h_cv (G := G) (h_runS (G := G) (G' := G) (I := fun Hz => Hz = H) hx hb hml hown hts hE hW.2.2 (Nat.le_refl _) rfl (Nat.le_trans hbs hW.2.2.1) rfl (h_fill l G H _ 7 _ 3 (fun _ => 0) (-1) rfl (by decide) hW.1 hW.2.1) kw_187 kw_162 kw_26 kw_160 rfl rfl hd_Arrays_fill ⟨Nat.le_of_ble_eq_true rfl, Nat.le_of_ble_eq_true rfl⟩ (As := [.ref (sa + 7), .int (-1)]) (rest := []) rfl hl.1 rfl (Nat.le_of_ble_eq_true rfl) d_Led_init_60 ⟨Nat.le_of_ble_eq_true rfl, Nat.le_of_ble_eq_true rfl⟩) hW.2.2 (Nat.le_refl _) (fun H9 locs hJ hq9 hk9 hS9 => ?_)
    obtain ⟨hJ1, hJ2⟩ := hJ
    have hW : WW G zs.heap [(sa, .inr (iLed, [.int (0), .int (0), .int (-1), .ref (sa + 1), .ref (sa + 2), .ref (sa + 6)])), (sa + 1, aI (gC G 1) (3) (fun _ => 0)), (sa + 2, aR (gC G 3) (3) (fun i => if i < 3 then some (sa + 2 + 1 + i) else none)), (sa + 3, aI (gC G 0) (3) (fun _ => 0)), (sa + 4, aI (gC G 0) (3) (fun _ => 0)), (sa + 5, aI (gC G 0) (3) (fun _ => 0)), (sa + 6, aR (gC G 3) (3) (fun i => if i < 3 then some (sa + 6 + 1 + i) else none)), (sa + 7, aI (gC G 0) (3) (flF (fun _ => 0) (-1) 3)), (sa + 8, aI (gC G 0) (3) (fun _ => 0)), (sa + 9, aI (gC G 0) (3) (fun _ => 0))] H9 locs := ⟨hJ1, hJ2, hS9⟩
    refine lv_iinc (v := 1) (lv' := [(2, .int (1)), (0, .ref sa), (1, .int (3))]) hx hb d_Led_init_63 hl (k := 0) rfl (by decide) (by decide) rfl (fun ls hl => ?_)
    refine lv_goto (tgt := 48) hx hb d_Led_init_66 (by decide) ?_
    refine lv_iload_n hx hb d_Led_init_48 rfl (lv_at hl 0 rfl) ?_
    refine lv_iload_n hx hb d_Led_init_49 rfl (lv_at hl 2 rfl) ?_
    refine lv_icmp_ge (tgt := 69) hx hb d_Led_init_50 (by decide) (fun c_2 => ?_) (fun c_2 => ?_)
    · exact absurd c_2 (by decide)
    · skip
      refine lv_aload_n hx hb d_Led_init_53 rfl (lv_at hl 1 rfl) ?_
      refine va_get (v := .ref (sa + 6)) hx hb hts i_Led hown hK hW.1 0 rfl rfl 5 (by decide) (hts _ kw_153) (fun _ h => h) rfl d_Led_init_54 ?_
      refine lv_iload_n hx hb d_Led_init_57 rfl (lv_at hl 0 rfl) ?_
      refine h_aldA (j := 1) (q := sa + 8) hx hb hK hW.1 6 rfl (by decide) (by decide) rfl rfl d_Led_init_58 ?_
      refine lv_iconst (v := -1) hx hb d_Led_init_59 (by decide) ?_
      refine h_cv (G := G) (h_runS (G := G) (G' := G) (I := fun Hz => Hz = H9) hx hb hml hown hts hE hW.2.2 (Nat.le_refl _) rfl (Nat.le_trans hbs hW.2.2.1) rfl (h_fill l G H9 _ 8 _ 3 (fun _ => 0) (-1) rfl (by decide) hW.1 hW.2.1) kw_187 kw_162 kw_26 kw_160 rfl rfl hd_Arrays_fill ⟨Nat.le_of_ble_eq_true rfl, Nat.le_of_ble_eq_true rfl⟩ (As := [.ref (sa + 8), .int (-1)]) (rest := []) rfl hl.1 rfl (Nat.le_of_ble_eq_true rfl) d_Led_init_60 ⟨Nat.le_of_ble_eq_true rfl, Nat.le_of_ble_eq_true rfl⟩) hW.2.2 (Nat.le_refl _) (fun H9 locs hJ hq9 hk9 hS9 => ?_)
      obtain ⟨hJ1, hJ2⟩ := hJ
      have hW : WW G zs.heap [(sa, .inr (iLed, [.int (0), .int (0), .int (-1), .ref (sa + 1), .ref (sa + 2), .ref (sa + 6)])), (sa + 1, aI (gC G 1) (3) (fun _ => 0)), (sa + 2, aR (gC G 3) (3) (fun i => if i < 3 then some (sa + 2 + 1 + i) else none)), (sa + 3, aI (gC G 0) (3) (fun _ => 0)), (sa + 4, aI (gC G 0) (3) (fun _ => 0)), (sa + 5, aI (gC G 0) (3) (fun _ => 0)), (sa + 6, aR (gC G 3) (3) (fun i => if i < 3 then some (sa + 6 + 1 + i) else none)), (sa + 7, aI (gC G 0) (3) (flF (fun _ => 0) (-1) 3)), (sa + 8, aI (gC G 0) (3) (flF (fun _ => 0) (-1) 3)), (sa + 9, aI (gC G 0) (3) (fun _ => 0))] H9 locs := ⟨hJ1, hJ2, hS9⟩
      refine lv_iinc (v := 2) (lv' := [(2, .int (2)), (0, .ref sa), (1, .int (3))]) hx hb d_Led_init_63 hl (k := 0) rfl (by decide) (by decide) rfl (fun ls hl => ?_)
      refine lv_goto (tgt := 48) hx hb d_Led_init_66 (by decide) ?_
      refine lv_iload_n hx hb d_Led_init_48 rfl (lv_at hl 0 rfl) ?_
      refine lv_iload_n hx hb d_Led_init_49 rfl (lv_at hl 2 rfl) ?_
      refine lv_icmp_ge (tgt := 69) hx hb d_Led_init_50 (by decide) (fun c_3 => ?_) (fun c_3 => ?_)
      · exact absurd c_3 (by decide)
      · skip
        refine lv_aload_n hx hb d_Led_init_53 rfl (lv_at hl 1 rfl) ?_
        refine va_get (v := .ref (sa + 6)) hx hb hts i_Led hown hK hW.1 0 rfl rfl 5 (by decide) (hts _ kw_153) (fun _ h => h) rfl d_Led_init_54 ?_
        refine lv_iload_n hx hb d_Led_init_57 rfl (lv_at hl 0 rfl) ?_
        refine h_aldA (j := 2) (q := sa + 9) hx hb hK hW.1 6 rfl (by decide) (by decide) rfl rfl d_Led_init_58 ?_
        refine lv_iconst (v := -1) hx hb d_Led_init_59 (by decide) ?_
        refine h_cv (G := G) (h_runS (G := G) (G' := G) (I := fun Hz => Hz = H9) hx hb hml hown hts hE hW.2.2 (Nat.le_refl _) rfl (Nat.le_trans hbs hW.2.2.1) rfl (h_fill l G H9 _ 9 _ 3 (fun _ => 0) (-1) rfl (by decide) hW.1 hW.2.1) kw_187 kw_162 kw_26 kw_160 rfl rfl hd_Arrays_fill ⟨Nat.le_of_ble_eq_true rfl, Nat.le_of_ble_eq_true rfl⟩ (As := [.ref (sa + 9), .int (-1)]) (rest := []) rfl hl.1 rfl (Nat.le_of_ble_eq_true rfl) d_Led_init_60 ⟨Nat.le_of_ble_eq_true rfl, Nat.le_of_ble_eq_true rfl⟩) hW.2.2 (Nat.le_refl _) (fun H9 locs hJ hq9 hk9 hS9 => ?_)
        obtain ⟨hJ1, hJ2⟩ := hJ
        have hW : WW G zs.heap [(sa, .inr (iLed, [.int (0), .int (0), .int (-1), .ref (sa + 1), .ref (sa + 2), .ref (sa + 6)])), (sa + 1, aI (gC G 1) (3) (fun _ => 0)), (sa + 2, aR (gC G 3) (3) (fun i => if i < 3 then some (sa + 2 + 1 + i) else none)), (sa + 3, aI (gC G 0) (3) (fun _ => 0)), (sa + 4, aI (gC G 0) (3) (fun _ => 0)), (sa + 5, aI (gC G 0) (3) (fun _ => 0)), (sa + 6, aR (gC G 3) (3) (fun i => if i < 3 then some (sa + 6 + 1 + i) else none)), (sa + 7, aI (gC G 0) (3) (flF (fun _ => 0) (-1) 3)), (sa + 8, aI (gC G 0) (3) (flF (fun _ => 0) (-1) 3)), (sa + 9, aI (gC G 0) (3) (flF (fun _ => 0) (-1) 3))] H9 locs := ⟨hJ1, hJ2, hS9⟩
        refine lv_iinc (v := 3) (lv' := [(2, .int (3)), (0, .ref sa), (1, .int (3))]) hx hb d_Led_init_63 hl (k := 0) rfl (by decide) (by decide) rfl (fun ls hl => ?_)
        refine lv_goto (tgt := 48) hx hb d_Led_init_66 (by decide) ?_
        refine lv_iload_n hx hb d_Led_init_48 rfl (lv_at hl 0 rfl) ?_
        refine lv_iload_n hx hb d_Led_init_49 rfl (lv_at hl 2 rfl) ?_
        refine lv_icmp_ge (tgt := 69) hx hb d_Led_init_50 (by decide) (fun c_4 => ?_) (fun c_4 => ?_)
        · skip
          refine W_sz (fun hzu => ?_)
          have hzl := (va_P_mem.mp hW.1 _ (List.mem_of_getElem? (i := 9) rfl)).lt
          have hz : Array.size H9 = sa + 10 := sz_eq hzu hz0 hzl rfl rfl
          exact h_vret hx hb hr hlk hW.2.2 ⟨hW.1, bs_D hW.2.1 (ls_LedI3 G sa), hz⟩ (Nat.le_of_ble_eq_true rfl) (Nat.le_of_ble_eq_true rfl) d_Led_init_69
        · exact absurd c_4 (by decide)
