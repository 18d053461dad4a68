theorem kw_547 : .methodLink R_PC 1 Lib.objectInit ∈ WS := List.mem_filter.mpr ⟨List.mem_append_right _ (List.mem_of_getElem? (i := 32) (by decide +kernel)), by decide +kernel⟩
theorem kw_548 : .classLink R_PC 9 R_Store ∈ WS := List.mem_filter.mpr ⟨List.mem_append_right _ (List.mem_of_getElem? (i := 35) (by decide +kernel)), by decide +kernel⟩
theorem kw_549 : .classLink R_PC 15 R_Led ∈ WS := List.mem_filter.mpr ⟨List.mem_append_right _ (List.mem_of_getElem? (i := 37) (by decide +kernel)), by decide +kernel⟩
theorem kw_550 : .classLink R_PC 25 R_Net ∈ WS := List.mem_filter.mpr ⟨List.mem_append_right _ (List.mem_of_getElem? (i := 39) (by decide +kernel)), by decide +kernel⟩
theorem kw_551 : .instantiable R_Net 5 ∈ WS := List.mem_filter.mpr ⟨List.mem_append_right _ (List.mem_of_getElem? (i := 40) (by decide +kernel)), by decide +kernel⟩
theorem kw_552 : .code y_Net_init b_Net_init 2 none ∈ WS := List.mem_filter.mpr ⟨List.mem_append_right _ (List.mem_of_getElem? (i := 43) (by decide +kernel)), by decide +kernel⟩
theorem kw_553 : .instanceMethod y_Net_init ∈ WS := List.mem_filter.mpr ⟨List.mem_append_right _ (List.mem_of_getElem? (i := 42) (by decide +kernel)), by decide +kernel⟩
theorem kw_554 : .methodLink R_PC 27 y_Net_init ∈ WS := List.mem_filter.mpr ⟨List.mem_append_right _ (List.mem_of_getElem? (i := 41) (by decide +kernel)), by decide +kernel⟩
theorem kw_555 : .classLink R_PC 46 R_Acc ∈ WS := List.mem_filter.mpr ⟨List.mem_append_right _ (List.mem_of_getElem? (i := 105) (by decide +kernel)), by decide +kernel⟩
theorem kw_556 : .instantiable R_Store 5 ∈ WS := List.mem_filter.mpr ⟨List.mem_append_right _ (List.mem_of_getElem? (i := 107) (by decide +kernel)), by decide +kernel⟩
theorem kw_557 : .code y_Store_init b_Store_init 1 none ∈ WS := List.mem_filter.mpr ⟨List.mem_append_right _ (List.mem_of_getElem? (i := 110) (by decide +kernel)), by decide +kernel⟩
theorem kw_558 : .instanceMethod y_Store_init ∈ WS := List.mem_filter.mpr ⟨List.mem_append_right _ (List.mem_of_getElem? (i := 109) (by decide +kernel)), by decide +kernel⟩
theorem kw_559 : .methodLink R_PC 52 y_Store_init ∈ WS := List.mem_filter.mpr ⟨List.mem_append_right _ (List.mem_of_getElem? (i := 108) (by decide +kernel)), by decide +kernel⟩
theorem kw_560 : .instantiable R_Acc 2 ∈ WS := List.mem_filter.mpr ⟨List.mem_append_right _ (List.mem_of_getElem? (i := 137) (by decide +kernel)), by decide +kernel⟩
theorem kw_561 : .code y_Acc_init b_Acc_init 2 none ∈ WS := List.mem_filter.mpr ⟨List.mem_append_right _ (List.mem_of_getElem? (i := 140) (by decide +kernel)), by decide +kernel⟩
theorem kw_562 : .instanceMethod y_Acc_init ∈ WS := List.mem_filter.mpr ⟨List.mem_append_right _ (List.mem_of_getElem? (i := 139) (by decide +kernel)), by decide +kernel⟩
theorem kw_563 : .methodLink R_PC 53 y_Acc_init ∈ WS := List.mem_filter.mpr ⟨List.mem_append_right _ (List.mem_of_getElem? (i := 138) (by decide +kernel)), by decide +kernel⟩
theorem kw_564 : .instantiable R_Led 6 ∈ WS := List.mem_filter.mpr ⟨List.mem_append_right _ (List.mem_of_getElem? (i := 153) (by decide +kernel)), by decide +kernel⟩
theorem kw_565 : .code y_Led_init b_Led_init 3 none ∈ WS := List.mem_filter.mpr ⟨List.mem_append_right _ (List.mem_of_getElem? (i := 156) (by decide +kernel)), by decide +kernel⟩
theorem kw_566 : .instanceMethod y_Led_init ∈ WS := List.mem_filter.mpr ⟨List.mem_append_right _ (List.mem_of_getElem? (i := 155) (by decide +kernel)), by decide +kernel⟩
theorem kw_567 : .methodLink R_PC 54 y_Led_init ∈ WS := List.mem_filter.mpr ⟨List.mem_append_right _ (List.mem_of_getElem? (i := 154) (by decide +kernel)), by decide +kernel⟩
theorem hd_Net_init : y_Net_init.cls ≠ "java/lang/invoke/MethodHandle" ∧ y_Net_init.cls ≠ "java/lang/invoke/VarHandle" ∧ (parseMethodDescriptor y_Net_init.desc).map (fun d => d.parameters.length) = some 0 := by decide +kernel
theorem hd_Store_init : y_Store_init.cls ≠ "java/lang/invoke/MethodHandle" ∧ y_Store_init.cls ≠ "java/lang/invoke/VarHandle" ∧ (parseMethodDescriptor y_Store_init.desc).map (fun d => d.parameters.length) = some 0 := by decide +kernel
theorem hd_Acc_init : y_Acc_init.cls ≠ "java/lang/invoke/MethodHandle" ∧ y_Acc_init.cls ≠ "java/lang/invoke/VarHandle" ∧ (parseMethodDescriptor y_Acc_init.desc).map (fun d => d.parameters.length) = some 0 := by decide +kernel
theorem hd_Led_init : y_Led_init.cls ≠ "java/lang/invoke/MethodHandle" ∧ y_Led_init.cls ≠ "java/lang/invoke/VarHandle" ∧ (parseMethodDescriptor y_Led_init.desc).map (fun d => d.parameters.length) = some 1 := by decide +kernel
def wPCI1 (G : GT) (sa : Nat) : va_W := [(sa, .inr (iPC, [.ref (sa + 1), .ref (sa + 132), .ref (sa + 2), .int (1), .ref (sa + 3), .ref (sa + 4), .ref (sa + 130), .ref (sa + 131), .int (0)])), (sa + 1, aR (gC G 4) (3) (va_up (va_up (va_up (fun _ => none) 0 (some (sa + 133))) 1 (some (sa + 147))) 2 (some (sa + 161)))), (sa + 2, aR (gC G 6) (16) (va_up (va_up (va_up (va_up (va_up (va_up (va_up (va_up (va_up (va_up (va_up (va_up (va_up (va_up (va_up (va_up (fun _ => none) 0 (some (sa + 194))) 1 (some (sa + 200))) 2 (some (sa + 206))) 3 (some (sa + 212))) 4 (some (sa + 218))) 5 (some (sa + 224))) 6 (some (sa + 230))) 7 (some (sa + 236))) 8 (some (sa + 242))) 9 (some (sa + 248))) 10 (some (sa + 254))) 11 (some (sa + 260))) 12 (some (sa + 266))) 13 (some (sa + 272))) 14 (some (sa + 278))) 15 (some (sa + 284)))), (sa + 3, aI (gC G 0) (3) (upd (upd (upd (fun _ => 0) 0 (7)) 1 (1)) 2 (3))), (sa + 130, aI (gC G 0) (8) (fun _ => 0)), (sa + 131, aI (gC G 1) (8) (fun _ => 0)), (sa + 132, aR (gC G 5) (1) (va_up (fun _ => none) 0 (some (sa + 175))))] ++ ((((((((((((((((((((wNetI G (sa + 4) ++ wStoreI G (sa + 133)) ++ wStoreI G (sa + 147)) ++ wStoreI G (sa + 161)) ++ wAccI G (sa + 175)) ++ wLedI1 G (sa + 194)) ++ wLedI1 G (sa + 200)) ++ wLedI1 G (sa + 206)) ++ wLedI1 G (sa + 212)) ++ wLedI1 G (sa + 218)) ++ wLedI1 G (sa + 224)) ++ wLedI1 G (sa + 230)) ++ wLedI1 G (sa + 236)) ++ wLedI1 G (sa + 242)) ++ wLedI1 G (sa + 248)) ++ wLedI1 G (sa + 254)) ++ wLedI1 G (sa + 260)) ++ wLedI1 G (sa + 266)) ++ wLedI1 G (sa + 272)) ++ wLedI1 G (sa + 278)) ++ wLedI1 G (sa + 284))
theorem ls_PCI1 (G : GT) (sa : Nat) : ∀ q ∈ wPCI1 G sa, sa ≤ q.1 := by
  intro q hq
  unfold wPCI1 at hq
  rcases List.mem_append.mp hq with hq | hq
  · simp only [List.mem_cons, List.not_mem_nil, or_false] at hq
    rcases hq with rfl | rfl | rfl | rfl | rfl | rfl | rfl <;> simp
  · rcases List.mem_append.mp hq with hq | hq
    case inr => have := ls_LedI1 G (sa + 284) q hq; omega
    rcases List.mem_append.mp hq with hq | hq
    case inr => have := ls_LedI1 G (sa + 278) q hq; omega
    rcases List.mem_append.mp hq with hq | hq
    case inr => have := ls_LedI1 G (sa + 272) q hq; omega
    rcases List.mem_append.mp hq with hq | hq
    case inr => have := ls_LedI1 G (sa + 266) q hq; omega
    rcases List.mem_append.mp hq with hq | hq
    case inr => have := ls_LedI1 G (sa + 260) q hq; omega
    rcases List.mem_append.mp hq with hq | hq
    case inr => have := ls_LedI1 G (sa + 254) q hq; omega
    rcases List.mem_append.mp hq with hq | hq
    case inr => have := ls_LedI1 G (sa + 248) q hq; omega
    rcases List.mem_append.mp hq with hq | hq
    case inr => have := ls_LedI1 G (sa + 242) q hq; omega
    rcases List.mem_append.mp hq with hq | hq
    case inr => have := ls_LedI1 G (sa + 236) q hq; omega
    rcases List.mem_append.mp hq with hq | hq
    case inr => have := ls_LedI1 G (sa + 230) q hq; omega
    rcases List.mem_append.mp hq with hq | hq
    case inr => have := ls_LedI1 G (sa + 224) q hq; omega
    rcases List.mem_append.mp hq with hq | hq
    case inr => have := ls_LedI1 G (sa + 218) q hq; omega
    rcases List.mem_append.mp hq with hq | hq
    case inr => have := ls_LedI1 G (sa + 212) q hq; omega
    rcases List.mem_append.mp hq with hq | hq
    case inr => have := ls_LedI1 G (sa + 206) q hq; omega
    rcases List.mem_append.mp hq with hq | hq
    case inr => have := ls_LedI1 G (sa + 200) q hq; omega
    rcases List.mem_append.mp hq with hq | hq
    case inr => have := ls_LedI1 G (sa + 194) q hq; omega
    rcases List.mem_append.mp hq with hq | hq
    case inr => have := ls_AccI G (sa + 175) q hq; omega
    rcases List.mem_append.mp hq with hq | hq
    case inr => have := ls_StoreI G (sa + 161) q hq; omega
    rcases List.mem_append.mp hq with hq | hq
    case inr => have := ls_StoreI G (sa + 147) q hq; omega
    rcases List.mem_append.mp hq with hq | hq
    case inr => have := ls_StoreI G (sa + 133) q hq; omega
    have := ls_NetI G (sa + 4) q hq; omega
set_option maxHeartbeats 4000000 in
set_option maxRecDepth 100000 in
theorem h_PCI1 (l : Launch) (G : GT) (Hx : Heap) (sa : Nat) (f : Int32) (hf : f = 0) (hz0 : Array.size Hx = sa + 1) (hP : va_P G.1 gcl [(sa, .inr (iPC, [.null, .null, .null, .int (0), .null, .null, .null, .null, .int (0)]))] Hx) (hD : va_D (gAb G) [(sa, .inr (iPC, [.null, .null, .null, .int (0), .null, .null, .null, .null, .int (0)]))]) : Met l y_PC_init (.code y_PC_init b_PC_init 4 none :: WS) { frames := 3, cells := 289, slots := 1299, locals := 71 } (hPre G [.ref sa, .int (f)] (fun H9 => H9 = Hx)) (hQv G (fun H9 => va_P G.1 gcl (wPCI1 G sa) H9 ∧ va_D (fun q => sa ≤ q) (wPCI1 G sa) ∧ Array.size H9 = sa + 290)) 289 1299 (gAb G) := by
  refine h_startI (own := R_PC) (by decide +kernel) rfl (Nat.le_of_ble_eq_true rfl) ?_
  intro p e zs zm below meth zc ls hini C hI hl
  subst hI
  obtain ⟨hx, hb, hr, hml, hown, hts, hlk, hE, hbs⟩ := C
  have hK := hE.1
  have hl : lv_has ls 4 [(0, .ref sa), (1, .int (f))] := hl
  obtain ⟨locs, hlocs⟩ : ∃ l9 : List Loc, l9 = [] := ⟨_, rfl⟩
  rw [← hlocs]
  have hW : WW G zs.heap [(sa, .inr (iPC, [.null, .null, .null, .int (0), .null, .null, .null, .null, .int (0)]))] zs.heap locs := ⟨hP, hD, by rw [hlocs]; exact va_S.rf⟩
  refine lv_aload_n hx hb d_PC_init_0 rfl (lv_at hl 0 rfl) ?_
  refine h_oinit hx hb hown (hts _ kw_547) (hts _ kw_89) (hts _ kw_90) (by rw [hml]; exact hl.1) d_PC_init_1 (Nat.le_of_ble_eq_true rfl) (Nat.le_of_ble_eq_true rfl) ?_
  refine lv_aload_n hx hb d_PC_init_4 rfl (lv_at hl 0 rfl) ?_
  refine lv_iconst (v := 3) hx hb d_PC_init_5 (by decide) ?_
  refine W_sz (fun hzu => ?_)
  have hzl := (va_P_mem.mp hW.1 _ (List.mem_of_getElem? (i := 0) rfl)).lt
  have hz : Array.size zs.heap = sa + 1 := sz_eq hzu hz0 hzl rfl rfl
  refine h_anew (G := G) (C := R_Store) (t0 := 4) (N' := 3) hx hb hts hown kw_548 (List.mem_of_getElem? (i := 0) rfl) (List.mem_of_getElem? (i := 4) rfl) hE hW.2.2 (by decide) (by decide) (by decide) (Nat.le_of_ble_eq_true rfl) (Nat.le_of_ble_eq_true rfl) d_PC_init_6 (fun H ha9 hz9 hk9 hS9 => ?_)
  rw [hz] at ha9 ⊢
  have hW := WW_push2 hW hbs hz ha9 hk9 hS9
  have hW : WW G zs.heap [(sa, .inr (iPC, [.null, .null, .null, .int (0), .null, .null, .null, .null, .int (0)])), (sa + 1, aR (gC G 4) (3) (fun _ => none))] H locs := hW
  refine va_putF hx hb hts i_PC t_PC t_PC_ok n_PC hown hK hW.1 hW.2.1 hW.2.2 0 rfl rfl 0 (by decide) (hts _ kw_197) (fun _ h => h) rfl hini rfl (t_PC_ok 0 (by decide)) rfl rfl (Nat.le_of_ble_eq_true rfl) d_PC_init_9 (fun H locs h1 h2 h3 => ?_)
  have hW : WW G zs.heap [(sa, .inr (iPC, [.ref (sa + 1), .null, .null, .int (0), .null, .null, .null, .null, .int (0)])), (sa + 1, aR (gC G 4) (3) (fun _ => none))] H locs := ⟨h1, h2, h3⟩
  refine lv_aload_n hx hb d_PC_init_12 rfl (lv_at hl 0 rfl) ?_
  refine lv_bipush (v := 16) hx hb d_PC_init_13 (by decide) ?_
  refine W_sz (fun hzu => ?_)
  have hzl := (va_P_mem.mp hW.1 _ (List.mem_of_getElem? (i := 1) rfl)).lt
  have hz : Array.size H = sa + 2 := sz_eq hzu hz0 hzl rfl rfl
  refine h_anew (G := G) (C := R_Led) (t0 := 6) (N' := 16) hx hb hts hown kw_549 (List.mem_of_getElem? (i := 2) rfl) (List.mem_of_getElem? (i := 6) rfl) hE hW.2.2 (by decide) (by decide) (by decide) (Nat.le_of_ble_eq_true rfl) (Nat.le_of_ble_eq_true rfl) d_PC_init_15 (fun H ha9 hz9 hk9 hS9 => ?_)
  rw [hz] at ha9 ⊢
  have hW := WW_push2 hW hbs hz ha9 hk9 hS9
  have hW : WW G zs.heap [(sa, .inr (iPC, [.ref (sa + 1), .null, .null, .int (0), .null, .null, .null, .null, .int (0)])), (sa + 1, aR (gC G 4) (3) (fun _ => none)), (sa + 2, aR (gC G 6) (16) (fun _ => none))] H locs := hW
  refine va_putF hx hb hts i_PC t_PC t_PC_ok n_PC hown hK hW.1 hW.2.1 hW.2.2 0 rfl rfl 2 (by decide) (hts _ kw_195) (fun _ h => h) rfl hini rfl (t_PC_ok 2 (by decide)) rfl rfl (Nat.le_of_ble_eq_true rfl) d_PC_init_18 (fun H locs h1 h2 h3 => ?_)
  have hW : WW G zs.heap [(sa, .inr (iPC, [.ref (sa + 1), .null, .ref (sa + 2), .int (0), .null, .null, .null, .null, .int (0)])), (sa + 1, aR (gC G 4) (3) (fun _ => none)), (sa + 2, aR (gC G 6) (16) (fun _ => none))] H locs := ⟨h1, h2, h3⟩
  refine lv_aload_n hx hb d_PC_init_21 rfl (lv_at hl 0 rfl) ?_
  refine lv_iconst (v := 3) hx hb d_PC_init_22 (by decide) ?_
  refine W_sz (fun hzu => ?_)
  have hzl := (va_P_mem.mp hW.1 _ (List.mem_of_getElem? (i := 2) rfl)).lt
  have hz : Array.size H = sa + 3 := sz_eq hzu hz0 hzl rfl rfl
  refine h_newa (G := G) (atype := .int) (t0 := 0) (N' := 3) (a0 := (3, .inl (fun _ => 0))) hx hb hts kw_532 (List.mem_of_getElem? (i := 0) rfl) hE hW.2.2 (fun _ => by first | rfl | (rw [vp_cell_i]; rfl)) (by decide) (by decide) (by decide) (Nat.le_of_ble_eq_true rfl) (Nat.le_of_ble_eq_true rfl) d_PC_init_23 (fun H ha9 hz9 hk9 hS9 => ?_)
  rw [hz] at ha9 ⊢
  have hW := WW_push2 hW hbs hz ha9 hk9 hS9
  have hW : WW G zs.heap [(sa, .inr (iPC, [.ref (sa + 1), .null, .ref (sa + 2), .int (0), .null, .null, .null, .null, .int (0)])), (sa + 1, aR (gC G 4) (3) (fun _ => none)), (sa + 2, aR (gC G 6) (16) (fun _ => none)), (sa + 3, aI (gC G 0) (3) (fun _ => 0))] H locs := hW
  refine va_putF hx hb hts i_PC t_PC t_PC_ok n_PC hown hK hW.1 hW.2.1 hW.2.2 0 rfl rfl 4 (by decide) (hts _ kw_286) (fun _ h => h) rfl hini rfl (t_PC_ok 4 (by decide)) rfl rfl (Nat.le_of_ble_eq_true rfl) d_PC_init_25 (fun H locs h1 h2 h3 => ?_)
  have hW : WW G zs.heap [(sa, .inr (iPC, [.ref (sa + 1), .null, .ref (sa + 2), .int (0), .ref (sa + 3), .null, .null, .null, .int (0)])), (sa + 1, aR (gC G 4) (3) (fun _ => none)), (sa + 2, aR (gC G 6) (16) (fun _ => none)), (sa + 3, aI (gC G 0) (3) (fun _ => 0))] H locs := ⟨h1, h2, h3⟩
  refine lv_aload_n hx hb d_PC_init_28 rfl (lv_at hl 0 rfl) ?_
  refine W_sz (fun hzu => ?_)
  have hzl := (va_P_mem.mp hW.1 _ (List.mem_of_getElem? (i := 3) rfl)).lt
  have hz : Array.size H = sa + 4 := sz_eq hzu hz0 hzl rfl rfl
  have hlt0 := WW_lt hW
  rw [hz] at hlt0
  refine h_new (G := G) (fs := [.null, .int (0), .int (0), .null, .null]) hx hb hts i_Net t_Net t_Net_ok hown kw_550 kw_551 kw_212 hE hW.2.2 hbs (ci := iNet) rfl df_Net (Nat.le_of_ble_eq_true rfl) (Nat.le_of_ble_eq_true rfl) d_PC_init_29 (fun H ha9 hz9 hk9 hS9 => ?_)
  have hW := WW_keep hW hk9 hS9
  rw [hz] at ha9 hz9 ⊢
  refine lv_dup hx hb d_PC_init_32 rfl ?_
  obtain ⟨hP1, hD1⟩ := WW_one ha9
  have hgs : gbase G ≤ sa + 4 := gs_le hbs hz0 (by decide)
  refine h_cv (G := G) (h_runI (G := G) (G' := gB G (sa + 4)) (I := fun Hz => Hz = H) hx hb hml hown hts hE hW.2.2 hgs rfl (sz_le hz9) rfl (h_NetI l (gB G (sa + 4)) H (sa + 4) hz9 hP1 hD1) kw_554 kw_553 rfl kw_212 kw_552 rfl rfl hd_Net_init ⟨Nat.le_of_ble_eq_true rfl, Nat.le_of_ble_eq_true rfl⟩ (As := []) (rest := [.ref (sa + 4), .ref sa]) rfl hl.1 rfl (Nat.le_of_ble_eq_true rfl) d_PC_init_33 ⟨Nat.le_of_ble_eq_true rfl, Nat.le_of_ble_eq_true rfl⟩) hW.2.2 hgs (fun H9 locs hJ hq9 hk9 hS9 => ?_)
  obtain ⟨hJ1, hJ2, hJ3⟩ := hJ
  have hW := WW_block hW hlt0 hgs hk9 hJ1 hJ2 hS9
  generalize H9 = H at *
  obtain ⟨T_1, hT_1⟩ : ∃ t9 : va_W, t9 = wNetI G (sa + 4) := ⟨_, rfl⟩
  have hmT_1 : ∀ q ∈ wNetI G (sa + 4), q ∈ T_1 := fun q hq => by rw [hT_1]; exact hq
  have hW : WW G zs.heap ([(sa, .inr (iPC, [.ref (sa + 1), .null, .ref (sa + 2), .int (0), .ref (sa + 3), .null, .null, .null, .int (0)])), (sa + 1, aR (gC G 4) (3) (fun _ => none)), (sa + 2, aR (gC G 6) (16) (fun _ => none)), (sa + 3, aI (gC G 0) (3) (fun _ => 0))] ++ T_1) H locs := by rw [hT_1]; exact hW
  refine va_putF hx hb hts i_PC t_PC t_PC_ok n_PC hown hK hW.1 hW.2.1 hW.2.2 0 rfl rfl 5 (by decide) (hts _ kw_210) (fun _ h => h) rfl hini rfl (t_PC_ok 5 (by decide)) rfl rfl (Nat.le_of_ble_eq_true rfl) d_PC_init_36 (fun H locs h1 h2 h3 => ?_)
  have hW : WW G zs.heap ([(sa, .inr (iPC, [.ref (sa + 1), .null, .ref (sa + 2), .int (0), .ref (sa + 3), .ref (sa + 4), .null, .null, .int (0)])), (sa + 1, aR (gC G 4) (3) (fun _ => none)), (sa + 2, aR (gC G 6) (16) (fun _ => none)), (sa + 3, aI (gC G 0) (3) (fun _ => 0))] ++ T_1) H locs := ⟨h1, h2, h3⟩
  refine lv_aload_n hx hb d_PC_init_39 rfl (lv_at hl 0 rfl) ?_
  refine lv_bipush (v := 8) hx hb d_PC_init_40 (by decide) ?_
  refine W_sz (fun hzu => ?_)
  have hzl := (va_P_mem.mp hW.1 _ (show (sa + 129, _) ∈ ([(sa, .inr (iPC, [.ref (sa + 1), .null, .ref (sa + 2), .int (0), .ref (sa + 3), .ref (sa + 4), .null, .null, .int (0)])), (sa + 1, aR (gC G 4) (3) (fun _ => none)), (sa + 2, aR (gC G 6) (16) (fun _ => none)), (sa + 3, aI (gC G 0) (3) (fun _ => 0))] ++ T_1) from (List.mem_append_right _ (hmT_1 _ (last_NetI _ _))))).lt
  have hz : Array.size H = sa + 130 := sz_eq hzu hz0 hzl rfl rfl
  refine h_newa (G := G) (atype := .int) (t0 := 0) (N' := 8) (a0 := (8, .inl (fun _ => 0))) hx hb hts kw_532 (List.mem_of_getElem? (i := 0) rfl) hE hW.2.2 (fun _ => by first | rfl | (rw [vp_cell_i]; rfl)) (by decide) (by decide) (by decide) (Nat.le_of_ble_eq_true rfl) (Nat.le_of_ble_eq_true rfl) d_PC_init_42 (fun H ha9 hz9 hk9 hS9 => ?_)
  rw [hz] at ha9 ⊢
  have hW := WW_push2 hW hbs hz ha9 hk9 hS9
  have hW : WW G zs.heap ([(sa, .inr (iPC, [.ref (sa + 1), .null, .ref (sa + 2), .int (0), .ref (sa + 3), .ref (sa + 4), .null, .null, .int (0)])), (sa + 1, aR (gC G 4) (3) (fun _ => none)), (sa + 2, aR (gC G 6) (16) (fun _ => none)), (sa + 3, aI (gC G 0) (3) (fun _ => 0)), (sa + 130, aI (gC G 0) (8) (fun _ => 0))] ++ T_1) H locs := WW_perm (pm_push [(sa, .inr (iPC, [.ref (sa + 1), .null, .ref (sa + 2), .int (0), .ref (sa + 3), .ref (sa + 4), .null, .null, .int (0)])), (sa + 1, aR (gC G 4) (3) (fun _ => none)), (sa + 2, aR (gC G 6) (16) (fun _ => none)), (sa + 3, aI (gC G 0) (3) (fun _ => 0))] _ _) hW
  refine va_putF hx hb hts i_PC t_PC t_PC_ok n_PC hown hK hW.1 hW.2.1 hW.2.2 0 rfl rfl 6 (by decide) (hts _ kw_220) (fun _ h => h) rfl hini rfl (t_PC_ok 6 (by decide)) rfl rfl (Nat.le_of_ble_eq_true rfl) d_PC_init_44 (fun H locs h1 h2 h3 => ?_)
  have hW : WW G zs.heap ([(sa, .inr (iPC, [.ref (sa + 1), .null, .ref (sa + 2), .int (0), .ref (sa + 3), .ref (sa + 4), .ref (sa + 130), .null, .int (0)])), (sa + 1, aR (gC G 4) (3) (fun _ => none)), (sa + 2, aR (gC G 6) (16) (fun _ => none)), (sa + 3, aI (gC G 0) (3) (fun _ => 0)), (sa + 130, aI (gC G 0) (8) (fun _ => 0))] ++ T_1) H locs := ⟨h1, h2, h3⟩
  refine lv_aload_n hx hb d_PC_init_47 rfl (lv_at hl 0 rfl) ?_
  refine lv_bipush (v := 8) hx hb d_PC_init_48 (by decide) ?_
  refine W_sz (fun hzu => ?_)
  have hzl := (va_P_mem.mp hW.1 _ (List.mem_of_getElem? (i := 4) rfl)).lt
  have hz : Array.size H = sa + 131 := sz_eq hzu hz0 hzl rfl rfl
  refine h_newa (G := G) (atype := .boolean) (t0 := 1) (N' := 8) (a0 := (8, .inl (fun _ => 0))) hx hb hts kw_540 (List.mem_of_getElem? (i := 1) rfl) hE hW.2.2 (fun _ => by first | rfl | (rw [vp_cell_i]; rfl)) (by decide) (by decide) (by decide) (Nat.le_of_ble_eq_true rfl) (Nat.le_of_ble_eq_true rfl) d_PC_init_50 (fun H ha9 hz9 hk9 hS9 => ?_)
  rw [hz] at ha9 ⊢
  have hW := WW_push2 hW hbs hz ha9 hk9 hS9
  have hW : WW G zs.heap ([(sa, .inr (iPC, [.ref (sa + 1), .null, .ref (sa + 2), .int (0), .ref (sa + 3), .ref (sa + 4), .ref (sa + 130), .null, .int (0)])), (sa + 1, aR (gC G 4) (3) (fun _ => none)), (sa + 2, aR (gC G 6) (16) (fun _ => none)), (sa + 3, aI (gC G 0) (3) (fun _ => 0)), (sa + 130, aI (gC G 0) (8) (fun _ => 0)), (sa + 131, aI (gC G 1) (8) (fun _ => 0))] ++ T_1) H locs := WW_perm (pm_push [(sa, .inr (iPC, [.ref (sa + 1), .null, .ref (sa + 2), .int (0), .ref (sa + 3), .ref (sa + 4), .ref (sa + 130), .null, .int (0)])), (sa + 1, aR (gC G 4) (3) (fun _ => none)), (sa + 2, aR (gC G 6) (16) (fun _ => none)), (sa + 3, aI (gC G 0) (3) (fun _ => 0)), (sa + 130, aI (gC G 0) (8) (fun _ => 0))] _ _) hW
  refine va_putF hx hb hts i_PC t_PC t_PC_ok n_PC hown hK hW.1 hW.2.1 hW.2.2 0 rfl rfl 7 (by decide) (hts _ kw_338) (fun _ h => h) rfl hini rfl (t_PC_ok 7 (by decide)) rfl rfl (Nat.le_of_ble_eq_true rfl) d_PC_init_52 (fun H locs h1 h2 h3 => ?_)
  have hW : WW G zs.heap ([(sa, .inr (iPC, [.ref (sa + 1), .null, .ref (sa + 2), .int (0), .ref (sa + 3), .ref (sa + 4), .ref (sa + 130), .ref (sa + 131), .int (0)])), (sa + 1, aR (gC G 4) (3) (fun _ => none)), (sa + 2, aR (gC G 6) (16) (fun _ => none)), (sa + 3, aI (gC G 0) (3) (fun _ => 0)), (sa + 130, aI (gC G 0) (8) (fun _ => 0)), (sa + 131, aI (gC G 1) (8) (fun _ => 0))] ++ T_1) H locs := ⟨h1, h2, h3⟩
  refine lv_aload_n hx hb d_PC_init_55 rfl (lv_at hl 0 rfl) ?_
  refine lv_iconst (v := 0) hx hb d_PC_init_56 (by decide) ?_
  refine va_put hx hb hts i_PC t_PC t_PC_ok n_PC hown hK hW.1 hW.2.1 hW.2.2 0 rfl rfl 8 (by decide) (hts _ kw_318) (fun _ h => h) rfl (t_PC_ok 8 (by decide)) rfl rfl (Nat.le_of_ble_eq_true rfl) d_PC_init_57 (fun H locs h1 h2 h3 => ?_)
  have hW : WW G zs.heap ([(sa, .inr (iPC, [.ref (sa + 1), .null, .ref (sa + 2), .int (0), .ref (sa + 3), .ref (sa + 4), .ref (sa + 130), .ref (sa + 131), .int (0)])), (sa + 1, aR (gC G 4) (3) (fun _ => none)), (sa + 2, aR (gC G 6) (16) (fun _ => none)), (sa + 3, aI (gC G 0) (3) (fun _ => 0)), (sa + 130, aI (gC G 0) (8) (fun _ => 0)), (sa + 131, aI (gC G 1) (8) (fun _ => 0))] ++ T_1) H locs := ⟨h1, h2, h3⟩
  refine lv_iload_n hx hb d_PC_init_60 rfl (lv_at hl 1 rfl) ?_
  refine lv_if_ne (tgt := 68) hx hb d_PC_init_61 (by decide) (fun c_2 => ?_) (fun c_2 => ?_)
  · skip
    exact absurd hf c_2
  · skip
    refine lv_iconst (v := 1) hx hb d_PC_init_64 (by decide) ?_
    refine lv_goto (tgt := 69) hx hb d_PC_init_65 (by decide) ?_
    refine lv_istore_n (lv' := [(2, .int (1)), (0, .ref sa), (1, .int (f))]) hx hb d_PC_init_69 rfl hl (by decide) rfl (fun ls hl => ?_)
    refine lv_aload_n hx hb d_PC_init_70 rfl (lv_at hl 1 rfl) ?_
    refine lv_iload_n hx hb d_PC_init_71 rfl (lv_at hl 2 rfl) ?_
    refine lv_if_ne (tgt := 79) hx hb d_PC_init_72 (by decide) (fun c_3 => ?_) (fun c_3 => ?_)
    · skip
      exact absurd hf c_3
    · skip
      refine lv_iconst (v := 1) hx hb d_PC_init_75 (by decide) ?_
      refine lv_goto (tgt := 80) hx hb d_PC_init_76 (by decide) ?_
      refine va_putF hx hb hts i_PC t_PC t_PC_ok n_PC hown hK hW.1 hW.2.1 hW.2.2 0 rfl rfl 3 (by decide) (hts _ kw_269) (fun _ h => h) rfl hini rfl (t_PC_ok 3 (by decide)) rfl rfl (Nat.le_of_ble_eq_true rfl) d_PC_init_80 (fun H locs h1 h2 h3 => ?_)
      have hW : WW G zs.heap ([(sa, .inr (iPC, [.ref (sa + 1), .null, .ref (sa + 2), .int (1), .ref (sa + 3), .ref (sa + 4), .ref (sa + 130), .ref (sa + 131), .int (0)])), (sa + 1, aR (gC G 4) (3) (fun _ => none)), (sa + 2, aR (gC G 6) (16) (fun _ => none)), (sa + 3, aI (gC G 0) (3) (fun _ => 0)), (sa + 130, aI (gC G 0) (8) (fun _ => 0)), (sa + 131, aI (gC G 1) (8) (fun _ => 0))] ++ T_1) H locs := ⟨h1, h2, h3⟩
      refine lv_aload_n hx hb d_PC_init_83 rfl (lv_at hl 1 rfl) ?_
      refine lv_iload_n hx hb d_PC_init_84 rfl (lv_at hl 0 rfl) ?_
      refine W_sz (fun hzu => ?_)
      have hzl := (va_P_mem.mp hW.1 _ (List.mem_of_getElem? (i := 5) rfl)).lt
      have hz : Array.size H = sa + 132 := sz_eq hzu hz0 hzl rfl rfl
      refine h_anew (G := G) (C := R_Acc) (t0 := 5) (N' := 1) hx hb hts hown kw_555 (List.mem_of_getElem? (i := 1) rfl) (List.mem_of_getElem? (i := 5) rfl) hE hW.2.2 (by decide) (by decide) (by decide) (Nat.le_of_ble_eq_true rfl) (Nat.le_of_ble_eq_true rfl) d_PC_init_85 (fun H ha9 hz9 hk9 hS9 => ?_)
      rw [hz] at ha9 ⊢
      have hW := WW_push2 hW hbs hz ha9 hk9 hS9
      have hW : WW G zs.heap ([(sa, .inr (iPC, [.ref (sa + 1), .null, .ref (sa + 2), .int (1), .ref (sa + 3), .ref (sa + 4), .ref (sa + 130), .ref (sa + 131), .int (0)])), (sa + 1, aR (gC G 4) (3) (fun _ => none)), (sa + 2, aR (gC G 6) (16) (fun _ => none)), (sa + 3, aI (gC G 0) (3) (fun _ => 0)), (sa + 130, aI (gC G 0) (8) (fun _ => 0)), (sa + 131, aI (gC G 1) (8) (fun _ => 0)), (sa + 132, aR (gC G 5) (1) (fun _ => none))] ++ T_1) H locs := WW_perm (pm_push [(sa, .inr (iPC, [.ref (sa + 1), .null, .ref (sa + 2), .int (1), .ref (sa + 3), .ref (sa + 4), .ref (sa + 130), .ref (sa + 131), .int (0)])), (sa + 1, aR (gC G 4) (3) (fun _ => none)), (sa + 2, aR (gC G 6) (16) (fun _ => none)), (sa + 3, aI (gC G 0) (3) (fun _ => 0)), (sa + 130, aI (gC G 0) (8) (fun _ => 0)), (sa + 131, aI (gC G 1) (8) (fun _ => 0))] _ _) hW
      refine va_putF hx hb hts i_PC t_PC t_PC_ok n_PC hown hK hW.1 hW.2.1 hW.2.2 0 rfl rfl 1 (by decide) (hts _ kw_196) (fun _ h => h) rfl hini rfl (t_PC_ok 1 (by decide)) rfl rfl (Nat.le_of_ble_eq_true rfl) d_PC_init_88 (fun H locs h1 h2 h3 => ?_)
      have hW : WW G zs.heap ([(sa, .inr (iPC, [.ref (sa + 1), .ref (sa + 132), .ref (sa + 2), .int (1), .ref (sa + 3), .ref (sa + 4), .ref (sa + 130), .ref (sa + 131), .int (0)])), (sa + 1, aR (gC G 4) (3) (fun _ => none)), (sa + 2, aR (gC G 6) (16) (fun _ => none)), (sa + 3, aI (gC G 0) (3) (fun _ => 0)), (sa + 130, aI (gC G 0) (8) (fun _ => 0)), (sa + 131, aI (gC G 1) (8) (fun _ => 0)), (sa + 132, aR (gC G 5) (1) (fun _ => none))] ++ T_1) H locs := ⟨h1, h2, h3⟩
      refine lv_iconst (v := 0) hx hb d_PC_init_91 (by decide) ?_
      refine lv_istore_n (lv' := [(3, .int (0)), (2, .int (1)), (0, .ref sa), (1, .int (f))]) hx hb d_PC_init_92 rfl hl (by decide) rfl (fun ls hl => ?_)
      refine lv_iload_n hx hb d_PC_init_93 rfl (lv_at hl 0 rfl) ?_
      refine lv_iconst (v := 3) hx hb d_PC_init_94 (by decide) ?_
      refine lv_icmp_ge (tgt := 117) hx hb d_PC_init_95 (by decide) (fun c_4 => ?_) (fun c_4 => ?_)
      · exact absurd c_4 (by decide)
      · skip
        refine lv_aload_n hx hb d_PC_init_98 rfl (lv_at hl 2 rfl) ?_
        refine va_get (v := .ref (sa + 1)) hx hb hts i_PC hown hK hW.1 0 rfl rfl 0 (by decide) (hts _ kw_197) (fun _ h => h) rfl d_PC_init_99 ?_
        refine lv_iload_n hx hb d_PC_init_102 rfl (lv_at hl 0 rfl) ?_
        refine W_sz (fun hzu => ?_)
        have hzl := (va_P_mem.mp hW.1 _ (List.mem_of_getElem? (i := 6) rfl)).lt
        have hz : Array.size H = sa + 133 := sz_eq hzu hz0 hzl rfl rfl
        have hlt0 := WW_lt hW
        rw [hz] at hlt0
        refine h_new (G := G) (fs := [.null, .null, .null, .null, .null]) hx hb hts i_Store t_Store t_Store_ok hown kw_548 kw_556 kw_137 hE hW.2.2 hbs (ci := iStore) rfl df_Store (Nat.le_of_ble_eq_true rfl) (Nat.le_of_ble_eq_true rfl) d_PC_init_103 (fun H ha9 hz9 hk9 hS9 => ?_)
        have hW := WW_keep hW hk9 hS9
        rw [hz] at ha9 hz9 ⊢
        refine lv_dup hx hb d_PC_init_106 rfl ?_
        obtain ⟨hP1, hD1⟩ := WW_one ha9
        have hgs : gbase G ≤ sa + 133 := gs_le hbs hz0 (by decide)
        refine h_cv (G := G) (h_runI (G := G) (G' := gB G (sa + 133)) (I := fun Hz => Hz = H) hx hb hml hown hts hE hW.2.2 hgs rfl (sz_le hz9) rfl (h_StoreI l (gB G (sa + 133)) H (sa + 133) hz9 hP1 hD1) kw_559 kw_558 rfl kw_137 kw_557 rfl rfl hd_Store_init ⟨Nat.le_of_ble_eq_true rfl, Nat.le_of_ble_eq_true rfl⟩ (As := []) (rest := [.ref (sa + 133), .int (0), .ref (sa + 1)]) rfl hl.1 rfl (Nat.le_of_ble_eq_true rfl) d_PC_init_107 ⟨Nat.le_of_ble_eq_true rfl, Nat.le_of_ble_eq_true rfl⟩) hW.2.2 hgs (fun H9 locs hJ hq9 hk9 hS9 => ?_)
        obtain ⟨hJ1, hJ2, hJ3⟩ := hJ
        have hW := WW_block hW hlt0 hgs hk9 hJ1 hJ2 hS9
        generalize H9 = H at *
        obtain ⟨T_5, hT_5⟩ : ∃ t9 : va_W, t9 = T_1 ++ wStoreI G (sa + 133) := ⟨_, rfl⟩
        have hmT_5 : ∀ q ∈ wStoreI G (sa + 133), q ∈ T_5 := fun q hq => by rw [hT_5]; exact List.mem_append_right _ hq
        have hW : WW G zs.heap ([(sa, .inr (iPC, [.ref (sa + 1), .ref (sa + 132), .ref (sa + 2), .int (1), .ref (sa + 3), .ref (sa + 4), .ref (sa + 130), .ref (sa + 131), .int (0)])), (sa + 1, aR (gC G 4) (3) (fun _ => none)), (sa + 2, aR (gC G 6) (16) (fun _ => none)), (sa + 3, aI (gC G 0) (3) (fun _ => 0)), (sa + 130, aI (gC G 0) (8) (fun _ => 0)), (sa + 131, aI (gC G 1) (8) (fun _ => 0)), (sa + 132, aR (gC G 5) (1) (fun _ => none))] ++ T_5) H locs := by rw [hT_5, ← List.append_assoc]; exact hW
        obtain ⟨qk, hqk⟩ := List.getElem?_of_mem (show (sa + 133, _) ∈ ([(sa, .inr (iPC, [.ref (sa + 1), .ref (sa + 132), .ref (sa + 2), .int (1), .ref (sa + 3), .ref (sa + 4), .ref (sa + 130), .ref (sa + 131), .int (0)])), (sa + 1, aR (gC G 4) (3) (fun _ => none)), (sa + 2, aR (gC G 6) (16) (fun _ => none)), (sa + 3, aI (gC G 0) (3) (fun _ => 0)), (sa + 130, aI (gC G 0) (8) (fun _ => 0)), (sa + 131, aI (gC G 1) (8) (fun _ => 0)), (sa + 132, aR (gC G 5) (1) (fun _ => none))] ++ T_5) from (List.mem_append_right _ (hmT_5 _ (List.mem_of_getElem? (i := 0) rfl))))
        refine va_astq hx hb hK hW.1 hW.2.1 hW.2.2 1 4 qk iStore (r := (R_Store, T_Store, 5)) (n := 3) (f := fun _ => none) rfl rfl hqk rfl (vp_in_nI (n := 0) (by decide) (by decide)) d_PC_init_110 (fun H locs h1 h2 h3 => ?_)
        rw [show (0 : Int32).toNatClampNeg = 0 by decide] at h1 h2
        have hW : WW G zs.heap ([(sa, .inr (iPC, [.ref (sa + 1), .ref (sa + 132), .ref (sa + 2), .int (1), .ref (sa + 3), .ref (sa + 4), .ref (sa + 130), .ref (sa + 131), .int (0)])), (sa + 1, aR (gC G 4) (3) (va_up (fun _ => none) 0 (some (sa + 133)))), (sa + 2, aR (gC G 6) (16) (fun _ => none)), (sa + 3, aI (gC G 0) (3) (fun _ => 0)), (sa + 130, aI (gC G 0) (8) (fun _ => 0)), (sa + 131, aI (gC G 1) (8) (fun _ => 0)), (sa + 132, aR (gC G 5) (1) (fun _ => none))] ++ T_5) H locs := ⟨h1, h2, h3⟩
        refine lv_iinc (v := 1) (lv' := [(3, .int (1)), (2, .int (1)), (0, .ref sa), (1, .int (f))]) hx hb d_PC_init_111 hl (k := 0) rfl (by decide) (by decide) rfl (fun ls hl => ?_)
        refine lv_goto (tgt := 93) hx hb d_PC_init_114 (by decide) ?_
        refine lv_iload_n hx hb d_PC_init_93 rfl (lv_at hl 0 rfl) ?_
        refine lv_iconst (v := 3) hx hb d_PC_init_94 (by decide) ?_
        refine lv_icmp_ge (tgt := 117) hx hb d_PC_init_95 (by decide) (fun c_6 => ?_) (fun c_6 => ?_)
        · exact absurd c_6 (by decide)
        · skip
          refine lv_aload_n hx hb d_PC_init_98 rfl (lv_at hl 2 rfl) ?_
          refine va_get (v := .ref (sa + 1)) hx hb hts i_PC hown hK hW.1 0 rfl rfl 0 (by decide) (hts _ kw_197) (fun _ h => h) rfl d_PC_init_99 ?_
          refine lv_iload_n hx hb d_PC_init_102 rfl (lv_at hl 0 rfl) ?_
          refine W_sz (fun hzu => ?_)
          have hzl := (va_P_mem.mp hW.1 _ (show (sa + 146, _) ∈ ([(sa, .inr (iPC, [.ref (sa + 1), .ref (sa + 132), .ref (sa + 2), .int (1), .ref (sa + 3), .ref (sa + 4), .ref (sa + 130), .ref (sa + 131), .int (0)])), (sa + 1, aR (gC G 4) (3) (va_up (fun _ => none) 0 (some (sa + 133)))), (sa + 2, aR (gC G 6) (16) (fun _ => none)), (sa + 3, aI (gC G 0) (3) (fun _ => 0)), (sa + 130, aI (gC G 0) (8) (fun _ => 0)), (sa + 131, aI (gC G 1) (8) (fun _ => 0)), (sa + 132, aR (gC G 5) (1) (fun _ => none))] ++ T_5) from (List.mem_append_right _ (hmT_5 _ (List.mem_of_getElem? (i := 13) rfl))))).lt
          have hz : Array.size H = sa + 147 := sz_eq hzu hz0 hzl rfl rfl
          have hlt0 := WW_lt hW
          rw [hz] at hlt0
          refine h_new (G := G) (fs := [.null, .null, .null, .null, .null]) hx hb hts i_Store t_Store t_Store_ok hown kw_548 kw_556 kw_137 hE hW.2.2 hbs (ci := iStore) rfl df_Store (Nat.le_of_ble_eq_true rfl) (Nat.le_of_ble_eq_true rfl) d_PC_init_103 (fun H ha9 hz9 hk9 hS9 => ?_)
          have hW := WW_keep hW hk9 hS9
          rw [hz] at ha9 hz9 ⊢
          refine lv_dup hx hb d_PC_init_106 rfl ?_
          obtain ⟨hP1, hD1⟩ := WW_one ha9
          have hgs : gbase G ≤ sa + 147 := gs_le hbs hz0 (by decide)
          refine h_cv (G := G) (h_runI (G := G) (G' := gB G (sa + 147)) (I := fun Hz => Hz = H) hx hb hml hown hts hE hW.2.2 hgs rfl (sz_le hz9) rfl (h_StoreI l (gB G (sa + 147)) H (sa + 147) hz9 hP1 hD1) kw_559 kw_558 rfl kw_137 kw_557 rfl rfl hd_Store_init ⟨Nat.le_of_ble_eq_true rfl, Nat.le_of_ble_eq_true rfl⟩ (As := []) (rest := [.ref (sa + 147), .int (1), .ref (sa + 1)]) rfl hl.1 rfl (Nat.le_of_ble_eq_true rfl) d_PC_init_107 ⟨Nat.le_of_ble_eq_true rfl, Nat.le_of_ble_eq_true rfl⟩) hW.2.2 hgs (fun H9 locs hJ hq9 hk9 hS9 => ?_)
          obtain ⟨hJ1, hJ2, hJ3⟩ := hJ
          have hW := WW_block hW hlt0 hgs hk9 hJ1 hJ2 hS9
          generalize H9 = H at *
          obtain ⟨T_7, hT_7⟩ : ∃ t9 : va_W, t9 = T_5 ++ wStoreI G (sa + 147) := ⟨_, rfl⟩
          have hmT_7 : ∀ q ∈ wStoreI G (sa + 147), q ∈ T_7 := fun q hq => by rw [hT_7]; exact List.mem_append_right _ hq
          have hW : WW G zs.heap ([(sa, .inr (iPC, [.ref (sa + 1), .ref (sa + 132), .ref (sa + 2), .int (1), .ref (sa + 3), .ref (sa + 4), .ref (sa + 130), .ref (sa + 131), .int (0)])), (sa + 1, aR (gC G 4) (3) (va_up (fun _ => none) 0 (some (sa + 133)))), (sa + 2, aR (gC G 6) (16) (fun _ => none)), (sa + 3, aI (gC G 0) (3) (fun _ => 0)), (sa + 130, aI (gC G 0) (8) (fun _ => 0)), (sa + 131, aI (gC G 1) (8) (fun _ => 0)), (sa + 132, aR (gC G 5) (1) (fun _ => none))] ++ T_7) H locs := by rw [hT_7, ← List.append_assoc]; exact hW
          obtain ⟨qk, hqk⟩ := List.getElem?_of_mem (show (sa + 147, _) ∈ ([(sa, .inr (iPC, [.ref (sa + 1), .ref (sa + 132), .ref (sa + 2), .int (1), .ref (sa + 3), .ref (sa + 4), .ref (sa + 130), .ref (sa + 131), .int (0)])), (sa + 1, aR (gC G 4) (3) (va_up (fun _ => none) 0 (some (sa + 133)))), (sa + 2, aR (gC G 6) (16) (fun _ => none)), (sa + 3, aI (gC G 0) (3) (fun _ => 0)), (sa + 130, aI (gC G 0) (8) (fun _ => 0)), (sa + 131, aI (gC G 1) (8) (fun _ => 0)), (sa + 132, aR (gC G 5) (1) (fun _ => none))] ++ T_7) from (List.mem_append_right _ (hmT_7 _ (List.mem_of_getElem? (i := 0) rfl))))
          refine va_astq hx hb hK hW.1 hW.2.1 hW.2.2 1 4 qk iStore (r := (R_Store, T_Store, 5)) (n := 3) (f := va_up (fun _ => none) 0 (some (sa + 133))) rfl rfl hqk rfl (vp_in_nI (n := 1) (by decide) (by decide)) d_PC_init_110 (fun H locs h1 h2 h3 => ?_)
          rw [show (1 : Int32).toNatClampNeg = 1 by decide] at h1 h2
          have hW : WW G zs.heap ([(sa, .inr (iPC, [.ref (sa + 1), .ref (sa + 132), .ref (sa + 2), .int (1), .ref (sa + 3), .ref (sa + 4), .ref (sa + 130), .ref (sa + 131), .int (0)])), (sa + 1, aR (gC G 4) (3) (va_up (va_up (fun _ => none) 0 (some (sa + 133))) 1 (some (sa + 147)))), (sa + 2, aR (gC G 6) (16) (fun _ => none)), (sa + 3, aI (gC G 0) (3) (fun _ => 0)), (sa + 130, aI (gC G 0) (8) (fun _ => 0)), (sa + 131, aI (gC G 1) (8) (fun _ => 0)), (sa + 132, aR (gC G 5) (1) (fun _ => none))] ++ T_7) H locs := ⟨h1, h2, h3⟩
          refine lv_iinc (v := 2) (lv' := [(3, .int (2)), (2, .int (1)), (0, .ref sa), (1, .int (f))]) hx hb d_PC_init_111 hl (k := 0) rfl (by decide) (by decide) rfl (fun ls hl => ?_)
          refine lv_goto (tgt := 93) hx hb d_PC_init_114 (by decide) ?_
          refine lv_iload_n hx hb d_PC_init_93 rfl (lv_at hl 0 rfl) ?_
          refine lv_iconst (v := 3) hx hb d_PC_init_94 (by decide) ?_
          refine lv_icmp_ge (tgt := 117) hx hb d_PC_init_95 (by decide) (fun c_8 => ?_) (fun c_8 => ?_)
          · exact absurd c_8 (by decide)
          · skip
            refine lv_aload_n hx hb d_PC_init_98 rfl (lv_at hl 2 rfl) ?_
            refine va_get (v := .ref (sa + 1)) hx hb hts i_PC hown hK hW.1 0 rfl rfl 0 (by decide) (hts _ kw_197) (fun _ h => h) rfl d_PC_init_99 ?_
            refine lv_iload_n hx hb d_PC_init_102 rfl (lv_at hl 0 rfl) ?_
            refine W_sz (fun hzu => ?_)
            have hzl := (va_P_mem.mp hW.1 _ (show (sa + 160, _) ∈ ([(sa, .inr (iPC, [.ref (sa + 1), .ref (sa + 132), .ref (sa + 2), .int (1), .ref (sa + 3), .ref (sa + 4), .ref (sa + 130), .ref (sa + 131), .int (0)])), (sa + 1, aR (gC G 4) (3) (va_up (va_up (fun _ => none) 0 (some (sa + 133))) 1 (some (sa + 147)))), (sa + 2, aR (gC G 6) (16) (fun _ => none)), (sa + 3, aI (gC G 0) (3) (fun _ => 0)), (sa + 130, aI (gC G 0) (8) (fun _ => 0)), (sa + 131, aI (gC G 1) (8) (fun _ => 0)), (sa + 132, aR (gC G 5) (1) (fun _ => none))] ++ T_7) from (List.mem_append_right _ (hmT_7 _ (List.mem_of_getElem? (i := 13) rfl))))).lt
            have hz : Array.size H = sa + 161 := sz_eq hzu hz0 hzl rfl rfl
            have hlt0 := WW_lt hW
            rw [hz] at hlt0
            refine h_new (G := G) (fs := [.null, .null, .null, .null, .null]) hx hb hts i_Store t_Store t_Store_ok hown kw_548 kw_556 kw_137 hE hW.2.2 hbs (ci := iStore) rfl df_Store (Nat.le_of_ble_eq_true rfl) (Nat.le_of_ble_eq_true rfl) d_PC_init_103 (fun H ha9 hz9 hk9 hS9 => ?_)
            have hW := WW_keep hW hk9 hS9
            rw [hz] at ha9 hz9 ⊢
            refine lv_dup hx hb d_PC_init_106 rfl ?_
            obtain ⟨hP1, hD1⟩ := WW_one ha9
            have hgs : gbase G ≤ sa + 161 := gs_le hbs hz0 (by decide)
            refine h_cv (G := G) (h_runI (G := G) (G' := gB G (sa + 161)) (I := fun Hz => Hz = H) hx hb hml hown hts hE hW.2.2 hgs rfl (sz_le hz9) rfl (h_StoreI l (gB G (sa + 161)) H (sa + 161) hz9 hP1 hD1) kw_559 kw_558 rfl kw_137 kw_557 rfl rfl hd_Store_init ⟨Nat.le_of_ble_eq_true rfl, Nat.le_of_ble_eq_true rfl⟩ (As := []) (rest := [.ref (sa + 161), .int (2), .ref (sa + 1)]) rfl hl.1 rfl (Nat.le_of_ble_eq_true rfl) d_PC_init_107 ⟨Nat.le_of_ble_eq_true rfl, Nat.le_of_ble_eq_true rfl⟩) hW.2.2 hgs (fun H9 locs hJ hq9 hk9 hS9 => ?_)
            obtain ⟨hJ1, hJ2, hJ3⟩ := hJ
            have hW := WW_block hW hlt0 hgs hk9 hJ1 hJ2 hS9
            generalize H9 = H at *
            obtain ⟨T_9, hT_9⟩ : ∃ t9 : va_W, t9 = T_7 ++ wStoreI G (sa + 161) := ⟨_, rfl⟩
            have hmT_9 : ∀ q ∈ wStoreI G (sa + 161), q ∈ T_9 := fun q hq => by rw [hT_9]; exact List.mem_append_right _ hq
            have hW : WW G zs.heap ([(sa, .inr (iPC, [.ref (sa + 1), .ref (sa + 132), .ref (sa + 2), .int (1), .ref (sa + 3), .ref (sa + 4), .ref (sa + 130), .ref (sa + 131), .int (0)])), (sa + 1, aR (gC G 4) (3) (va_up (va_up (fun _ => none) 0 (some (sa + 133))) 1 (some (sa + 147)))), (sa + 2, aR (gC G 6) (16) (fun _ => none)), (sa + 3, aI (gC G 0) (3) (fun _ => 0)), (sa + 130, aI (gC G 0) (8) (fun _ => 0)), (sa + 131, aI (gC G 1) (8) (fun _ => 0)), (sa + 132, aR (gC G 5) (1) (fun _ => none))] ++ T_9) H locs := by rw [hT_9, ← List.append_assoc]; exact hW
            obtain ⟨qk, hqk⟩ := List.getElem?_of_mem (show (sa + 161, _) ∈ ([(sa, .inr (iPC, [.ref (sa + 1), .ref (sa + 132), .ref (sa + 2), .int (1), .ref (sa + 3), .ref (sa + 4), .ref (sa + 130), .ref (sa + 131), .int (0)])), (sa + 1, aR (gC G 4) (3) (va_up (va_up (fun _ => none) 0 (some (sa + 133))) 1 (some (sa + 147)))), (sa + 2, aR (gC G 6) (16) (fun _ => none)), (sa + 3, aI (gC G 0) (3) (fun _ => 0)), (sa + 130, aI (gC G 0) (8) (fun _ => 0)), (sa + 131, aI (gC G 1) (8) (fun _ => 0)), (sa + 132, aR (gC G 5) (1) (fun _ => none))] ++ T_9) from (List.mem_append_right _ (hmT_9 _ (List.mem_of_getElem? (i := 0) rfl))))
            refine va_astq hx hb hK hW.1 hW.2.1 hW.2.2 1 4 qk iStore (r := (R_Store, T_Store, 5)) (n := 3) (f := va_up (va_up (fun _ => none) 0 (some (sa + 133))) 1 (some (sa + 147))) rfl rfl hqk rfl (vp_in_nI (n := 2) (by decide) (by decide)) d_PC_init_110 (fun H locs h1 h2 h3 => ?_)
            rw [show (2 : Int32).toNatClampNeg = 2 by decide] at h1 h2
            have hW : WW G zs.heap ([(sa, .inr (iPC, [.ref (sa + 1), .ref (sa + 132), .ref (sa + 2), .int (1), .ref (sa + 3), .ref (sa + 4), .ref (sa + 130), .ref (sa + 131), .int (0)])), (sa + 1, aR (gC G 4) (3) (va_up (va_up (va_up (fun _ => none) 0 (some (sa + 133))) 1 (some (sa + 147))) 2 (some (sa + 161)))), (sa + 2, aR (gC G 6) (16) (fun _ => none)), (sa + 3, aI (gC G 0) (3) (fun _ => 0)), (sa + 130, aI (gC G 0) (8) (fun _ => 0)), (sa + 131, aI (gC G 1) (8) (fun _ => 0)), (sa + 132, aR (gC G 5) (1) (fun _ => none))] ++ T_9) H locs := ⟨h1, h2, h3⟩
            refine lv_iinc (v := 3) (lv' := [(3, .int (3)), (2, .int (1)), (0, .ref sa), (1, .int (f))]) hx hb d_PC_init_111 hl (k := 0) rfl (by decide) (by decide) rfl (fun ls hl => ?_)
            refine lv_goto (tgt := 93) hx hb d_PC_init_114 (by decide) ?_
            refine lv_iload_n hx hb d_PC_init_93 rfl (lv_at hl 0 rfl) ?_
            refine lv_iconst (v := 3) hx hb d_PC_init_94 (by decide) ?_
            refine lv_icmp_ge (tgt := 117) hx hb d_PC_init_95 (by decide) (fun c_10 => ?_) (fun c_10 => ?_)
            · skip
              refine lv_iconst (v := 0) hx hb d_PC_init_117 (by decide) ?_
              refine lv_istore_n (lv' := [(3, .int (0)), (2, .int (1)), (0, .ref sa), (1, .int (f))]) hx hb d_PC_init_118 rfl hl (by decide) rfl (fun ls hl => ?_)
              refine lv_iload_n hx hb d_PC_init_119 rfl (lv_at hl 0 rfl) ?_
              refine lv_iload_n hx hb d_PC_init_120 rfl (lv_at hl 1 rfl) ?_
              refine lv_icmp_ge (tgt := 143) hx hb d_PC_init_121 (by decide) (fun c_11 => ?_) (fun c_11 => ?_)
              · exact absurd c_11 (by decide)
              · skip
                refine lv_aload_n hx hb d_PC_init_124 rfl (lv_at hl 2 rfl) ?_
                refine va_get (v := .ref (sa + 132)) hx hb hts i_PC hown hK hW.1 0 rfl rfl 1 (by decide) (hts _ kw_196) (fun _ h => h) rfl d_PC_init_125 ?_
                refine lv_iload_n hx hb d_PC_init_128 rfl (lv_at hl 0 rfl) ?_
                refine W_sz (fun hzu => ?_)
                have hzl := (va_P_mem.mp hW.1 _ (show (sa + 174, _) ∈ ([(sa, .inr (iPC, [.ref (sa + 1), .ref (sa + 132), .ref (sa + 2), .int (1), .ref (sa + 3), .ref (sa + 4), .ref (sa + 130), .ref (sa + 131), .int (0)])), (sa + 1, aR (gC G 4) (3) (va_up (va_up (va_up (fun _ => none) 0 (some (sa + 133))) 1 (some (sa + 147))) 2 (some (sa + 161)))), (sa + 2, aR (gC G 6) (16) (fun _ => none)), (sa + 3, aI (gC G 0) (3) (fun _ => 0)), (sa + 130, aI (gC G 0) (8) (fun _ => 0)), (sa + 131, aI (gC G 1) (8) (fun _ => 0)), (sa + 132, aR (gC G 5) (1) (fun _ => none))] ++ T_9) from (List.mem_append_right _ (hmT_9 _ (List.mem_of_getElem? (i := 13) rfl))))).lt
                have hz : Array.size H = sa + 175 := sz_eq hzu hz0 hzl rfl rfl
                have hlt0 := WW_lt hW
                rw [hz] at hlt0
                refine h_new (G := G) (fs := [.null, .null]) hx hb hts i_Acc t_Acc t_Acc_ok hown kw_555 kw_560 kw_233 hE hW.2.2 hbs (ci := iAcc) rfl df_Acc (Nat.le_of_ble_eq_true rfl) (Nat.le_of_ble_eq_true rfl) d_PC_init_129 (fun H ha9 hz9 hk9 hS9 => ?_)
                have hW := WW_keep hW hk9 hS9
                rw [hz] at ha9 hz9 ⊢
                refine lv_dup hx hb d_PC_init_132 rfl ?_
                obtain ⟨hP1, hD1⟩ := WW_one ha9
                have hgs : gbase G ≤ sa + 175 := gs_le hbs hz0 (by decide)
                refine h_cv (G := G) (h_runI (G := G) (G' := gB G (sa + 175)) (I := fun Hz => Hz = H) hx hb hml hown hts hE hW.2.2 hgs rfl (sz_le hz9) rfl (h_AccI l (gB G (sa + 175)) H (sa + 175) hz9 hP1 hD1) kw_563 kw_562 rfl kw_233 kw_561 rfl rfl hd_Acc_init ⟨Nat.le_of_ble_eq_true rfl, Nat.le_of_ble_eq_true rfl⟩ (As := []) (rest := [.ref (sa + 175), .int (0), .ref (sa + 132)]) rfl hl.1 rfl (Nat.le_of_ble_eq_true rfl) d_PC_init_133 ⟨Nat.le_of_ble_eq_true rfl, Nat.le_of_ble_eq_true rfl⟩) hW.2.2 hgs (fun H9 locs hJ hq9 hk9 hS9 => ?_)
                obtain ⟨hJ1, hJ2, hJ3⟩ := hJ
                have hW := WW_block hW hlt0 hgs hk9 hJ1 hJ2 hS9
                generalize H9 = H at *
                obtain ⟨T_12, hT_12⟩ : ∃ t9 : va_W, t9 = T_9 ++ wAccI G (sa + 175) := ⟨_, rfl⟩
                have hmT_12 : ∀ q ∈ wAccI G (sa + 175), q ∈ T_12 := fun q hq => by rw [hT_12]; exact List.mem_append_right _ hq
                have hW : WW G zs.heap ([(sa, .inr (iPC, [.ref (sa + 1), .ref (sa + 132), .ref (sa + 2), .int (1), .ref (sa + 3), .ref (sa + 4), .ref (sa + 130), .ref (sa + 131), .int (0)])), (sa + 1, aR (gC G 4) (3) (va_up (va_up (va_up (fun _ => none) 0 (some (sa + 133))) 1 (some (sa + 147))) 2 (some (sa + 161)))), (sa + 2, aR (gC G 6) (16) (fun _ => none)), (sa + 3, aI (gC G 0) (3) (fun _ => 0)), (sa + 130, aI (gC G 0) (8) (fun _ => 0)), (sa + 131, aI (gC G 1) (8) (fun _ => 0)), (sa + 132, aR (gC G 5) (1) (fun _ => none))] ++ T_12) H locs := by rw [hT_12, ← List.append_assoc]; exact hW
                obtain ⟨qk, hqk⟩ := List.getElem?_of_mem (show (sa + 175, _) ∈ ([(sa, .inr (iPC, [.ref (sa + 1), .ref (sa + 132), .ref (sa + 2), .int (1), .ref (sa + 3), .ref (sa + 4), .ref (sa + 130), .ref (sa + 131), .int (0)])), (sa + 1, aR (gC G 4) (3) (va_up (va_up (va_up (fun _ => none) 0 (some (sa + 133))) 1 (some (sa + 147))) 2 (some (sa + 161)))), (sa + 2, aR (gC G 6) (16) (fun _ => none)), (sa + 3, aI (gC G 0) (3) (fun _ => 0)), (sa + 130, aI (gC G 0) (8) (fun _ => 0)), (sa + 131, aI (gC G 1) (8) (fun _ => 0)), (sa + 132, aR (gC G 5) (1) (fun _ => none))] ++ T_12) from (List.mem_append_right _ (hmT_12 _ (List.mem_of_getElem? (i := 0) rfl))))
                refine va_astq hx hb hK hW.1 hW.2.1 hW.2.2 6 5 qk iAcc (r := (R_Acc, T_Acc, 2)) (n := 1) (f := fun _ => none) rfl rfl hqk rfl (vp_in_nI (n := 0) (by decide) (by decide)) d_PC_init_136 (fun H locs h1 h2 h3 => ?_)
                rw [show (0 : Int32).toNatClampNeg = 0 by decide] at h1 h2
                have hW : WW G zs.heap ([(sa, .inr (iPC, [.ref (sa + 1), .ref (sa + 132), .ref (sa + 2), .int (1), .ref (sa + 3), .ref (sa + 4), .ref (sa + 130), .ref (sa + 131), .int (0)])), (sa + 1, aR (gC G 4) (3) (va_up (va_up (va_up (fun _ => none) 0 (some (sa + 133))) 1 (some (sa + 147))) 2 (some (sa + 161)))), (sa + 2, aR (gC G 6) (16) (fun _ => none)), (sa + 3, aI (gC G 0) (3) (fun _ => 0)), (sa + 130, aI (gC G 0) (8) (fun _ => 0)), (sa + 131, aI (gC G 1) (8) (fun _ => 0)), (sa + 132, aR (gC G 5) (1) (va_up (fun _ => none) 0 (some (sa + 175))))] ++ T_12) H locs := ⟨h1, h2, h3⟩
                refine lv_iinc (v := 1) (lv' := [(3, .int (1)), (2, .int (1)), (0, .ref sa), (1, .int (f))]) hx hb d_PC_init_137 hl (k := 0) rfl (by decide) (by decide) rfl (fun ls hl => ?_)
                refine lv_goto (tgt := 119) hx hb d_PC_init_140 (by decide) ?_
                refine lv_iload_n hx hb d_PC_init_119 rfl (lv_at hl 0 rfl) ?_
                refine lv_iload_n hx hb d_PC_init_120 rfl (lv_at hl 1 rfl) ?_
                refine lv_icmp_ge (tgt := 143) hx hb d_PC_init_121 (by decide) (fun c_13 => ?_) (fun c_13 => ?_)
                · skip
                  refine lv_iconst (v := 0) hx hb d_PC_init_143 (by decide) ?_
                  refine lv_istore_n (lv' := [(3, .int (0)), (2, .int (1)), (0, .ref sa), (1, .int (f))]) hx hb d_PC_init_144 rfl hl (by decide) rfl (fun ls hl => ?_)
                  refine lv_iload_n hx hb d_PC_init_145 rfl (lv_at hl 0 rfl) ?_
                  refine lv_bipush (v := 16) hx hb d_PC_init_146 (by decide) ?_
                  refine lv_icmp_ge (tgt := 171) hx hb d_PC_init_148 (by decide) (fun c_14 => ?_) (fun c_14 => ?_)
                  · exact absurd c_14 (by decide)
                  · skip
                    refine lv_aload_n hx hb d_PC_init_151 rfl (lv_at hl 2 rfl) ?_
                    refine va_get (v := .ref (sa + 2)) hx hb hts i_PC hown hK hW.1 0 rfl rfl 2 (by decide) (hts _ kw_195) (fun _ h => h) rfl d_PC_init_152 ?_
                    refine lv_iload_n hx hb d_PC_init_155 rfl (lv_at hl 0 rfl) ?_
                    refine W_sz (fun hzu => ?_)
                    have hzl := (va_P_mem.mp hW.1 _ (show (sa + 193, _) ∈ ([(sa, .inr (iPC, [.ref (sa + 1), .ref (sa + 132), .ref (sa + 2), .int (1), .ref (sa + 3), .ref (sa + 4), .ref (sa + 130), .ref (sa + 131), .int (0)])), (sa + 1, aR (gC G 4) (3) (va_up (va_up (va_up (fun _ => none) 0 (some (sa + 133))) 1 (some (sa + 147))) 2 (some (sa + 161)))), (sa + 2, aR (gC G 6) (16) (fun _ => none)), (sa + 3, aI (gC G 0) (3) (fun _ => 0)), (sa + 130, aI (gC G 0) (8) (fun _ => 0)), (sa + 131, aI (gC G 1) (8) (fun _ => 0)), (sa + 132, aR (gC G 5) (1) (va_up (fun _ => none) 0 (some (sa + 175))))] ++ T_12) from (List.mem_append_right _ (hmT_12 _ (List.mem_of_getElem? (i := 18) rfl))))).lt
                    have hz : Array.size H = sa + 194 := sz_eq hzu hz0 hzl rfl rfl
                    have hlt0 := WW_lt hW
                    rw [hz] at hlt0
                    refine h_new (G := G) (fs := [.int (0), .int (0), .int (0), .null, .null, .null]) hx hb hts i_Led t_Led t_Led_ok hown kw_549 kw_564 kw_156 hE hW.2.2 hbs (ci := iLed) rfl df_Led (Nat.le_of_ble_eq_true rfl) (Nat.le_of_ble_eq_true rfl) d_PC_init_156 (fun H ha9 hz9 hk9 hS9 => ?_)
                    have hW := WW_keep hW hk9 hS9
                    rw [hz] at ha9 hz9 ⊢
                    refine lv_dup hx hb d_PC_init_159 rfl ?_
                    refine lv_iload_n hx hb d_PC_init_160 rfl (lv_at hl 1 rfl) ?_
                    obtain ⟨hP1, hD1⟩ := WW_one ha9
                    have hgs : gbase G ≤ sa + 194 := gs_le hbs hz0 (by decide)
                    refine h_cv (G := G) (h_runI (G := G) (G' := gB G (sa + 194)) (I := fun Hz => Hz = H) hx hb hml hown hts hE hW.2.2 hgs rfl (sz_le hz9) rfl (h_LedI1 l (gB G (sa + 194)) H (sa + 194) hz9 hP1 hD1) kw_567 kw_566 rfl kw_156 kw_565 rfl rfl hd_Led_init ⟨Nat.le_of_ble_eq_true rfl, Nat.le_of_ble_eq_true rfl⟩ (As := [.int (1)]) (rest := [.ref (sa + 194), .int (0), .ref (sa + 2)]) rfl hl.1 rfl (Nat.le_of_ble_eq_true rfl) d_PC_init_161 ⟨Nat.le_of_ble_eq_true rfl, Nat.le_of_ble_eq_true rfl⟩) hW.2.2 hgs (fun H9 locs hJ hq9 hk9 hS9 => ?_)
                    obtain ⟨hJ1, hJ2, hJ3⟩ := hJ
                    have hW := WW_block hW hlt0 hgs hk9 hJ1 hJ2 hS9
                    generalize H9 = H at *
                    obtain ⟨T_15, hT_15⟩ : ∃ t9 : va_W, t9 = T_12 ++ wLedI1 G (sa + 194) := ⟨_, rfl⟩
                    have hmT_15 : ∀ q ∈ wLedI1 G (sa + 194), q ∈ T_15 := fun q hq => by rw [hT_15]; exact List.mem_append_right _ hq
                    have hW : WW G zs.heap ([(sa, .inr (iPC, [.ref (sa + 1), .ref (sa + 132), .ref (sa + 2), .int (1), .ref (sa + 3), .ref (sa + 4), .ref (sa + 130), .ref (sa + 131), .int (0)])), (sa + 1, aR (gC G 4) (3) (va_up (va_up (va_up (fun _ => none) 0 (some (sa + 133))) 1 (some (sa + 147))) 2 (some (sa + 161)))), (sa + 2, aR (gC G 6) (16) (fun _ => none)), (sa + 3, aI (gC G 0) (3) (fun _ => 0)), (sa + 130, aI (gC G 0) (8) (fun _ => 0)), (sa + 131, aI (gC G 1) (8) (fun _ => 0)), (sa + 132, aR (gC G 5) (1) (va_up (fun _ => none) 0 (some (sa + 175))))] ++ T_15) H locs := by rw [hT_15, ← List.append_assoc]; exact hW
                    obtain ⟨qk, hqk⟩ := List.getElem?_of_mem (show (sa + 194, _) ∈ ([(sa, .inr (iPC, [.ref (sa + 1), .ref (sa + 132), .ref (sa + 2), .int (1), .ref (sa + 3), .ref (sa + 4), .ref (sa + 130), .ref (sa + 131), .int (0)])), (sa + 1, aR (gC G 4) (3) (va_up (va_up (va_up (fun _ => none) 0 (some (sa + 133))) 1 (some (sa + 147))) 2 (some (sa + 161)))), (sa + 2, aR (gC G 6) (16) (fun _ => none)), (sa + 3, aI (gC G 0) (3) (fun _ => 0)), (sa + 130, aI (gC G 0) (8) (fun _ => 0)), (sa + 131, aI (gC G 1) (8) (fun _ => 0)), (sa + 132, aR (gC G 5) (1) (va_up (fun _ => none) 0 (some (sa + 175))))] ++ T_15) from (List.mem_append_right _ (hmT_15 _ (List.mem_of_getElem? (i := 0) rfl))))
                    refine va_astq hx hb hK hW.1 hW.2.1 hW.2.2 2 6 qk iLed (r := (R_Led, T_Led, 6)) (n := 16) (f := fun _ => none) rfl rfl hqk rfl (vp_in_nI (n := 0) (by decide) (by decide)) d_PC_init_164 (fun H locs h1 h2 h3 => ?_)
                    rw [show (0 : Int32).toNatClampNeg = 0 by decide] at h1 h2
                    have hW : WW G zs.heap ([(sa, .inr (iPC, [.ref (sa + 1), .ref (sa + 132), .ref (sa + 2), .int (1), .ref (sa + 3), .ref (sa + 4), .ref (sa + 130), .ref (sa + 131), .int (0)])), (sa + 1, aR (gC G 4) (3) (va_up (va_up (va_up (fun _ => none) 0 (some (sa + 133))) 1 (some (sa + 147))) 2 (some (sa + 161)))), (sa + 2, aR (gC G 6) (16) (va_up (fun _ => none) 0 (some (sa + 194)))), (sa + 3, aI (gC G 0) (3) (fun _ => 0)), (sa + 130, aI (gC G 0) (8) (fun _ => 0)), (sa + 131, aI (gC G 1) (8) (fun _ => 0)), (sa + 132, aR (gC G 5) (1) (va_up (fun _ => none) 0 (some (sa + 175))))] ++ T_15) H locs := ⟨h1, h2, h3⟩
                    refine lv_iinc (v := 1) (lv' := [(3, .int (1)), (2, .int (1)), (0, .ref sa), (1, .int (f))]) hx hb d_PC_init_165 hl (k := 0) rfl (by decide) (by decide) rfl (fun ls hl => ?_)
                    refine lv_goto (tgt := 145) hx hb d_PC_init_168 (by decide) ?_
                    refine lv_iload_n hx hb d_PC_init_145 rfl (lv_at hl 0 rfl) ?_
                    refine lv_bipush (v := 16) hx hb d_PC_init_146 (by decide) ?_
                    refine lv_icmp_ge (tgt := 171) hx hb d_PC_init_148 (by decide) (fun c_16 => ?_) (fun c_16 => ?_)
                    · exact absurd c_16 (by decide)
                    · skip
                      refine lv_aload_n hx hb d_PC_init_151 rfl (lv_at hl 2 rfl) ?_
                      refine va_get (v := .ref (sa + 2)) hx hb hts i_PC hown hK hW.1 0 rfl rfl 2 (by decide) (hts _ kw_195) (fun _ h => h) rfl d_PC_init_152 ?_
                      refine lv_iload_n hx hb d_PC_init_155 rfl (lv_at hl 0 rfl) ?_
                      refine W_sz (fun hzu => ?_)
                      have hzl := (va_P_mem.mp hW.1 _ (show (sa + 199, _) ∈ ([(sa, .inr (iPC, [.ref (sa + 1), .ref (sa + 132), .ref (sa + 2), .int (1), .ref (sa + 3), .ref (sa + 4), .ref (sa + 130), .ref (sa + 131), .int (0)])), (sa + 1, aR (gC G 4) (3) (va_up (va_up (va_up (fun _ => none) 0 (some (sa + 133))) 1 (some (sa + 147))) 2 (some (sa + 161)))), (sa + 2, aR (gC G 6) (16) (va_up (fun _ => none) 0 (some (sa + 194)))), (sa + 3, aI (gC G 0) (3) (fun _ => 0)), (sa + 130, aI (gC G 0) (8) (fun _ => 0)), (sa + 131, aI (gC G 1) (8) (fun _ => 0)), (sa + 132, aR (gC G 5) (1) (va_up (fun _ => none) 0 (some (sa + 175))))] ++ T_15) from (List.mem_append_right _ (hmT_15 _ (List.mem_of_getElem? (i := 5) rfl))))).lt
                      have hz : Array.size H = sa + 200 := sz_eq hzu hz0 hzl rfl rfl
                      have hlt0 := WW_lt hW
                      rw [hz] at hlt0
                      refine h_new (G := G) (fs := [.int (0), .int (0), .int (0), .null, .null, .null]) hx hb hts i_Led t_Led t_Led_ok hown kw_549 kw_564 kw_156 hE hW.2.2 hbs (ci := iLed) rfl df_Led (Nat.le_of_ble_eq_true rfl) (Nat.le_of_ble_eq_true rfl) d_PC_init_156 (fun H ha9 hz9 hk9 hS9 => ?_)
                      have hW := WW_keep hW hk9 hS9
                      rw [hz] at ha9 hz9 ⊢
                      refine lv_dup hx hb d_PC_init_159 rfl ?_
                      refine lv_iload_n hx hb d_PC_init_160 rfl (lv_at hl 1 rfl) ?_
                      obtain ⟨hP1, hD1⟩ := WW_one ha9
                      have hgs : gbase G ≤ sa + 200 := gs_le hbs hz0 (by decide)
                      refine h_cv (G := G) (h_runI (G := G) (G' := gB G (sa + 200)) (I := fun Hz => Hz = H) hx hb hml hown hts hE hW.2.2 hgs rfl (sz_le hz9) rfl (h_LedI1 l (gB G (sa + 200)) H (sa + 200) hz9 hP1 hD1) kw_567 kw_566 rfl kw_156 kw_565 rfl rfl hd_Led_init ⟨Nat.le_of_ble_eq_true rfl, Nat.le_of_ble_eq_true rfl⟩ (As := [.int (1)]) (rest := [.ref (sa + 200), .int (1), .ref (sa + 2)]) rfl hl.1 rfl (Nat.le_of_ble_eq_true rfl) d_PC_init_161 ⟨Nat.le_of_ble_eq_true rfl, Nat.le_of_ble_eq_true rfl⟩) hW.2.2 hgs (fun H9 locs hJ hq9 hk9 hS9 => ?_)
                      obtain ⟨hJ1, hJ2, hJ3⟩ := hJ
                      have hW := WW_block hW hlt0 hgs hk9 hJ1 hJ2 hS9
                      generalize H9 = H at *
                      obtain ⟨T_17, hT_17⟩ : ∃ t9 : va_W, t9 = T_15 ++ wLedI1 G (sa + 200) := ⟨_, rfl⟩
                      have hmT_17 : ∀ q ∈ wLedI1 G (sa + 200), q ∈ T_17 := fun q hq => by rw [hT_17]; exact List.mem_append_right _ hq
                      have hW : WW G zs.heap ([(sa, .inr (iPC, [.ref (sa + 1), .ref (sa + 132), .ref (sa + 2), .int (1), .ref (sa + 3), .ref (sa + 4), .ref (sa + 130), .ref (sa + 131), .int (0)])), (sa + 1, aR (gC G 4) (3) (va_up (va_up (va_up (fun _ => none) 0 (some (sa + 133))) 1 (some (sa + 147))) 2 (some (sa + 161)))), (sa + 2, aR (gC G 6) (16) (va_up (fun _ => none) 0 (some (sa + 194)))), (sa + 3, aI (gC G 0) (3) (fun _ => 0)), (sa + 130, aI (gC G 0) (8) (fun _ => 0)), (sa + 131, aI (gC G 1) (8) (fun _ => 0)), (sa + 132, aR (gC G 5) (1) (va_up (fun _ => none) 0 (some (sa + 175))))] ++ T_17) H locs := by rw [hT_17, ← List.append_assoc]; exact hW
                      obtain ⟨qk, hqk⟩ := List.getElem?_of_mem (show (sa + 200, _) ∈ ([(sa, .inr (iPC, [.ref (sa + 1), .ref (sa + 132), .ref (sa + 2), .int (1), .ref (sa + 3), .ref (sa + 4), .ref (sa + 130), .ref (sa + 131), .int (0)])), (sa + 1, aR (gC G 4) (3) (va_up (va_up (va_up (fun _ => none) 0 (some (sa + 133))) 1 (some (sa + 147))) 2 (some (sa + 161)))), (sa + 2, aR (gC G 6) (16) (va_up (fun _ => none) 0 (some (sa + 194)))), (sa + 3, aI (gC G 0) (3) (fun _ => 0)), (sa + 130, aI (gC G 0) (8) (fun _ => 0)), (sa + 131, aI (gC G 1) (8) (fun _ => 0)), (sa + 132, aR (gC G 5) (1) (va_up (fun _ => none) 0 (some (sa + 175))))] ++ T_17) from (List.mem_append_right _ (hmT_17 _ (List.mem_of_getElem? (i := 0) rfl))))
                      refine va_astq hx hb hK hW.1 hW.2.1 hW.2.2 2 6 qk iLed (r := (R_Led, T_Led, 6)) (n := 16) (f := va_up (fun _ => none) 0 (some (sa + 194))) rfl rfl hqk rfl (vp_in_nI (n := 1) (by decide) (by decide)) d_PC_init_164 (fun H locs h1 h2 h3 => ?_)
                      rw [show (1 : Int32).toNatClampNeg = 1 by decide] at h1 h2
                      have hW : WW G zs.heap ([(sa, .inr (iPC, [.ref (sa + 1), .ref (sa + 132), .ref (sa + 2), .int (1), .ref (sa + 3), .ref (sa + 4), .ref (sa + 130), .ref (sa + 131), .int (0)])), (sa + 1, aR (gC G 4) (3) (va_up (va_up (va_up (fun _ => none) 0 (some (sa + 133))) 1 (some (sa + 147))) 2 (some (sa + 161)))), (sa + 2, aR (gC G 6) (16) (va_up (va_up (fun _ => none) 0 (some (sa + 194))) 1 (some (sa + 200)))), (sa + 3, aI (gC G 0) (3) (fun _ => 0)), (sa + 130, aI (gC G 0) (8) (fun _ => 0)), (sa + 131, aI (gC G 1) (8) (fun _ => 0)), (sa + 132, aR (gC G 5) (1) (va_up (fun _ => none) 0 (some (sa + 175))))] ++ T_17) H locs := ⟨h1, h2, h3⟩
                      refine lv_iinc (v := 2) (lv' := [(3, .int (2)), (2, .int (1)), (0, .ref sa), (1, .int (f))]) hx hb d_PC_init_165 hl (k := 0) rfl (by decide) (by decide) rfl (fun ls hl => ?_)
                      refine lv_goto (tgt := 145) hx hb d_PC_init_168 (by decide) ?_
                      refine lv_iload_n hx hb d_PC_init_145 rfl (lv_at hl 0 rfl) ?_
                      refine lv_bipush (v := 16) hx hb d_PC_init_146 (by decide) ?_
                      refine lv_icmp_ge (tgt := 171) hx hb d_PC_init_148 (by decide) (fun c_18 => ?_) (fun c_18 => ?_)
                      · exact absurd c_18 (by decide)
                      · skip
                        refine lv_aload_n hx hb d_PC_init_151 rfl (lv_at hl 2 rfl) ?_
                        refine va_get (v := .ref (sa + 2)) hx hb hts i_PC hown hK hW.1 0 rfl rfl 2 (by decide) (hts _ kw_195) (fun _ h => h) rfl d_PC_init_152 ?_
                        refine lv_iload_n hx hb d_PC_init_155 rfl (lv_at hl 0 rfl) ?_
                        refine W_sz (fun hzu => ?_)
                        have hzl := (va_P_mem.mp hW.1 _ (show (sa + 205, _) ∈ ([(sa, .inr (iPC, [.ref (sa + 1), .ref (sa + 132), .ref (sa + 2), .int (1), .ref (sa + 3), .ref (sa + 4), .ref (sa + 130), .ref (sa + 131), .int (0)])), (sa + 1, aR (gC G 4) (3) (va_up (va_up (va_up (fun _ => none) 0 (some (sa + 133))) 1 (some (sa + 147))) 2 (some (sa + 161)))), (sa + 2, aR (gC G 6) (16) (va_up (va_up (fun _ => none) 0 (some (sa + 194))) 1 (some (sa + 200)))), (sa + 3, aI (gC G 0) (3) (fun _ => 0)), (sa + 130, aI (gC G 0) (8) (fun _ => 0)), (sa + 131, aI (gC G 1) (8) (fun _ => 0)), (sa + 132, aR (gC G 5) (1) (va_up (fun _ => none) 0 (some (sa + 175))))] ++ T_17) from (List.mem_append_right _ (hmT_17 _ (List.mem_of_getElem? (i := 5) rfl))))).lt
                        have hz : Array.size H = sa + 206 := sz_eq hzu hz0 hzl rfl rfl
                        have hlt0 := WW_lt hW
                        rw [hz] at hlt0
                        refine h_new (G := G) (fs := [.int (0), .int (0), .int (0), .null, .null, .null]) hx hb hts i_Led t_Led t_Led_ok hown kw_549 kw_564 kw_156 hE hW.2.2 hbs (ci := iLed) rfl df_Led (Nat.le_of_ble_eq_true rfl) (Nat.le_of_ble_eq_true rfl) d_PC_init_156 (fun H ha9 hz9 hk9 hS9 => ?_)
                        have hW := WW_keep hW hk9 hS9
                        rw [hz] at ha9 hz9 ⊢
                        refine lv_dup hx hb d_PC_init_159 rfl ?_
                        refine lv_iload_n hx hb d_PC_init_160 rfl (lv_at hl 1 rfl) ?_
                        obtain ⟨hP1, hD1⟩ := WW_one ha9
                        have hgs : gbase G ≤ sa + 206 := gs_le hbs hz0 (by decide)
                        refine h_cv (G := G) (h_runI (G := G) (G' := gB G (sa + 206)) (I := fun Hz => Hz = H) hx hb hml hown hts hE hW.2.2 hgs rfl (sz_le hz9) rfl (h_LedI1 l (gB G (sa + 206)) H (sa + 206) hz9 hP1 hD1) kw_567 kw_566 rfl kw_156 kw_565 rfl rfl hd_Led_init ⟨Nat.le_of_ble_eq_true rfl, Nat.le_of_ble_eq_true rfl⟩ (As := [.int (1)]) (rest := [.ref (sa + 206), .int (2), .ref (sa + 2)]) rfl hl.1 rfl (Nat.le_of_ble_eq_true rfl) d_PC_init_161 ⟨Nat.le_of_ble_eq_true rfl, Nat.le_of_ble_eq_true rfl⟩) hW.2.2 hgs (fun H9 locs hJ hq9 hk9 hS9 => ?_)
                        obtain ⟨hJ1, hJ2, hJ3⟩ := hJ
                        have hW := WW_block hW hlt0 hgs hk9 hJ1 hJ2 hS9
                        generalize H9 = H at *
                        obtain ⟨T_19, hT_19⟩ : ∃ t9 : va_W, t9 = T_17 ++ wLedI1 G (sa + 206) := ⟨_, rfl⟩
                        have hmT_19 : ∀ q ∈ wLedI1 G (sa + 206), q ∈ T_19 := fun q hq => by rw [hT_19]; exact List.mem_append_right _ hq
                        have hW : WW G zs.heap ([(sa, .inr (iPC, [.ref (sa + 1), .ref (sa + 132), .ref (sa + 2), .int (1), .ref (sa + 3), .ref (sa + 4), .ref (sa + 130), .ref (sa + 131), .int (0)])), (sa + 1, aR (gC G 4) (3) (va_up (va_up (va_up (fun _ => none) 0 (some (sa + 133))) 1 (some (sa + 147))) 2 (some (sa + 161)))), (sa + 2, aR (gC G 6) (16) (va_up (va_up (fun _ => none) 0 (some (sa + 194))) 1 (some (sa + 200)))), (sa + 3, aI (gC G 0) (3) (fun _ => 0)), (sa + 130, aI (gC G 0) (8) (fun _ => 0)), (sa + 131, aI (gC G 1) (8) (fun _ => 0)), (sa + 132, aR (gC G 5) (1) (va_up (fun _ => none) 0 (some (sa + 175))))] ++ T_19) H locs := by rw [hT_19, ← List.append_assoc]; exact hW
                        obtain ⟨qk, hqk⟩ := List.getElem?_of_mem (show (sa + 206, _) ∈ ([(sa, .inr (iPC, [.ref (sa + 1), .ref (sa + 132), .ref (sa + 2), .int (1), .ref (sa + 3), .ref (sa + 4), .ref (sa + 130), .ref (sa + 131), .int (0)])), (sa + 1, aR (gC G 4) (3) (va_up (va_up (va_up (fun _ => none) 0 (some (sa + 133))) 1 (some (sa + 147))) 2 (some (sa + 161)))), (sa + 2, aR (gC G 6) (16) (va_up (va_up (fun _ => none) 0 (some (sa + 194))) 1 (some (sa + 200)))), (sa + 3, aI (gC G 0) (3) (fun _ => 0)), (sa + 130, aI (gC G 0) (8) (fun _ => 0)), (sa + 131, aI (gC G 1) (8) (fun _ => 0)), (sa + 132, aR (gC G 5) (1) (va_up (fun _ => none) 0 (some (sa + 175))))] ++ T_19) from (List.mem_append_right _ (hmT_19 _ (List.mem_of_getElem? (i := 0) rfl))))
                        refine va_astq hx hb hK hW.1 hW.2.1 hW.2.2 2 6 qk iLed (r := (R_Led, T_Led, 6)) (n := 16) (f := va_up (va_up (fun _ => none) 0 (some (sa + 194))) 1 (some (sa + 200))) rfl rfl hqk rfl (vp_in_nI (n := 2) (by decide) (by decide)) d_PC_init_164 (fun H locs h1 h2 h3 => ?_)
                        rw [show (2 : Int32).toNatClampNeg = 2 by decide] at h1 h2
                        have hW : WW G zs.heap ([(sa, .inr (iPC, [.ref (sa + 1), .ref (sa + 132), .ref (sa + 2), .int (1), .ref (sa + 3), .ref (sa + 4), .ref (sa + 130), .ref (sa + 131), .int (0)])), (sa + 1, aR (gC G 4) (3) (va_up (va_up (va_up (fun _ => none) 0 (some (sa + 133))) 1 (some (sa + 147))) 2 (some (sa + 161)))), (sa + 2, aR (gC G 6) (16) (va_up (va_up (va_up (fun _ => none) 0 (some (sa + 194))) 1 (some (sa + 200))) 2 (some (sa + 206)))), (sa + 3, aI (gC G 0) (3) (fun _ => 0)), (sa + 130, aI (gC G 0) (8) (fun _ => 0)), (sa + 131, aI (gC G 1) (8) (fun _ => 0)), (sa + 132, aR (gC G 5) (1) (va_up (fun _ => none) 0 (some (sa + 175))))] ++ T_19) H locs := ⟨h1, h2, h3⟩
                        refine lv_iinc (v := 3) (lv' := [(3, .int (3)), (2, .int (1)), (0, .ref sa), (1, .int (f))]) hx hb d_PC_init_165 hl (k := 0) rfl (by decide) (by decide) rfl (fun ls hl => ?_)
                        refine lv_goto (tgt := 145) hx hb d_PC_init_168 (by decide) ?_
                        refine lv_iload_n hx hb d_PC_init_145 rfl (lv_at hl 0 rfl) ?_
                        refine lv_bipush (v := 16) hx hb d_PC_init_146 (by decide) ?_
                        refine lv_icmp_ge (tgt := 171) hx hb d_PC_init_148 (by decide) (fun c_20 => ?_) (fun c_20 => ?_)
                        · exact absurd c_20 (by decide)
                        · skip
                          refine lv_aload_n hx hb d_PC_init_151 rfl (lv_at hl 2 rfl) ?_
                          refine va_get (v := .ref (sa + 2)) hx hb hts i_PC hown hK hW.1 0 rfl rfl 2 (by decide) (hts _ kw_195) (fun _ h => h) rfl d_PC_init_152 ?_
                          refine lv_iload_n hx hb d_PC_init_155 rfl (lv_at hl 0 rfl) ?_
                          refine W_sz (fun hzu => ?_)
                          have hzl := (va_P_mem.mp hW.1 _ (show (sa + 211, _) ∈ ([(sa, .inr (iPC, [.ref (sa + 1), .ref (sa + 132), .ref (sa + 2), .int (1), .ref (sa + 3), .ref (sa + 4), .ref (sa + 130), .ref (sa + 131), .int (0)])), (sa + 1, aR (gC G 4) (3) (va_up (va_up (va_up (fun _ => none) 0 (some (sa + 133))) 1 (some (sa + 147))) 2 (some (sa + 161)))), (sa + 2, aR (gC G 6) (16) (va_up (va_up (va_up (fun _ => none) 0 (some (sa + 194))) 1 (some (sa + 200))) 2 (some (sa + 206)))), (sa + 3, aI (gC G 0) (3) (fun _ => 0)), (sa + 130, aI (gC G 0) (8) (fun _ => 0)), (sa + 131, aI (gC G 1) (8) (fun _ => 0)), (sa + 132, aR (gC G 5) (1) (va_up (fun _ => none) 0 (some (sa + 175))))] ++ T_19) from (List.mem_append_right _ (hmT_19 _ (List.mem_of_getElem? (i := 5) rfl))))).lt
                          have hz : Array.size H = sa + 212 := sz_eq hzu hz0 hzl rfl rfl
                          have hlt0 := WW_lt hW
                          rw [hz] at hlt0
                          refine h_new (G := G) (fs := [.int (0), .int (0), .int (0), .null, .null, .null]) hx hb hts i_Led t_Led t_Led_ok hown kw_549 kw_564 kw_156 hE hW.2.2 hbs (ci := iLed) rfl df_Led (Nat.le_of_ble_eq_true rfl) (Nat.le_of_ble_eq_true rfl) d_PC_init_156 (fun H ha9 hz9 hk9 hS9 => ?_)
                          have hW := WW_keep hW hk9 hS9
                          rw [hz] at ha9 hz9 ⊢
                          refine lv_dup hx hb d_PC_init_159 rfl ?_
                          refine lv_iload_n hx hb d_PC_init_160 rfl (lv_at hl 1 rfl) ?_
                          obtain ⟨hP1, hD1⟩ := WW_one ha9
                          have hgs : gbase G ≤ sa + 212 := gs_le hbs hz0 (by decide)
                          refine h_cv (G := G) (h_runI (G := G) (G' := gB G (sa + 212)) (I := fun Hz => Hz = H) hx hb hml hown hts hE hW.2.2 hgs rfl (sz_le hz9) rfl (h_LedI1 l (gB G (sa + 212)) H (sa + 212) hz9 hP1 hD1) kw_567 kw_566 rfl kw_156 kw_565 rfl rfl hd_Led_init ⟨Nat.le_of_ble_eq_true rfl, Nat.le_of_ble_eq_true rfl⟩ (As := [.int (1)]) (rest := [.ref (sa + 212), .int (3), .ref (sa + 2)]) rfl hl.1 rfl (Nat.le_of_ble_eq_true rfl) d_PC_init_161 ⟨Nat.le_of_ble_eq_true rfl, Nat.le_of_ble_eq_true rfl⟩) hW.2.2 hgs (fun H9 locs hJ hq9 hk9 hS9 => ?_)
                          obtain ⟨hJ1, hJ2, hJ3⟩ := hJ
                          have hW := WW_block hW hlt0 hgs hk9 hJ1 hJ2 hS9
                          generalize H9 = H at *
                          obtain ⟨T_21, hT_21⟩ : ∃ t9 : va_W, t9 = T_19 ++ wLedI1 G (sa + 212) := ⟨_, rfl⟩
                          have hmT_21 : ∀ q ∈ wLedI1 G (sa + 212), q ∈ T_21 := fun q hq => by rw [hT_21]; exact List.mem_append_right _ hq
                          have hW : WW G zs.heap ([(sa, .inr (iPC, [.ref (sa + 1), .ref (sa + 132), .ref (sa + 2), .int (1), .ref (sa + 3), .ref (sa + 4), .ref (sa + 130), .ref (sa + 131), .int (0)])), (sa + 1, aR (gC G 4) (3) (va_up (va_up (va_up (fun _ => none) 0 (some (sa + 133))) 1 (some (sa + 147))) 2 (some (sa + 161)))), (sa + 2, aR (gC G 6) (16) (va_up (va_up (va_up (fun _ => none) 0 (some (sa + 194))) 1 (some (sa + 200))) 2 (some (sa + 206)))), (sa + 3, aI (gC G 0) (3) (fun _ => 0)), (sa + 130, aI (gC G 0) (8) (fun _ => 0)), (sa + 131, aI (gC G 1) (8) (fun _ => 0)), (sa + 132, aR (gC G 5) (1) (va_up (fun _ => none) 0 (some (sa + 175))))] ++ T_21) H locs := by rw [hT_21, ← List.append_assoc]; exact hW
                          obtain ⟨qk, hqk⟩ := List.getElem?_of_mem (show (sa + 212, _) ∈ ([(sa, .inr (iPC, [.ref (sa + 1), .ref (sa + 132), .ref (sa + 2), .int (1), .ref (sa + 3), .ref (sa + 4), .ref (sa + 130), .ref (sa + 131), .int (0)])), (sa + 1, aR (gC G 4) (3) (va_up (va_up (va_up (fun _ => none) 0 (some (sa + 133))) 1 (some (sa + 147))) 2 (some (sa + 161)))), (sa + 2, aR (gC G 6) (16) (va_up (va_up (va_up (fun _ => none) 0 (some (sa + 194))) 1 (some (sa + 200))) 2 (some (sa + 206)))), (sa + 3, aI (gC G 0) (3) (fun _ => 0)), (sa + 130, aI (gC G 0) (8) (fun _ => 0)), (sa + 131, aI (gC G 1) (8) (fun _ => 0)), (sa + 132, aR (gC G 5) (1) (va_up (fun _ => none) 0 (some (sa + 175))))] ++ T_21) from (List.mem_append_right _ (hmT_21 _ (List.mem_of_getElem? (i := 0) rfl))))
                          refine va_astq hx hb hK hW.1 hW.2.1 hW.2.2 2 6 qk iLed (r := (R_Led, T_Led, 6)) (n := 16) (f := va_up (va_up (va_up (fun _ => none) 0 (some (sa + 194))) 1 (some (sa + 200))) 2 (some (sa + 206))) rfl rfl hqk rfl (vp_in_nI (n := 3) (by decide) (by decide)) d_PC_init_164 (fun H locs h1 h2 h3 => ?_)
                          rw [show (3 : Int32).toNatClampNeg = 3 by decide] at h1 h2
                          have hW : WW G zs.heap ([(sa, .inr (iPC, [.ref (sa + 1), .ref (sa + 132), .ref (sa + 2), .int (1), .ref (sa + 3), .ref (sa + 4), .ref (sa + 130), .ref (sa + 131), .int (0)])), (sa + 1, aR (gC G 4) (3) (va_up (va_up (va_up (fun _ => none) 0 (some (sa + 133))) 1 (some (sa + 147))) 2 (some (sa + 161)))), (sa + 2, aR (gC G 6) (16) (va_up (va_up (va_up (va_up (fun _ => none) 0 (some (sa + 194))) 1 (some (sa + 200))) 2 (some (sa + 206))) 3 (some (sa + 212)))), (sa + 3, aI (gC G 0) (3) (fun _ => 0)), (sa + 130, aI (gC G 0) (8) (fun _ => 0)), (sa + 131, aI (gC G 1) (8) (fun _ => 0)), (sa + 132, aR (gC G 5) (1) (va_up (fun _ => none) 0 (some (sa + 175))))] ++ T_21) H locs := ⟨h1, h2, h3⟩
                          refine lv_iinc (v := 4) (lv' := [(3, .int (4)), (2, .int (1)), (0, .ref sa), (1, .int (f))]) hx hb d_PC_init_165 hl (k := 0) rfl (by decide) (by decide) rfl (fun ls hl => ?_)
                          refine lv_goto (tgt := 145) hx hb d_PC_init_168 (by decide) ?_
                          refine lv_iload_n hx hb d_PC_init_145 rfl (lv_at hl 0 rfl) ?_
                          refine lv_bipush (v := 16) hx hb d_PC_init_146 (by decide) ?_
                          refine lv_icmp_ge (tgt := 171) hx hb d_PC_init_148 (by decide) (fun c_22 => ?_) (fun c_22 => ?_)
                          · exact absurd c_22 (by decide)
                          · skip
                            refine lv_aload_n hx hb d_PC_init_151 rfl (lv_at hl 2 rfl) ?_
                            refine va_get (v := .ref (sa + 2)) hx hb hts i_PC hown hK hW.1 0 rfl rfl 2 (by decide) (hts _ kw_195) (fun _ h => h) rfl d_PC_init_152 ?_
                            refine lv_iload_n hx hb d_PC_init_155 rfl (lv_at hl 0 rfl) ?_
                            refine W_sz (fun hzu => ?_)
                            have hzl := (va_P_mem.mp hW.1 _ (show (sa + 217, _) ∈ ([(sa, .inr (iPC, [.ref (sa + 1), .ref (sa + 132), .ref (sa + 2), .int (1), .ref (sa + 3), .ref (sa + 4), .ref (sa + 130), .ref (sa + 131), .int (0)])), (sa + 1, aR (gC G 4) (3) (va_up (va_up (va_up (fun _ => none) 0 (some (sa + 133))) 1 (some (sa + 147))) 2 (some (sa + 161)))), (sa + 2, aR (gC G 6) (16) (va_up (va_up (va_up (va_up (fun _ => none) 0 (some (sa + 194))) 1 (some (sa + 200))) 2 (some (sa + 206))) 3 (some (sa + 212)))), (sa + 3, aI (gC G 0) (3) (fun _ => 0)), (sa + 130, aI (gC G 0) (8) (fun _ => 0)), (sa + 131, aI (gC G 1) (8) (fun _ => 0)), (sa + 132, aR (gC G 5) (1) (va_up (fun _ => none) 0 (some (sa + 175))))] ++ T_21) from (List.mem_append_right _ (hmT_21 _ (List.mem_of_getElem? (i := 5) rfl))))).lt
                            have hz : Array.size H = sa + 218 := sz_eq hzu hz0 hzl rfl rfl
                            have hlt0 := WW_lt hW
                            rw [hz] at hlt0
                            refine h_new (G := G) (fs := [.int (0), .int (0), .int (0), .null, .null, .null]) hx hb hts i_Led t_Led t_Led_ok hown kw_549 kw_564 kw_156 hE hW.2.2 hbs (ci := iLed) rfl df_Led (Nat.le_of_ble_eq_true rfl) (Nat.le_of_ble_eq_true rfl) d_PC_init_156 (fun H ha9 hz9 hk9 hS9 => ?_)
                            have hW := WW_keep hW hk9 hS9
                            rw [hz] at ha9 hz9 ⊢
                            refine lv_dup hx hb d_PC_init_159 rfl ?_
                            refine lv_iload_n hx hb d_PC_init_160 rfl (lv_at hl 1 rfl) ?_
                            obtain ⟨hP1, hD1⟩ := WW_one ha9
                            have hgs : gbase G ≤ sa + 218 := gs_le hbs hz0 (by decide)
                            refine h_cv (G := G) (h_runI (G := G) (G' := gB G (sa + 218)) (I := fun Hz => Hz = H) hx hb hml hown hts hE hW.2.2 hgs rfl (sz_le hz9) rfl (h_LedI1 l (gB G (sa + 218)) H (sa + 218) hz9 hP1 hD1) kw_567 kw_566 rfl kw_156 kw_565 rfl rfl hd_Led_init ⟨Nat.le_of_ble_eq_true rfl, Nat.le_of_ble_eq_true rfl⟩ (As := [.int (1)]) (rest := [.ref (sa + 218), .int (4), .ref (sa + 2)]) rfl hl.1 rfl (Nat.le_of_ble_eq_true rfl) d_PC_init_161 ⟨Nat.le_of_ble_eq_true rfl, Nat.le_of_ble_eq_true rfl⟩) hW.2.2 hgs (fun H9 locs hJ hq9 hk9 hS9 => ?_)
                            obtain ⟨hJ1, hJ2, hJ3⟩ := hJ
                            have hW := WW_block hW hlt0 hgs hk9 hJ1 hJ2 hS9
                            generalize H9 = H at *
                            obtain ⟨T_23, hT_23⟩ : ∃ t9 : va_W, t9 = T_21 ++ wLedI1 G (sa + 218) := ⟨_, rfl⟩
                            have hmT_23 : ∀ q ∈ wLedI1 G (sa + 218), q ∈ T_23 := fun q hq => by rw [hT_23]; exact List.mem_append_right _ hq
                            have hW : WW G zs.heap ([(sa, .inr (iPC, [.ref (sa + 1), .ref (sa + 132), .ref (sa + 2), .int (1), .ref (sa + 3), .ref (sa + 4), .ref (sa + 130), .ref (sa + 131), .int (0)])), (sa + 1, aR (gC G 4) (3) (va_up (va_up (va_up (fun _ => none) 0 (some (sa + 133))) 1 (some (sa + 147))) 2 (some (sa + 161)))), (sa + 2, aR (gC G 6) (16) (va_up (va_up (va_up (va_up (fun _ => none) 0 (some (sa + 194))) 1 (some (sa + 200))) 2 (some (sa + 206))) 3 (some (sa + 212)))), (sa + 3, aI (gC G 0) (3) (fun _ => 0)), (sa + 130, aI (gC G 0) (8) (fun _ => 0)), (sa + 131, aI (gC G 1) (8) (fun _ => 0)), (sa + 132, aR (gC G 5) (1) (va_up (fun _ => none) 0 (some (sa + 175))))] ++ T_23) H locs := by rw [hT_23, ← List.append_assoc]; exact hW
                            obtain ⟨qk, hqk⟩ := List.getElem?_of_mem (show (sa + 218, _) ∈ ([(sa, .inr (iPC, [.ref (sa + 1), .ref (sa + 132), .ref (sa + 2), .int (1), .ref (sa + 3), .ref (sa + 4), .ref (sa + 130), .ref (sa + 131), .int (0)])), (sa + 1, aR (gC G 4) (3) (va_up (va_up (va_up (fun _ => none) 0 (some (sa + 133))) 1 (some (sa + 147))) 2 (some (sa + 161)))), (sa + 2, aR (gC G 6) (16) (va_up (va_up (va_up (va_up (fun _ => none) 0 (some (sa + 194))) 1 (some (sa + 200))) 2 (some (sa + 206))) 3 (some (sa + 212)))), (sa + 3, aI (gC G 0) (3) (fun _ => 0)), (sa + 130, aI (gC G 0) (8) (fun _ => 0)), (sa + 131, aI (gC G 1) (8) (fun _ => 0)), (sa + 132, aR (gC G 5) (1) (va_up (fun _ => none) 0 (some (sa + 175))))] ++ T_23) from (List.mem_append_right _ (hmT_23 _ (List.mem_of_getElem? (i := 0) rfl))))
                            refine va_astq hx hb hK hW.1 hW.2.1 hW.2.2 2 6 qk iLed (r := (R_Led, T_Led, 6)) (n := 16) (f := va_up (va_up (va_up (va_up (fun _ => none) 0 (some (sa + 194))) 1 (some (sa + 200))) 2 (some (sa + 206))) 3 (some (sa + 212))) rfl rfl hqk rfl (vp_in_nI (n := 4) (by decide) (by decide)) d_PC_init_164 (fun H locs h1 h2 h3 => ?_)
                            rw [show (4 : Int32).toNatClampNeg = 4 by decide] at h1 h2
                            have hW : WW G zs.heap ([(sa, .inr (iPC, [.ref (sa + 1), .ref (sa + 132), .ref (sa + 2), .int (1), .ref (sa + 3), .ref (sa + 4), .ref (sa + 130), .ref (sa + 131), .int (0)])), (sa + 1, aR (gC G 4) (3) (va_up (va_up (va_up (fun _ => none) 0 (some (sa + 133))) 1 (some (sa + 147))) 2 (some (sa + 161)))), (sa + 2, aR (gC G 6) (16) (va_up (va_up (va_up (va_up (va_up (fun _ => none) 0 (some (sa + 194))) 1 (some (sa + 200))) 2 (some (sa + 206))) 3 (some (sa + 212))) 4 (some (sa + 218)))), (sa + 3, aI (gC G 0) (3) (fun _ => 0)), (sa + 130, aI (gC G 0) (8) (fun _ => 0)), (sa + 131, aI (gC G 1) (8) (fun _ => 0)), (sa + 132, aR (gC G 5) (1) (va_up (fun _ => none) 0 (some (sa + 175))))] ++ T_23) H locs := ⟨h1, h2, h3⟩
                            refine lv_iinc (v := 5) (lv' := [(3, .int (5)), (2, .int (1)), (0, .ref sa), (1, .int (f))]) hx hb d_PC_init_165 hl (k := 0) rfl (by decide) (by decide) rfl (fun ls hl => ?_)
                            refine lv_goto (tgt := 145) hx hb d_PC_init_168 (by decide) ?_
                            refine lv_iload_n hx hb d_PC_init_145 rfl (lv_at hl 0 rfl) ?_
                            refine lv_bipush (v := 16) hx hb d_PC_init_146 (by decide) ?_
                            refine lv_icmp_ge (tgt := 171) hx hb d_PC_init_148 (by decide) (fun c_24 => ?_) (fun c_24 => ?_)
                            · exact absurd c_24 (by decide)
                            · skip
                              refine lv_aload_n hx hb d_PC_init_151 rfl (lv_at hl 2 rfl) ?_
                              refine va_get (v := .ref (sa + 2)) hx hb hts i_PC hown hK hW.1 0 rfl rfl 2 (by decide) (hts _ kw_195) (fun _ h => h) rfl d_PC_init_152 ?_
                              refine lv_iload_n hx hb d_PC_init_155 rfl (lv_at hl 0 rfl) ?_
                              refine W_sz (fun hzu => ?_)
                              have hzl := (va_P_mem.mp hW.1 _ (show (sa + 223, _) ∈ ([(sa, .inr (iPC, [.ref (sa + 1), .ref (sa + 132), .ref (sa + 2), .int (1), .ref (sa + 3), .ref (sa + 4), .ref (sa + 130), .ref (sa + 131), .int (0)])), (sa + 1, aR (gC G 4) (3) (va_up (va_up (va_up (fun _ => none) 0 (some (sa + 133))) 1 (some (sa + 147))) 2 (some (sa + 161)))), (sa + 2, aR (gC G 6) (16) (va_up (va_up (va_up (va_up (va_up (fun _ => none) 0 (some (sa + 194))) 1 (some (sa + 200))) 2 (some (sa + 206))) 3 (some (sa + 212))) 4 (some (sa + 218)))), (sa + 3, aI (gC G 0) (3) (fun _ => 0)), (sa + 130, aI (gC G 0) (8) (fun _ => 0)), (sa + 131, aI (gC G 1) (8) (fun _ => 0)), (sa + 132, aR (gC G 5) (1) (va_up (fun _ => none) 0 (some (sa + 175))))] ++ T_23) from (List.mem_append_right _ (hmT_23 _ (List.mem_of_getElem? (i := 5) rfl))))).lt
                              have hz : Array.size H = sa + 224 := sz_eq hzu hz0 hzl rfl rfl
                              have hlt0 := WW_lt hW
                              rw [hz] at hlt0
                              refine h_new (G := G) (fs := [.int (0), .int (0), .int (0), .null, .null, .null]) hx hb hts i_Led t_Led t_Led_ok hown kw_549 kw_564 kw_156 hE hW.2.2 hbs (ci := iLed) rfl df_Led (Nat.le_of_ble_eq_true rfl) (Nat.le_of_ble_eq_true rfl) d_PC_init_156 (fun H ha9 hz9 hk9 hS9 => ?_)
                              have hW := WW_keep hW hk9 hS9
                              rw [hz] at ha9 hz9 ⊢
                              refine lv_dup hx hb d_PC_init_159 rfl ?_
                              refine lv_iload_n hx hb d_PC_init_160 rfl (lv_at hl 1 rfl) ?_
                              obtain ⟨hP1, hD1⟩ := WW_one ha9
                              have hgs : gbase G ≤ sa + 224 := gs_le hbs hz0 (by decide)
                              refine h_cv (G := G) (h_runI (G := G) (G' := gB G (sa + 224)) (I := fun Hz => Hz = H) hx hb hml hown hts hE hW.2.2 hgs rfl (sz_le hz9) rfl (h_LedI1 l (gB G (sa + 224)) H (sa + 224) hz9 hP1 hD1) kw_567 kw_566 rfl kw_156 kw_565 rfl rfl hd_Led_init ⟨Nat.le_of_ble_eq_true rfl, Nat.le_of_ble_eq_true rfl⟩ (As := [.int (1)]) (rest := [.ref (sa + 224), .int (5), .ref (sa + 2)]) rfl hl.1 rfl (Nat.le_of_ble_eq_true rfl) d_PC_init_161 ⟨Nat.le_of_ble_eq_true rfl, Nat.le_of_ble_eq_true rfl⟩) hW.2.2 hgs (fun H9 locs hJ hq9 hk9 hS9 => ?_)
                              obtain ⟨hJ1, hJ2, hJ3⟩ := hJ
                              have hW := WW_block hW hlt0 hgs hk9 hJ1 hJ2 hS9
                              generalize H9 = H at *
                              obtain ⟨T_25, hT_25⟩ : ∃ t9 : va_W, t9 = T_23 ++ wLedI1 G (sa + 224) := ⟨_, rfl⟩
                              have hmT_25 : ∀ q ∈ wLedI1 G (sa + 224), q ∈ T_25 := fun q hq => by rw [hT_25]; exact List.mem_append_right _ hq
                              have hW : WW G zs.heap ([(sa, .inr (iPC, [.ref (sa + 1), .ref (sa + 132), .ref (sa + 2), .int (1), .ref (sa + 3), .ref (sa + 4), .ref (sa + 130), .ref (sa + 131), .int (0)])), (sa + 1, aR (gC G 4) (3) (va_up (va_up (va_up (fun _ => none) 0 (some (sa + 133))) 1 (some (sa + 147))) 2 (some (sa + 161)))), (sa + 2, aR (gC G 6) (16) (va_up (va_up (va_up (va_up (va_up (fun _ => none) 0 (some (sa + 194))) 1 (some (sa + 200))) 2 (some (sa + 206))) 3 (some (sa + 212))) 4 (some (sa + 218)))), (sa + 3, aI (gC G 0) (3) (fun _ => 0)), (sa + 130, aI (gC G 0) (8) (fun _ => 0)), (sa + 131, aI (gC G 1) (8) (fun _ => 0)), (sa + 132, aR (gC G 5) (1) (va_up (fun _ => none) 0 (some (sa + 175))))] ++ T_25) H locs := by rw [hT_25, ← List.append_assoc]; exact hW
                              obtain ⟨qk, hqk⟩ := List.getElem?_of_mem (show (sa + 224, _) ∈ ([(sa, .inr (iPC, [.ref (sa + 1), .ref (sa + 132), .ref (sa + 2), .int (1), .ref (sa + 3), .ref (sa + 4), .ref (sa + 130), .ref (sa + 131), .int (0)])), (sa + 1, aR (gC G 4) (3) (va_up (va_up (va_up (fun _ => none) 0 (some (sa + 133))) 1 (some (sa + 147))) 2 (some (sa + 161)))), (sa + 2, aR (gC G 6) (16) (va_up (va_up (va_up (va_up (va_up (fun _ => none) 0 (some (sa + 194))) 1 (some (sa + 200))) 2 (some (sa + 206))) 3 (some (sa + 212))) 4 (some (sa + 218)))), (sa + 3, aI (gC G 0) (3) (fun _ => 0)), (sa + 130, aI (gC G 0) (8) (fun _ => 0)), (sa + 131, aI (gC G 1) (8) (fun _ => 0)), (sa + 132, aR (gC G 5) (1) (va_up (fun _ => none) 0 (some (sa + 175))))] ++ T_25) from (List.mem_append_right _ (hmT_25 _ (List.mem_of_getElem? (i := 0) rfl))))
                              refine va_astq hx hb hK hW.1 hW.2.1 hW.2.2 2 6 qk iLed (r := (R_Led, T_Led, 6)) (n := 16) (f := va_up (va_up (va_up (va_up (va_up (fun _ => none) 0 (some (sa + 194))) 1 (some (sa + 200))) 2 (some (sa + 206))) 3 (some (sa + 212))) 4 (some (sa + 218))) rfl rfl hqk rfl (vp_in_nI (n := 5) (by decide) (by decide)) d_PC_init_164 (fun H locs h1 h2 h3 => ?_)
                              rw [show (5 : Int32).toNatClampNeg = 5 by decide] at h1 h2
                              have hW : WW G zs.heap ([(sa, .inr (iPC, [.ref (sa + 1), .ref (sa + 132), .ref (sa + 2), .int (1), .ref (sa + 3), .ref (sa + 4), .ref (sa + 130), .ref (sa + 131), .int (0)])), (sa + 1, aR (gC G 4) (3) (va_up (va_up (va_up (fun _ => none) 0 (some (sa + 133))) 1 (some (sa + 147))) 2 (some (sa + 161)))), (sa + 2, aR (gC G 6) (16) (va_up (va_up (va_up (va_up (va_up (va_up (fun _ => none) 0 (some (sa + 194))) 1 (some (sa + 200))) 2 (some (sa + 206))) 3 (some (sa + 212))) 4 (some (sa + 218))) 5 (some (sa + 224)))), (sa + 3, aI (gC G 0) (3) (fun _ => 0)), (sa + 130, aI (gC G 0) (8) (fun _ => 0)), (sa + 131, aI (gC G 1) (8) (fun _ => 0)), (sa + 132, aR (gC G 5) (1) (va_up (fun _ => none) 0 (some (sa + 175))))] ++ T_25) H locs := ⟨h1, h2, h3⟩
                              refine lv_iinc (v := 6) (lv' := [(3, .int (6)), (2, .int (1)), (0, .ref sa), (1, .int (f))]) hx hb d_PC_init_165 hl (k := 0) rfl (by decide) (by decide) rfl (fun ls hl => ?_)
                              refine lv_goto (tgt := 145) hx hb d_PC_init_168 (by decide) ?_
                              refine lv_iload_n hx hb d_PC_init_145 rfl (lv_at hl 0 rfl) ?_
                              refine lv_bipush (v := 16) hx hb d_PC_init_146 (by decide) ?_
                              refine lv_icmp_ge (tgt := 171) hx hb d_PC_init_148 (by decide) (fun c_26 => ?_) (fun c_26 => ?_)
                              · exact absurd c_26 (by decide)
                              · skip
                                refine lv_aload_n hx hb d_PC_init_151 rfl (lv_at hl 2 rfl) ?_
                                refine va_get (v := .ref (sa + 2)) hx hb hts i_PC hown hK hW.1 0 rfl rfl 2 (by decide) (hts _ kw_195) (fun _ h => h) rfl d_PC_init_152 ?_
                                refine lv_iload_n hx hb d_PC_init_155 rfl (lv_at hl 0 rfl) ?_
                                refine W_sz (fun hzu => ?_)
                                have hzl := (va_P_mem.mp hW.1 _ (show (sa + 229, _) ∈ ([(sa, .inr (iPC, [.ref (sa + 1), .ref (sa + 132), .ref (sa + 2), .int (1), .ref (sa + 3), .ref (sa + 4), .ref (sa + 130), .ref (sa + 131), .int (0)])), (sa + 1, aR (gC G 4) (3) (va_up (va_up (va_up (fun _ => none) 0 (some (sa + 133))) 1 (some (sa + 147))) 2 (some (sa + 161)))), (sa + 2, aR (gC G 6) (16) (va_up (va_up (va_up (va_up (va_up (va_up (fun _ => none) 0 (some (sa + 194))) 1 (some (sa + 200))) 2 (some (sa + 206))) 3 (some (sa + 212))) 4 (some (sa + 218))) 5 (some (sa + 224)))), (sa + 3, aI (gC G 0) (3) (fun _ => 0)), (sa + 130, aI (gC G 0) (8) (fun _ => 0)), (sa + 131, aI (gC G 1) (8) (fun _ => 0)), (sa + 132, aR (gC G 5) (1) (va_up (fun _ => none) 0 (some (sa + 175))))] ++ T_25) from (List.mem_append_right _ (hmT_25 _ (List.mem_of_getElem? (i := 5) rfl))))).lt
                                have hz : Array.size H = sa + 230 := sz_eq hzu hz0 hzl rfl rfl
                                have hlt0 := WW_lt hW
                                rw [hz] at hlt0
                                refine h_new (G := G) (fs := [.int (0), .int (0), .int (0), .null, .null, .null]) hx hb hts i_Led t_Led t_Led_ok hown kw_549 kw_564 kw_156 hE hW.2.2 hbs (ci := iLed) rfl df_Led (Nat.le_of_ble_eq_true rfl) (Nat.le_of_ble_eq_true rfl) d_PC_init_156 (fun H ha9 hz9 hk9 hS9 => ?_)
                                have hW := WW_keep hW hk9 hS9
                                rw [hz] at ha9 hz9 ⊢
                                refine lv_dup hx hb d_PC_init_159 rfl ?_
                                refine lv_iload_n hx hb d_PC_init_160 rfl (lv_at hl 1 rfl) ?_
                                obtain ⟨hP1, hD1⟩ := WW_one ha9
                                have hgs : gbase G ≤ sa + 230 := gs_le hbs hz0 (by decide)
                                refine h_cv (G := G) (h_runI (G := G) (G' := gB G (sa + 230)) (I := fun Hz => Hz = H) hx hb hml hown hts hE hW.2.2 hgs rfl (sz_le hz9) rfl (h_LedI1 l (gB G (sa + 230)) H (sa + 230) hz9 hP1 hD1) kw_567 kw_566 rfl kw_156 kw_565 rfl rfl hd_Led_init ⟨Nat.le_of_ble_eq_true rfl, Nat.le_of_ble_eq_true rfl⟩ (As := [.int (1)]) (rest := [.ref (sa + 230), .int (6), .ref (sa + 2)]) rfl hl.1 rfl (Nat.le_of_ble_eq_true rfl) d_PC_init_161 ⟨Nat.le_of_ble_eq_true rfl, Nat.le_of_ble_eq_true rfl⟩) hW.2.2 hgs (fun H9 locs hJ hq9 hk9 hS9 => ?_)
                                obtain ⟨hJ1, hJ2, hJ3⟩ := hJ
                                have hW := WW_block hW hlt0 hgs hk9 hJ1 hJ2 hS9
                                generalize H9 = H at *
                                obtain ⟨T_27, hT_27⟩ : ∃ t9 : va_W, t9 = T_25 ++ wLedI1 G (sa + 230) := ⟨_, rfl⟩
                                have hmT_27 : ∀ q ∈ wLedI1 G (sa + 230), q ∈ T_27 := fun q hq => by rw [hT_27]; exact List.mem_append_right _ hq
                                have hW : WW G zs.heap ([(sa, .inr (iPC, [.ref (sa + 1), .ref (sa + 132), .ref (sa + 2), .int (1), .ref (sa + 3), .ref (sa + 4), .ref (sa + 130), .ref (sa + 131), .int (0)])), (sa + 1, aR (gC G 4) (3) (va_up (va_up (va_up (fun _ => none) 0 (some (sa + 133))) 1 (some (sa + 147))) 2 (some (sa + 161)))), (sa + 2, aR (gC G 6) (16) (va_up (va_up (va_up (va_up (va_up (va_up (fun _ => none) 0 (some (sa + 194))) 1 (some (sa + 200))) 2 (some (sa + 206))) 3 (some (sa + 212))) 4 (some (sa + 218))) 5 (some (sa + 224)))), (sa + 3, aI (gC G 0) (3) (fun _ => 0)), (sa + 130, aI (gC G 0) (8) (fun _ => 0)), (sa + 131, aI (gC G 1) (8) (fun _ => 0)), (sa + 132, aR (gC G 5) (1) (va_up (fun _ => none) 0 (some (sa + 175))))] ++ T_27) H locs := by rw [hT_27, ← List.append_assoc]; exact hW
                                obtain ⟨qk, hqk⟩ := List.getElem?_of_mem (show (sa + 230, _) ∈ ([(sa, .inr (iPC, [.ref (sa + 1), .ref (sa + 132), .ref (sa + 2), .int (1), .ref (sa + 3), .ref (sa + 4), .ref (sa + 130), .ref (sa + 131), .int (0)])), (sa + 1, aR (gC G 4) (3) (va_up (va_up (va_up (fun _ => none) 0 (some (sa + 133))) 1 (some (sa + 147))) 2 (some (sa + 161)))), (sa + 2, aR (gC G 6) (16) (va_up (va_up (va_up (va_up (va_up (va_up (fun _ => none) 0 (some (sa + 194))) 1 (some (sa + 200))) 2 (some (sa + 206))) 3 (some (sa + 212))) 4 (some (sa + 218))) 5 (some (sa + 224)))), (sa + 3, aI (gC G 0) (3) (fun _ => 0)), (sa + 130, aI (gC G 0) (8) (fun _ => 0)), (sa + 131, aI (gC G 1) (8) (fun _ => 0)), (sa + 132, aR (gC G 5) (1) (va_up (fun _ => none) 0 (some (sa + 175))))] ++ T_27) from (List.mem_append_right _ (hmT_27 _ (List.mem_of_getElem? (i := 0) rfl))))
                                refine va_astq hx hb hK hW.1 hW.2.1 hW.2.2 2 6 qk iLed (r := (R_Led, T_Led, 6)) (n := 16) (f := va_up (va_up (va_up (va_up (va_up (va_up (fun _ => none) 0 (some (sa + 194))) 1 (some (sa + 200))) 2 (some (sa + 206))) 3 (some (sa + 212))) 4 (some (sa + 218))) 5 (some (sa + 224))) rfl rfl hqk rfl (vp_in_nI (n := 6) (by decide) (by decide)) d_PC_init_164 (fun H locs h1 h2 h3 => ?_)
                                rw [show (6 : Int32).toNatClampNeg = 6 by decide] at h1 h2
                                have hW : WW G zs.heap ([(sa, .inr (iPC, [.ref (sa + 1), .ref (sa + 132), .ref (sa + 2), .int (1), .ref (sa + 3), .ref (sa + 4), .ref (sa + 130), .ref (sa + 131), .int (0)])), (sa + 1, aR (gC G 4) (3) (va_up (va_up (va_up (fun _ => none) 0 (some (sa + 133))) 1 (some (sa + 147))) 2 (some (sa + 161)))), (sa + 2, aR (gC G 6) (16) (va_up (va_up (va_up (va_up (va_up (va_up (va_up (fun _ => none) 0 (some (sa + 194))) 1 (some (sa + 200))) 2 (some (sa + 206))) 3 (some (sa + 212))) 4 (some (sa + 218))) 5 (some (sa + 224))) 6 (some (sa + 230)))), (sa + 3, aI (gC G 0) (3) (fun _ => 0)), (sa + 130, aI (gC G 0) (8) (fun _ => 0)), (sa + 131, aI (gC G 1) (8) (fun _ => 0)), (sa + 132, aR (gC G 5) (1) (va_up (fun _ => none) 0 (some (sa + 175))))] ++ T_27) H locs := ⟨h1, h2, h3⟩
                                refine lv_iinc (v := 7) (lv' := [(3, .int (7)), (2, .int (1)), (0, .ref sa), (1, .int (f))]) hx hb d_PC_init_165 hl (k := 0) rfl (by decide) (by decide) rfl (fun ls hl => ?_)
                                refine lv_goto (tgt := 145) hx hb d_PC_init_168 (by decide) ?_
                                refine lv_iload_n hx hb d_PC_init_145 rfl (lv_at hl 0 rfl) ?_
                                refine lv_bipush (v := 16) hx hb d_PC_init_146 (by decide) ?_
                                refine lv_icmp_ge (tgt := 171) hx hb d_PC_init_148 (by decide) (fun c_28 => ?_) (fun c_28 => ?_)
                                · exact absurd c_28 (by decide)
                                · skip
                                  refine lv_aload_n hx hb d_PC_init_151 rfl (lv_at hl 2 rfl) ?_
                                  refine va_get (v := .ref (sa + 2)) hx hb hts i_PC hown hK hW.1 0 rfl rfl 2 (by decide) (hts _ kw_195) (fun _ h => h) rfl d_PC_init_152 ?_
                                  refine lv_iload_n hx hb d_PC_init_155 rfl (lv_at hl 0 rfl) ?_
                                  refine W_sz (fun hzu => ?_)
                                  have hzl := (va_P_mem.mp hW.1 _ (show (sa + 235, _) ∈ ([(sa, .inr (iPC, [.ref (sa + 1), .ref (sa + 132), .ref (sa + 2), .int (1), .ref (sa + 3), .ref (sa + 4), .ref (sa + 130), .ref (sa + 131), .int (0)])), (sa + 1, aR (gC G 4) (3) (va_up (va_up (va_up (fun _ => none) 0 (some (sa + 133))) 1 (some (sa + 147))) 2 (some (sa + 161)))), (sa + 2, aR (gC G 6) (16) (va_up (va_up (va_up (va_up (va_up (va_up (va_up (fun _ => none) 0 (some (sa + 194))) 1 (some (sa + 200))) 2 (some (sa + 206))) 3 (some (sa + 212))) 4 (some (sa + 218))) 5 (some (sa + 224))) 6 (some (sa + 230)))), (sa + 3, aI (gC G 0) (3) (fun _ => 0)), (sa + 130, aI (gC G 0) (8) (fun _ => 0)), (sa + 131, aI (gC G 1) (8) (fun _ => 0)), (sa + 132, aR (gC G 5) (1) (va_up (fun _ => none) 0 (some (sa + 175))))] ++ T_27) from (List.mem_append_right _ (hmT_27 _ (List.mem_of_getElem? (i := 5) rfl))))).lt
                                  have hz : Array.size H = sa + 236 := sz_eq hzu hz0 hzl rfl rfl
                                  have hlt0 := WW_lt hW
                                  rw [hz] at hlt0
                                  refine h_new (G := G) (fs := [.int (0), .int (0), .int (0), .null, .null, .null]) hx hb hts i_Led t_Led t_Led_ok hown kw_549 kw_564 kw_156 hE hW.2.2 hbs (ci := iLed) rfl df_Led (Nat.le_of_ble_eq_true rfl) (Nat.le_of_ble_eq_true rfl) d_PC_init_156 (fun H ha9 hz9 hk9 hS9 => ?_)
                                  have hW := WW_keep hW hk9 hS9
                                  rw [hz] at ha9 hz9 ⊢
                                  refine lv_dup hx hb d_PC_init_159 rfl ?_
                                  refine lv_iload_n hx hb d_PC_init_160 rfl (lv_at hl 1 rfl) ?_
                                  obtain ⟨hP1, hD1⟩ := WW_one ha9
                                  have hgs : gbase G ≤ sa + 236 := gs_le hbs hz0 (by decide)
                                  refine h_cv (G := G) (h_runI (G := G) (G' := gB G (sa + 236)) (I := fun Hz => Hz = H) hx hb hml hown hts hE hW.2.2 hgs rfl (sz_le hz9) rfl (h_LedI1 l (gB G (sa + 236)) H (sa + 236) hz9 hP1 hD1) kw_567 kw_566 rfl kw_156 kw_565 rfl rfl hd_Led_init ⟨Nat.le_of_ble_eq_true rfl, Nat.le_of_ble_eq_true rfl⟩ (As := [.int (1)]) (rest := [.ref (sa + 236), .int (7), .ref (sa + 2)]) rfl hl.1 rfl (Nat.le_of_ble_eq_true rfl) d_PC_init_161 ⟨Nat.le_of_ble_eq_true rfl, Nat.le_of_ble_eq_true rfl⟩) hW.2.2 hgs (fun H9 locs hJ hq9 hk9 hS9 => ?_)
                                  obtain ⟨hJ1, hJ2, hJ3⟩ := hJ
                                  have hW := WW_block hW hlt0 hgs hk9 hJ1 hJ2 hS9
                                  generalize H9 = H at *
                                  obtain ⟨T_29, hT_29⟩ : ∃ t9 : va_W, t9 = T_27 ++ wLedI1 G (sa + 236) := ⟨_, rfl⟩
                                  have hmT_29 : ∀ q ∈ wLedI1 G (sa + 236), q ∈ T_29 := fun q hq => by rw [hT_29]; exact List.mem_append_right _ hq
                                  have hW : WW G zs.heap ([(sa, .inr (iPC, [.ref (sa + 1), .ref (sa + 132), .ref (sa + 2), .int (1), .ref (sa + 3), .ref (sa + 4), .ref (sa + 130), .ref (sa + 131), .int (0)])), (sa + 1, aR (gC G 4) (3) (va_up (va_up (va_up (fun _ => none) 0 (some (sa + 133))) 1 (some (sa + 147))) 2 (some (sa + 161)))), (sa + 2, aR (gC G 6) (16) (va_up (va_up (va_up (va_up (va_up (va_up (va_up (fun _ => none) 0 (some (sa + 194))) 1 (some (sa + 200))) 2 (some (sa + 206))) 3 (some (sa + 212))) 4 (some (sa + 218))) 5 (some (sa + 224))) 6 (some (sa + 230)))), (sa + 3, aI (gC G 0) (3) (fun _ => 0)), (sa + 130, aI (gC G 0) (8) (fun _ => 0)), (sa + 131, aI (gC G 1) (8) (fun _ => 0)), (sa + 132, aR (gC G 5) (1) (va_up (fun _ => none) 0 (some (sa + 175))))] ++ T_29) H locs := by rw [hT_29, ← List.append_assoc]; exact hW
                                  obtain ⟨qk, hqk⟩ := List.getElem?_of_mem (show (sa + 236, _) ∈ ([(sa, .inr (iPC, [.ref (sa + 1), .ref (sa + 132), .ref (sa + 2), .int (1), .ref (sa + 3), .ref (sa + 4), .ref (sa + 130), .ref (sa + 131), .int (0)])), (sa + 1, aR (gC G 4) (3) (va_up (va_up (va_up (fun _ => none) 0 (some (sa + 133))) 1 (some (sa + 147))) 2 (some (sa + 161)))), (sa + 2, aR (gC G 6) (16) (va_up (va_up (va_up (va_up (va_up (va_up (va_up (fun _ => none) 0 (some (sa + 194))) 1 (some (sa + 200))) 2 (some (sa + 206))) 3 (some (sa + 212))) 4 (some (sa + 218))) 5 (some (sa + 224))) 6 (some (sa + 230)))), (sa + 3, aI (gC G 0) (3) (fun _ => 0)), (sa + 130, aI (gC G 0) (8) (fun _ => 0)), (sa + 131, aI (gC G 1) (8) (fun _ => 0)), (sa + 132, aR (gC G 5) (1) (va_up (fun _ => none) 0 (some (sa + 175))))] ++ T_29) from (List.mem_append_right _ (hmT_29 _ (List.mem_of_getElem? (i := 0) rfl))))
                                  refine va_astq hx hb hK hW.1 hW.2.1 hW.2.2 2 6 qk iLed (r := (R_Led, T_Led, 6)) (n := 16) (f := va_up (va_up (va_up (va_up (va_up (va_up (va_up (fun _ => none) 0 (some (sa + 194))) 1 (some (sa + 200))) 2 (some (sa + 206))) 3 (some (sa + 212))) 4 (some (sa + 218))) 5 (some (sa + 224))) 6 (some (sa + 230))) rfl rfl hqk rfl (vp_in_nI (n := 7) (by decide) (by decide)) d_PC_init_164 (fun H locs h1 h2 h3 => ?_)
                                  rw [show (7 : Int32).toNatClampNeg = 7 by decide] at h1 h2
                                  have hW : WW G zs.heap ([(sa, .inr (iPC, [.ref (sa + 1), .ref (sa + 132), .ref (sa + 2), .int (1), .ref (sa + 3), .ref (sa + 4), .ref (sa + 130), .ref (sa + 131), .int (0)])), (sa + 1, aR (gC G 4) (3) (va_up (va_up (va_up (fun _ => none) 0 (some (sa + 133))) 1 (some (sa + 147))) 2 (some (sa + 161)))), (sa + 2, aR (gC G 6) (16) (va_up (va_up (va_up (va_up (va_up (va_up (va_up (va_up (fun _ => none) 0 (some (sa + 194))) 1 (some (sa + 200))) 2 (some (sa + 206))) 3 (some (sa + 212))) 4 (some (sa + 218))) 5 (some (sa + 224))) 6 (some (sa + 230))) 7 (some (sa + 236)))), (sa + 3, aI (gC G 0) (3) (fun _ => 0)), (sa + 130, aI (gC G 0) (8) (fun _ => 0)), (sa + 131, aI (gC G 1) (8) (fun _ => 0)), (sa + 132, aR (gC G 5) (1) (va_up (fun _ => none) 0 (some (sa + 175))))] ++ T_29) H locs := ⟨h1, h2, h3⟩
                                  refine lv_iinc (v := 8) (lv' := [(3, .int (8)), (2, .int (1)), (0, .ref sa), (1, .int (f))]) hx hb d_PC_init_165 hl (k := 0) rfl (by decide) (by decide) rfl (fun ls hl => ?_)
                                  refine lv_goto (tgt := 145) hx hb d_PC_init_168 (by decide) ?_
                                  refine lv_iload_n hx hb d_PC_init_145 rfl (lv_at hl 0 rfl) ?_
                                  refine lv_bipush (v := 16) hx hb d_PC_init_146 (by decide) ?_
                                  refine lv_icmp_ge (tgt := 171) hx hb d_PC_init_148 (by decide) (fun c_30 => ?_) (fun c_30 => ?_)
                                  · exact absurd c_30 (by decide)
                                  · skip
                                    refine lv_aload_n hx hb d_PC_init_151 rfl (lv_at hl 2 rfl) ?_
                                    refine va_get (v := .ref (sa + 2)) hx hb hts i_PC hown hK hW.1 0 rfl rfl 2 (by decide) (hts _ kw_195) (fun _ h => h) rfl d_PC_init_152 ?_
                                    refine lv_iload_n hx hb d_PC_init_155 rfl (lv_at hl 0 rfl) ?_
                                    refine W_sz (fun hzu => ?_)
                                    have hzl := (va_P_mem.mp hW.1 _ (show (sa + 241, _) ∈ ([(sa, .inr (iPC, [.ref (sa + 1), .ref (sa + 132), .ref (sa + 2), .int (1), .ref (sa + 3), .ref (sa + 4), .ref (sa + 130), .ref (sa + 131), .int (0)])), (sa + 1, aR (gC G 4) (3) (va_up (va_up (va_up (fun _ => none) 0 (some (sa + 133))) 1 (some (sa + 147))) 2 (some (sa + 161)))), (sa + 2, aR (gC G 6) (16) (va_up (va_up (va_up (va_up (va_up (va_up (va_up (va_up (fun _ => none) 0 (some (sa + 194))) 1 (some (sa + 200))) 2 (some (sa + 206))) 3 (some (sa + 212))) 4 (some (sa + 218))) 5 (some (sa + 224))) 6 (some (sa + 230))) 7 (some (sa + 236)))), (sa + 3, aI (gC G 0) (3) (fun _ => 0)), (sa + 130, aI (gC G 0) (8) (fun _ => 0)), (sa + 131, aI (gC G 1) (8) (fun _ => 0)), (sa + 132, aR (gC G 5) (1) (va_up (fun _ => none) 0 (some (sa + 175))))] ++ T_29) from (List.mem_append_right _ (hmT_29 _ (List.mem_of_getElem? (i := 5) rfl))))).lt
                                    have hz : Array.size H = sa + 242 := sz_eq hzu hz0 hzl rfl rfl
                                    have hlt0 := WW_lt hW
                                    rw [hz] at hlt0
                                    refine h_new (G := G) (fs := [.int (0), .int (0), .int (0), .null, .null, .null]) hx hb hts i_Led t_Led t_Led_ok hown kw_549 kw_564 kw_156 hE hW.2.2 hbs (ci := iLed) rfl df_Led (Nat.le_of_ble_eq_true rfl) (Nat.le_of_ble_eq_true rfl) d_PC_init_156 (fun H ha9 hz9 hk9 hS9 => ?_)
                                    have hW := WW_keep hW hk9 hS9
                                    rw [hz] at ha9 hz9 ⊢
                                    refine lv_dup hx hb d_PC_init_159 rfl ?_
                                    refine lv_iload_n hx hb d_PC_init_160 rfl (lv_at hl 1 rfl) ?_
                                    obtain ⟨hP1, hD1⟩ := WW_one ha9
                                    have hgs : gbase G ≤ sa + 242 := gs_le hbs hz0 (by decide)
                                    refine h_cv (G := G) (h_runI (G := G) (G' := gB G (sa + 242)) (I := fun Hz => Hz = H) hx hb hml hown hts hE hW.2.2 hgs rfl (sz_le hz9) rfl (h_LedI1 l (gB G (sa + 242)) H (sa + 242) hz9 hP1 hD1) kw_567 kw_566 rfl kw_156 kw_565 rfl rfl hd_Led_init ⟨Nat.le_of_ble_eq_true rfl, Nat.le_of_ble_eq_true rfl⟩ (As := [.int (1)]) (rest := [.ref (sa + 242), .int (8), .ref (sa + 2)]) rfl hl.1 rfl (Nat.le_of_ble_eq_true rfl) d_PC_init_161 ⟨Nat.le_of_ble_eq_true rfl, Nat.le_of_ble_eq_true rfl⟩) hW.2.2 hgs (fun H9 locs hJ hq9 hk9 hS9 => ?_)
                                    obtain ⟨hJ1, hJ2, hJ3⟩ := hJ
                                    have hW := WW_block hW hlt0 hgs hk9 hJ1 hJ2 hS9
                                    generalize H9 = H at *
                                    obtain ⟨T_31, hT_31⟩ : ∃ t9 : va_W, t9 = T_29 ++ wLedI1 G (sa + 242) := ⟨_, rfl⟩
                                    have hmT_31 : ∀ q ∈ wLedI1 G (sa + 242), q ∈ T_31 := fun q hq => by rw [hT_31]; exact List.mem_append_right _ hq
                                    have hW : WW G zs.heap ([(sa, .inr (iPC, [.ref (sa + 1), .ref (sa + 132), .ref (sa + 2), .int (1), .ref (sa + 3), .ref (sa + 4), .ref (sa + 130), .ref (sa + 131), .int (0)])), (sa + 1, aR (gC G 4) (3) (va_up (va_up (va_up (fun _ => none) 0 (some (sa + 133))) 1 (some (sa + 147))) 2 (some (sa + 161)))), (sa + 2, aR (gC G 6) (16) (va_up (va_up (va_up (va_up (va_up (va_up (va_up (va_up (fun _ => none) 0 (some (sa + 194))) 1 (some (sa + 200))) 2 (some (sa + 206))) 3 (some (sa + 212))) 4 (some (sa + 218))) 5 (some (sa + 224))) 6 (some (sa + 230))) 7 (some (sa + 236)))), (sa + 3, aI (gC G 0) (3) (fun _ => 0)), (sa + 130, aI (gC G 0) (8) (fun _ => 0)), (sa + 131, aI (gC G 1) (8) (fun _ => 0)), (sa + 132, aR (gC G 5) (1) (va_up (fun _ => none) 0 (some (sa + 175))))] ++ T_31) H locs := by rw [hT_31, ← List.append_assoc]; exact hW
                                    obtain ⟨qk, hqk⟩ := List.getElem?_of_mem (show (sa + 242, _) ∈ ([(sa, .inr (iPC, [.ref (sa + 1), .ref (sa + 132), .ref (sa + 2), .int (1), .ref (sa + 3), .ref (sa + 4), .ref (sa + 130), .ref (sa + 131), .int (0)])), (sa + 1, aR (gC G 4) (3) (va_up (va_up (va_up (fun _ => none) 0 (some (sa + 133))) 1 (some (sa + 147))) 2 (some (sa + 161)))), (sa + 2, aR (gC G 6) (16) (va_up (va_up (va_up (va_up (va_up (va_up (va_up (va_up (fun _ => none) 0 (some (sa + 194))) 1 (some (sa + 200))) 2 (some (sa + 206))) 3 (some (sa + 212))) 4 (some (sa + 218))) 5 (some (sa + 224))) 6 (some (sa + 230))) 7 (some (sa + 236)))), (sa + 3, aI (gC G 0) (3) (fun _ => 0)), (sa + 130, aI (gC G 0) (8) (fun _ => 0)), (sa + 131, aI (gC G 1) (8) (fun _ => 0)), (sa + 132, aR (gC G 5) (1) (va_up (fun _ => none) 0 (some (sa + 175))))] ++ T_31) from (List.mem_append_right _ (hmT_31 _ (List.mem_of_getElem? (i := 0) rfl))))
                                    refine va_astq hx hb hK hW.1 hW.2.1 hW.2.2 2 6 qk iLed (r := (R_Led, T_Led, 6)) (n := 16) (f := va_up (va_up (va_up (va_up (va_up (va_up (va_up (va_up (fun _ => none) 0 (some (sa + 194))) 1 (some (sa + 200))) 2 (some (sa + 206))) 3 (some (sa + 212))) 4 (some (sa + 218))) 5 (some (sa + 224))) 6 (some (sa + 230))) 7 (some (sa + 236))) rfl rfl hqk rfl (vp_in_nI (n := 8) (by decide) (by decide)) d_PC_init_164 (fun H locs h1 h2 h3 => ?_)
                                    rw [show (8 : Int32).toNatClampNeg = 8 by decide] at h1 h2
                                    have hW : WW G zs.heap ([(sa, .inr (iPC, [.ref (sa + 1), .ref (sa + 132), .ref (sa + 2), .int (1), .ref (sa + 3), .ref (sa + 4), .ref (sa + 130), .ref (sa + 131), .int (0)])), (sa + 1, aR (gC G 4) (3) (va_up (va_up (va_up (fun _ => none) 0 (some (sa + 133))) 1 (some (sa + 147))) 2 (some (sa + 161)))), (sa + 2, aR (gC G 6) (16) (va_up (va_up (va_up (va_up (va_up (va_up (va_up (va_up (va_up (fun _ => none) 0 (some (sa + 194))) 1 (some (sa + 200))) 2 (some (sa + 206))) 3 (some (sa + 212))) 4 (some (sa + 218))) 5 (some (sa + 224))) 6 (some (sa + 230))) 7 (some (sa + 236))) 8 (some (sa + 242)))), (sa + 3, aI (gC G 0) (3) (fun _ => 0)), (sa + 130, aI (gC G 0) (8) (fun _ => 0)), (sa + 131, aI (gC G 1) (8) (fun _ => 0)), (sa + 132, aR (gC G 5) (1) (va_up (fun _ => none) 0 (some (sa + 175))))] ++ T_31) H locs := ⟨h1, h2, h3⟩
                                    refine lv_iinc (v := 9) (lv' := [(3, .int (9)), (2, .int (1)), (0, .ref sa), (1, .int (f))]) hx hb d_PC_init_165 hl (k := 0) rfl (by decide) (by decide) rfl (fun ls hl => ?_)
                                    refine lv_goto (tgt := 145) hx hb d_PC_init_168 (by decide) ?_
                                    refine lv_iload_n hx hb d_PC_init_145 rfl (lv_at hl 0 rfl) ?_
                                    refine lv_bipush (v := 16) hx hb d_PC_init_146 (by decide) ?_
                                    refine lv_icmp_ge (tgt := 171) hx hb d_PC_init_148 (by decide) (fun c_32 => ?_) (fun c_32 => ?_)
                                    · exact absurd c_32 (by decide)
                                    · skip
                                      refine lv_aload_n hx hb d_PC_init_151 rfl (lv_at hl 2 rfl) ?_
                                      refine va_get (v := .ref (sa + 2)) hx hb hts i_PC hown hK hW.1 0 rfl rfl 2 (by decide) (hts _ kw_195) (fun _ h => h) rfl d_PC_init_152 ?_
                                      refine lv_iload_n hx hb d_PC_init_155 rfl (lv_at hl 0 rfl) ?_
                                      refine W_sz (fun hzu => ?_)
                                      have hzl := (va_P_mem.mp hW.1 _ (show (sa + 247, _) ∈ ([(sa, .inr (iPC, [.ref (sa + 1), .ref (sa + 132), .ref (sa + 2), .int (1), .ref (sa + 3), .ref (sa + 4), .ref (sa + 130), .ref (sa + 131), .int (0)])), (sa + 1, aR (gC G 4) (3) (va_up (va_up (va_up (fun _ => none) 0 (some (sa + 133))) 1 (some (sa + 147))) 2 (some (sa + 161)))), (sa + 2, aR (gC G 6) (16) (va_up (va_up (va_up (va_up (va_up (va_up (va_up (va_up (va_up (fun _ => none) 0 (some (sa + 194))) 1 (some (sa + 200))) 2 (some (sa + 206))) 3 (some (sa + 212))) 4 (some (sa + 218))) 5 (some (sa + 224))) 6 (some (sa + 230))) 7 (some (sa + 236))) 8 (some (sa + 242)))), (sa + 3, aI (gC G 0) (3) (fun _ => 0)), (sa + 130, aI (gC G 0) (8) (fun _ => 0)), (sa + 131, aI (gC G 1) (8) (fun _ => 0)), (sa + 132, aR (gC G 5) (1) (va_up (fun _ => none) 0 (some (sa + 175))))] ++ T_31) from (List.mem_append_right _ (hmT_31 _ (List.mem_of_getElem? (i := 5) rfl))))).lt
                                      have hz : Array.size H = sa + 248 := sz_eq hzu hz0 hzl rfl rfl
                                      have hlt0 := WW_lt hW
                                      rw [hz] at hlt0
                                      refine h_new (G := G) (fs := [.int (0), .int (0), .int (0), .null, .null, .null]) hx hb hts i_Led t_Led t_Led_ok hown kw_549 kw_564 kw_156 hE hW.2.2 hbs (ci := iLed) rfl df_Led (Nat.le_of_ble_eq_true rfl) (Nat.le_of_ble_eq_true rfl) d_PC_init_156 (fun H ha9 hz9 hk9 hS9 => ?_)
                                      have hW := WW_keep hW hk9 hS9
                                      rw [hz] at ha9 hz9 ⊢
                                      refine lv_dup hx hb d_PC_init_159 rfl ?_
                                      refine lv_iload_n hx hb d_PC_init_160 rfl (lv_at hl 1 rfl) ?_
                                      obtain ⟨hP1, hD1⟩ := WW_one ha9
                                      have hgs : gbase G ≤ sa + 248 := gs_le hbs hz0 (by decide)
                                      refine h_cv (G := G) (h_runI (G := G) (G' := gB G (sa + 248)) (I := fun Hz => Hz = H) hx hb hml hown hts hE hW.2.2 hgs rfl (sz_le hz9) rfl (h_LedI1 l (gB G (sa + 248)) H (sa + 248) hz9 hP1 hD1) kw_567 kw_566 rfl kw_156 kw_565 rfl rfl hd_Led_init ⟨Nat.le_of_ble_eq_true rfl, Nat.le_of_ble_eq_true rfl⟩ (As := [.int (1)]) (rest := [.ref (sa + 248), .int (9), .ref (sa + 2)]) rfl hl.1 rfl (Nat.le_of_ble_eq_true rfl) d_PC_init_161 ⟨Nat.le_of_ble_eq_true rfl, Nat.le_of_ble_eq_true rfl⟩) hW.2.2 hgs (fun H9 locs hJ hq9 hk9 hS9 => ?_)
                                      obtain ⟨hJ1, hJ2, hJ3⟩ := hJ
                                      have hW := WW_block hW hlt0 hgs hk9 hJ1 hJ2 hS9
                                      generalize H9 = H at *
                                      obtain ⟨T_33, hT_33⟩ : ∃ t9 : va_W, t9 = T_31 ++ wLedI1 G (sa + 248) := ⟨_, rfl⟩
                                      have hmT_33 : ∀ q ∈ wLedI1 G (sa + 248), q ∈ T_33 := fun q hq => by rw [hT_33]; exact List.mem_append_right _ hq
                                      have hW : WW G zs.heap ([(sa, .inr (iPC, [.ref (sa + 1), .ref (sa + 132), .ref (sa + 2), .int (1), .ref (sa + 3), .ref (sa + 4), .ref (sa + 130), .ref (sa + 131), .int (0)])), (sa + 1, aR (gC G 4) (3) (va_up (va_up (va_up (fun _ => none) 0 (some (sa + 133))) 1 (some (sa + 147))) 2 (some (sa + 161)))), (sa + 2, aR (gC G 6) (16) (va_up (va_up (va_up (va_up (va_up (va_up (va_up (va_up (va_up (fun _ => none) 0 (some (sa + 194))) 1 (some (sa + 200))) 2 (some (sa + 206))) 3 (some (sa + 212))) 4 (some (sa + 218))) 5 (some (sa + 224))) 6 (some (sa + 230))) 7 (some (sa + 236))) 8 (some (sa + 242)))), (sa + 3, aI (gC G 0) (3) (fun _ => 0)), (sa + 130, aI (gC G 0) (8) (fun _ => 0)), (sa + 131, aI (gC G 1) (8) (fun _ => 0)), (sa + 132, aR (gC G 5) (1) (va_up (fun _ => none) 0 (some (sa + 175))))] ++ T_33) H locs := by rw [hT_33, ← List.append_assoc]; exact hW
                                      obtain ⟨qk, hqk⟩ := List.getElem?_of_mem (show (sa + 248, _) ∈ ([(sa, .inr (iPC, [.ref (sa + 1), .ref (sa + 132), .ref (sa + 2), .int (1), .ref (sa + 3), .ref (sa + 4), .ref (sa + 130), .ref (sa + 131), .int (0)])), (sa + 1, aR (gC G 4) (3) (va_up (va_up (va_up (fun _ => none) 0 (some (sa + 133))) 1 (some (sa + 147))) 2 (some (sa + 161)))), (sa + 2, aR (gC G 6) (16) (va_up (va_up (va_up (va_up (va_up (va_up (va_up (va_up (va_up (fun _ => none) 0 (some (sa + 194))) 1 (some (sa + 200))) 2 (some (sa + 206))) 3 (some (sa + 212))) 4 (some (sa + 218))) 5 (some (sa + 224))) 6 (some (sa + 230))) 7 (some (sa + 236))) 8 (some (sa + 242)))), (sa + 3, aI (gC G 0) (3) (fun _ => 0)), (sa + 130, aI (gC G 0) (8) (fun _ => 0)), (sa + 131, aI (gC G 1) (8) (fun _ => 0)), (sa + 132, aR (gC G 5) (1) (va_up (fun _ => none) 0 (some (sa + 175))))] ++ T_33) from (List.mem_append_right _ (hmT_33 _ (List.mem_of_getElem? (i := 0) rfl))))
                                      refine va_astq hx hb hK hW.1 hW.2.1 hW.2.2 2 6 qk iLed (r := (R_Led, T_Led, 6)) (n := 16) (f := va_up (va_up (va_up (va_up (va_up (va_up (va_up (va_up (va_up (fun _ => none) 0 (some (sa + 194))) 1 (some (sa + 200))) 2 (some (sa + 206))) 3 (some (sa + 212))) 4 (some (sa + 218))) 5 (some (sa + 224))) 6 (some (sa + 230))) 7 (some (sa + 236))) 8 (some (sa + 242))) rfl rfl hqk rfl (vp_in_nI (n := 9) (by decide) (by decide)) d_PC_init_164 (fun H locs h1 h2 h3 => ?_)
                                      rw [show (9 : Int32).toNatClampNeg = 9 by decide] at h1 h2
                                      have hW : WW G zs.heap ([(sa, .inr (iPC, [.ref (sa + 1), .ref (sa + 132), .ref (sa + 2), .int (1), .ref (sa + 3), .ref (sa + 4), .ref (sa + 130), .ref (sa + 131), .int (0)])), (sa + 1, aR (gC G 4) (3) (va_up (va_up (va_up (fun _ => none) 0 (some (sa + 133))) 1 (some (sa + 147))) 2 (some (sa + 161)))), (sa + 2, aR (gC G 6) (16) (va_up (va_up (va_up (va_up (va_up (va_up (va_up (va_up (va_up (va_up (fun _ => none) 0 (some (sa + 194))) 1 (some (sa + 200))) 2 (some (sa + 206))) 3 (some (sa + 212))) 4 (some (sa + 218))) 5 (some (sa + 224))) 6 (some (sa + 230))) 7 (some (sa + 236))) 8 (some (sa + 242))) 9 (some (sa + 248)))), (sa + 3, aI (gC G 0) (3) (fun _ => 0)), (sa + 130, aI (gC G 0) (8) (fun _ => 0)), (sa + 131, aI (gC G 1) (8) (fun _ => 0)), (sa + 132, aR (gC G 5) (1) (va_up (fun _ => none) 0 (some (sa + 175))))] ++ T_33) H locs := ⟨h1, h2, h3⟩
                                      refine lv_iinc (v := 10) (lv' := [(3, .int (10)), (2, .int (1)), (0, .ref sa), (1, .int (f))]) hx hb d_PC_init_165 hl (k := 0) rfl (by decide) (by decide) rfl (fun ls hl => ?_)
                                      refine lv_goto (tgt := 145) hx hb d_PC_init_168 (by decide) ?_
                                      refine lv_iload_n hx hb d_PC_init_145 rfl (lv_at hl 0 rfl) ?_
                                      refine lv_bipush (v := 16) hx hb d_PC_init_146 (by decide) ?_
                                      refine lv_icmp_ge (tgt := 171) hx hb d_PC_init_148 (by decide) (fun c_34 => ?_) (fun c_34 => ?_)
                                      · exact absurd c_34 (by decide)
                                      · skip
                                        refine lv_aload_n hx hb d_PC_init_151 rfl (lv_at hl 2 rfl) ?_
                                        refine va_get (v := .ref (sa + 2)) hx hb hts i_PC hown hK hW.1 0 rfl rfl 2 (by decide) (hts _ kw_195) (fun _ h => h) rfl d_PC_init_152 ?_
                                        refine lv_iload_n hx hb d_PC_init_155 rfl (lv_at hl 0 rfl) ?_
                                        refine W_sz (fun hzu => ?_)
                                        have hzl := (va_P_mem.mp hW.1 _ (show (sa + 253, _) ∈ ([(sa, .inr (iPC, [.ref (sa + 1), .ref (sa + 132), .ref (sa + 2), .int (1), .ref (sa + 3), .ref (sa + 4), .ref (sa + 130), .ref (sa + 131), .int (0)])), (sa + 1, aR (gC G 4) (3) (va_up (va_up (va_up (fun _ => none) 0 (some (sa + 133))) 1 (some (sa + 147))) 2 (some (sa + 161)))), (sa + 2, aR (gC G 6) (16) (va_up (va_up (va_up (va_up (va_up (va_up (va_up (va_up (va_up (va_up (fun _ => none) 0 (some (sa + 194))) 1 (some (sa + 200))) 2 (some (sa + 206))) 3 (some (sa + 212))) 4 (some (sa + 218))) 5 (some (sa + 224))) 6 (some (sa + 230))) 7 (some (sa + 236))) 8 (some (sa + 242))) 9 (some (sa + 248)))), (sa + 3, aI (gC G 0) (3) (fun _ => 0)), (sa + 130, aI (gC G 0) (8) (fun _ => 0)), (sa + 131, aI (gC G 1) (8) (fun _ => 0)), (sa + 132, aR (gC G 5) (1) (va_up (fun _ => none) 0 (some (sa + 175))))] ++ T_33) from (List.mem_append_right _ (hmT_33 _ (List.mem_of_getElem? (i := 5) rfl))))).lt
                                        have hz : Array.size H = sa + 254 := sz_eq hzu hz0 hzl rfl rfl
                                        have hlt0 := WW_lt hW
                                        rw [hz] at hlt0
                                        refine h_new (G := G) (fs := [.int (0), .int (0), .int (0), .null, .null, .null]) hx hb hts i_Led t_Led t_Led_ok hown kw_549 kw_564 kw_156 hE hW.2.2 hbs (ci := iLed) rfl df_Led (Nat.le_of_ble_eq_true rfl) (Nat.le_of_ble_eq_true rfl) d_PC_init_156 (fun H ha9 hz9 hk9 hS9 => ?_)
                                        have hW := WW_keep hW hk9 hS9
                                        rw [hz] at ha9 hz9 ⊢
                                        refine lv_dup hx hb d_PC_init_159 rfl ?_
                                        refine lv_iload_n hx hb d_PC_init_160 rfl (lv_at hl 1 rfl) ?_
                                        obtain ⟨hP1, hD1⟩ := WW_one ha9
                                        have hgs : gbase G ≤ sa + 254 := gs_le hbs hz0 (by decide)
                                        refine h_cv (G := G) (h_runI (G := G) (G' := gB G (sa + 254)) (I := fun Hz => Hz = H) hx hb hml hown hts hE hW.2.2 hgs rfl (sz_le hz9) rfl (h_LedI1 l (gB G (sa + 254)) H (sa + 254) hz9 hP1 hD1) kw_567 kw_566 rfl kw_156 kw_565 rfl rfl hd_Led_init ⟨Nat.le_of_ble_eq_true rfl, Nat.le_of_ble_eq_true rfl⟩ (As := [.int (1)]) (rest := [.ref (sa + 254), .int (10), .ref (sa + 2)]) rfl hl.1 rfl (Nat.le_of_ble_eq_true rfl) d_PC_init_161 ⟨Nat.le_of_ble_eq_true rfl, Nat.le_of_ble_eq_true rfl⟩) hW.2.2 hgs (fun H9 locs hJ hq9 hk9 hS9 => ?_)
                                        obtain ⟨hJ1, hJ2, hJ3⟩ := hJ
                                        have hW := WW_block hW hlt0 hgs hk9 hJ1 hJ2 hS9
                                        generalize H9 = H at *
                                        obtain ⟨T_35, hT_35⟩ : ∃ t9 : va_W, t9 = T_33 ++ wLedI1 G (sa + 254) := ⟨_, rfl⟩
                                        have hmT_35 : ∀ q ∈ wLedI1 G (sa + 254), q ∈ T_35 := fun q hq => by rw [hT_35]; exact List.mem_append_right _ hq
                                        have hW : WW G zs.heap ([(sa, .inr (iPC, [.ref (sa + 1), .ref (sa + 132), .ref (sa + 2), .int (1), .ref (sa + 3), .ref (sa + 4), .ref (sa + 130), .ref (sa + 131), .int (0)])), (sa + 1, aR (gC G 4) (3) (va_up (va_up (va_up (fun _ => none) 0 (some (sa + 133))) 1 (some (sa + 147))) 2 (some (sa + 161)))), (sa + 2, aR (gC G 6) (16) (va_up (va_up (va_up (va_up (va_up (va_up (va_up (va_up (va_up (va_up (fun _ => none) 0 (some (sa + 194))) 1 (some (sa + 200))) 2 (some (sa + 206))) 3 (some (sa + 212))) 4 (some (sa + 218))) 5 (some (sa + 224))) 6 (some (sa + 230))) 7 (some (sa + 236))) 8 (some (sa + 242))) 9 (some (sa + 248)))), (sa + 3, aI (gC G 0) (3) (fun _ => 0)), (sa + 130, aI (gC G 0) (8) (fun _ => 0)), (sa + 131, aI (gC G 1) (8) (fun _ => 0)), (sa + 132, aR (gC G 5) (1) (va_up (fun _ => none) 0 (some (sa + 175))))] ++ T_35) H locs := by rw [hT_35, ← List.append_assoc]; exact hW
                                        obtain ⟨qk, hqk⟩ := List.getElem?_of_mem (show (sa + 254, _) ∈ ([(sa, .inr (iPC, [.ref (sa + 1), .ref (sa + 132), .ref (sa + 2), .int (1), .ref (sa + 3), .ref (sa + 4), .ref (sa + 130), .ref (sa + 131), .int (0)])), (sa + 1, aR (gC G 4) (3) (va_up (va_up (va_up (fun _ => none) 0 (some (sa + 133))) 1 (some (sa + 147))) 2 (some (sa + 161)))), (sa + 2, aR (gC G 6) (16) (va_up (va_up (va_up (va_up (va_up (va_up (va_up (va_up (va_up (va_up (fun _ => none) 0 (some (sa + 194))) 1 (some (sa + 200))) 2 (some (sa + 206))) 3 (some (sa + 212))) 4 (some (sa + 218))) 5 (some (sa + 224))) 6 (some (sa + 230))) 7 (some (sa + 236))) 8 (some (sa + 242))) 9 (some (sa + 248)))), (sa + 3, aI (gC G 0) (3) (fun _ => 0)), (sa + 130, aI (gC G 0) (8) (fun _ => 0)), (sa + 131, aI (gC G 1) (8) (fun _ => 0)), (sa + 132, aR (gC G 5) (1) (va_up (fun _ => none) 0 (some (sa + 175))))] ++ T_35) from (List.mem_append_right _ (hmT_35 _ (List.mem_of_getElem? (i := 0) rfl))))
                                        refine va_astq hx hb hK hW.1 hW.2.1 hW.2.2 2 6 qk iLed (r := (R_Led, T_Led, 6)) (n := 16) (f := va_up (va_up (va_up (va_up (va_up (va_up (va_up (va_up (va_up (va_up (fun _ => none) 0 (some (sa + 194))) 1 (some (sa + 200))) 2 (some (sa + 206))) 3 (some (sa + 212))) 4 (some (sa + 218))) 5 (some (sa + 224))) 6 (some (sa + 230))) 7 (some (sa + 236))) 8 (some (sa + 242))) 9 (some (sa + 248))) rfl rfl hqk rfl (vp_in_nI (n := 10) (by decide) (by decide)) d_PC_init_164 (fun H locs h1 h2 h3 => ?_)
                                        rw [show (10 : Int32).toNatClampNeg = 10 by decide] at h1 h2
                                        have hW : WW G zs.heap ([(sa, .inr (iPC, [.ref (sa + 1), .ref (sa + 132), .ref (sa + 2), .int (1), .ref (sa + 3), .ref (sa + 4), .ref (sa + 130), .ref (sa + 131), .int (0)])), (sa + 1, aR (gC G 4) (3) (va_up (va_up (va_up (fun _ => none) 0 (some (sa + 133))) 1 (some (sa + 147))) 2 (some (sa + 161)))), (sa + 2, aR (gC G 6) (16) (va_up (va_up (va_up (va_up (va_up (va_up (va_up (va_up (va_up (va_up (va_up (fun _ => none) 0 (some (sa + 194))) 1 (some (sa + 200))) 2 (some (sa + 206))) 3 (some (sa + 212))) 4 (some (sa + 218))) 5 (some (sa + 224))) 6 (some (sa + 230))) 7 (some (sa + 236))) 8 (some (sa + 242))) 9 (some (sa + 248))) 10 (some (sa + 254)))), (sa + 3, aI (gC G 0) (3) (fun _ => 0)), (sa + 130, aI (gC G 0) (8) (fun _ => 0)), (sa + 131, aI (gC G 1) (8) (fun _ => 0)), (sa + 132, aR (gC G 5) (1) (va_up (fun _ => none) 0 (some (sa + 175))))] ++ T_35) H locs := ⟨h1, h2, h3⟩
                                        refine lv_iinc (v := 11) (lv' := [(3, .int (11)), (2, .int (1)), (0, .ref sa), (1, .int (f))]) hx hb d_PC_init_165 hl (k := 0) rfl (by decide) (by decide) rfl (fun ls hl => ?_)
                                        refine lv_goto (tgt := 145) hx hb d_PC_init_168 (by decide) ?_
                                        refine lv_iload_n hx hb d_PC_init_145 rfl (lv_at hl 0 rfl) ?_
                                        refine lv_bipush (v := 16) hx hb d_PC_init_146 (by decide) ?_
                                        refine lv_icmp_ge (tgt := 171) hx hb d_PC_init_148 (by decide) (fun c_36 => ?_) (fun c_36 => ?_)
                                        · exact absurd c_36 (by decide)
                                        · skip
                                          refine lv_aload_n hx hb d_PC_init_151 rfl (lv_at hl 2 rfl) ?_
                                          refine va_get (v := .ref (sa + 2)) hx hb hts i_PC hown hK hW.1 0 rfl rfl 2 (by decide) (hts _ kw_195) (fun _ h => h) rfl d_PC_init_152 ?_
                                          refine lv_iload_n hx hb d_PC_init_155 rfl (lv_at hl 0 rfl) ?_
                                          refine W_sz (fun hzu => ?_)
                                          have hzl := (va_P_mem.mp hW.1 _ (show (sa + 259, _) ∈ ([(sa, .inr (iPC, [.ref (sa + 1), .ref (sa + 132), .ref (sa + 2), .int (1), .ref (sa + 3), .ref (sa + 4), .ref (sa + 130), .ref (sa + 131), .int (0)])), (sa + 1, aR (gC G 4) (3) (va_up (va_up (va_up (fun _ => none) 0 (some (sa + 133))) 1 (some (sa + 147))) 2 (some (sa + 161)))), (sa + 2, aR (gC G 6) (16) (va_up (va_up (va_up (va_up (va_up (va_up (va_up (va_up (va_up (va_up (va_up (fun _ => none) 0 (some (sa + 194))) 1 (some (sa + 200))) 2 (some (sa + 206))) 3 (some (sa + 212))) 4 (some (sa + 218))) 5 (some (sa + 224))) 6 (some (sa + 230))) 7 (some (sa + 236))) 8 (some (sa + 242))) 9 (some (sa + 248))) 10 (some (sa + 254)))), (sa + 3, aI (gC G 0) (3) (fun _ => 0)), (sa + 130, aI (gC G 0) (8) (fun _ => 0)), (sa + 131, aI (gC G 1) (8) (fun _ => 0)), (sa + 132, aR (gC G 5) (1) (va_up (fun _ => none) 0 (some (sa + 175))))] ++ T_35) from (List.mem_append_right _ (hmT_35 _ (List.mem_of_getElem? (i := 5) rfl))))).lt
                                          have hz : Array.size H = sa + 260 := sz_eq hzu hz0 hzl rfl rfl
                                          have hlt0 := WW_lt hW
                                          rw [hz] at hlt0
                                          refine h_new (G := G) (fs := [.int (0), .int (0), .int (0), .null, .null, .null]) hx hb hts i_Led t_Led t_Led_ok hown kw_549 kw_564 kw_156 hE hW.2.2 hbs (ci := iLed) rfl df_Led (Nat.le_of_ble_eq_true rfl) (Nat.le_of_ble_eq_true rfl) d_PC_init_156 (fun H ha9 hz9 hk9 hS9 => ?_)
                                          have hW := WW_keep hW hk9 hS9
                                          rw [hz] at ha9 hz9 ⊢
                                          refine lv_dup hx hb d_PC_init_159 rfl ?_
                                          refine lv_iload_n hx hb d_PC_init_160 rfl (lv_at hl 1 rfl) ?_
                                          obtain ⟨hP1, hD1⟩ := WW_one ha9
                                          have hgs : gbase G ≤ sa + 260 := gs_le hbs hz0 (by decide)
                                          refine h_cv (G := G) (h_runI (G := G) (G' := gB G (sa + 260)) (I := fun Hz => Hz = H) hx hb hml hown hts hE hW.2.2 hgs rfl (sz_le hz9) rfl (h_LedI1 l (gB G (sa + 260)) H (sa + 260) hz9 hP1 hD1) kw_567 kw_566 rfl kw_156 kw_565 rfl rfl hd_Led_init ⟨Nat.le_of_ble_eq_true rfl, Nat.le_of_ble_eq_true rfl⟩ (As := [.int (1)]) (rest := [.ref (sa + 260), .int (11), .ref (sa + 2)]) rfl hl.1 rfl (Nat.le_of_ble_eq_true rfl) d_PC_init_161 ⟨Nat.le_of_ble_eq_true rfl, Nat.le_of_ble_eq_true rfl⟩) hW.2.2 hgs (fun H9 locs hJ hq9 hk9 hS9 => ?_)
                                          obtain ⟨hJ1, hJ2, hJ3⟩ := hJ
                                          have hW := WW_block hW hlt0 hgs hk9 hJ1 hJ2 hS9
                                          generalize H9 = H at *
                                          obtain ⟨T_37, hT_37⟩ : ∃ t9 : va_W, t9 = T_35 ++ wLedI1 G (sa + 260) := ⟨_, rfl⟩
                                          have hmT_37 : ∀ q ∈ wLedI1 G (sa + 260), q ∈ T_37 := fun q hq => by rw [hT_37]; exact List.mem_append_right _ hq
                                          have hW : WW G zs.heap ([(sa, .inr (iPC, [.ref (sa + 1), .ref (sa + 132), .ref (sa + 2), .int (1), .ref (sa + 3), .ref (sa + 4), .ref (sa + 130), .ref (sa + 131), .int (0)])), (sa + 1, aR (gC G 4) (3) (va_up (va_up (va_up (fun _ => none) 0 (some (sa + 133))) 1 (some (sa + 147))) 2 (some (sa + 161)))), (sa + 2, aR (gC G 6) (16) (va_up (va_up (va_up (va_up (va_up (va_up (va_up (va_up (va_up (va_up (va_up (fun _ => none) 0 (some (sa + 194))) 1 (some (sa + 200))) 2 (some (sa + 206))) 3 (some (sa + 212))) 4 (some (sa + 218))) 5 (some (sa + 224))) 6 (some (sa + 230))) 7 (some (sa + 236))) 8 (some (sa + 242))) 9 (some (sa + 248))) 10 (some (sa + 254)))), (sa + 3, aI (gC G 0) (3) (fun _ => 0)), (sa + 130, aI (gC G 0) (8) (fun _ => 0)), (sa + 131, aI (gC G 1) (8) (fun _ => 0)), (sa + 132, aR (gC G 5) (1) (va_up (fun _ => none) 0 (some (sa + 175))))] ++ T_37) H locs := by rw [hT_37, ← List.append_assoc]; exact hW
                                          obtain ⟨qk, hqk⟩ := List.getElem?_of_mem (show (sa + 260, _) ∈ ([(sa, .inr (iPC, [.ref (sa + 1), .ref (sa + 132), .ref (sa + 2), .int (1), .ref (sa + 3), .ref (sa + 4), .ref (sa + 130), .ref (sa + 131), .int (0)])), (sa + 1, aR (gC G 4) (3) (va_up (va_up (va_up (fun _ => none) 0 (some (sa + 133))) 1 (some (sa + 147))) 2 (some (sa + 161)))), (sa + 2, aR (gC G 6) (16) (va_up (va_up (va_up (va_up (va_up (va_up (va_up (va_up (va_up (va_up (va_up (fun _ => none) 0 (some (sa + 194))) 1 (some (sa + 200))) 2 (some (sa + 206))) 3 (some (sa + 212))) 4 (some (sa + 218))) 5 (some (sa + 224))) 6 (some (sa + 230))) 7 (some (sa + 236))) 8 (some (sa + 242))) 9 (some (sa + 248))) 10 (some (sa + 254)))), (sa + 3, aI (gC G 0) (3) (fun _ => 0)), (sa + 130, aI (gC G 0) (8) (fun _ => 0)), (sa + 131, aI (gC G 1) (8) (fun _ => 0)), (sa + 132, aR (gC G 5) (1) (va_up (fun _ => none) 0 (some (sa + 175))))] ++ T_37) from (List.mem_append_right _ (hmT_37 _ (List.mem_of_getElem? (i := 0) rfl))))
                                          refine va_astq hx hb hK hW.1 hW.2.1 hW.2.2 2 6 qk iLed (r := (R_Led, T_Led, 6)) (n := 16) (f := va_up (va_up (va_up (va_up (va_up (va_up (va_up (va_up (va_up (va_up (va_up (fun _ => none) 0 (some (sa + 194))) 1 (some (sa + 200))) 2 (some (sa + 206))) 3 (some (sa + 212))) 4 (some (sa + 218))) 5 (some (sa + 224))) 6 (some (sa + 230))) 7 (some (sa + 236))) 8 (some (sa + 242))) 9 (some (sa + 248))) 10 (some (sa + 254))) rfl rfl hqk rfl (vp_in_nI (n := 11) (by decide) (by decide)) d_PC_init_164 (fun H locs h1 h2 h3 => ?_)
                                          rw [show (11 : Int32).toNatClampNeg = 11 by decide] at h1 h2
                                          have hW : WW G zs.heap ([(sa, .inr (iPC, [.ref (sa + 1), .ref (sa + 132), .ref (sa + 2), .int (1), .ref (sa + 3), .ref (sa + 4), .ref (sa + 130), .ref (sa + 131), .int (0)])), (sa + 1, aR (gC G 4) (3) (va_up (va_up (va_up (fun _ => none) 0 (some (sa + 133))) 1 (some (sa + 147))) 2 (some (sa + 161)))), (sa + 2, aR (gC G 6) (16) (va_up (va_up (va_up (va_up (va_up (va_up (va_up (va_up (va_up (va_up (va_up (va_up (fun _ => none) 0 (some (sa + 194))) 1 (some (sa + 200))) 2 (some (sa + 206))) 3 (some (sa + 212))) 4 (some (sa + 218))) 5 (some (sa + 224))) 6 (some (sa + 230))) 7 (some (sa + 236))) 8 (some (sa + 242))) 9 (some (sa + 248))) 10 (some (sa + 254))) 11 (some (sa + 260)))), (sa + 3, aI (gC G 0) (3) (fun _ => 0)), (sa + 130, aI (gC G 0) (8) (fun _ => 0)), (sa + 131, aI (gC G 1) (8) (fun _ => 0)), (sa + 132, aR (gC G 5) (1) (va_up (fun _ => none) 0 (some (sa + 175))))] ++ T_37) H locs := ⟨h1, h2, h3⟩
                                          refine lv_iinc (v := 12) (lv' := [(3, .int (12)), (2, .int (1)), (0, .ref sa), (1, .int (f))]) hx hb d_PC_init_165 hl (k := 0) rfl (by decide) (by decide) rfl (fun ls hl => ?_)
                                          refine lv_goto (tgt := 145) hx hb d_PC_init_168 (by decide) ?_
                                          refine lv_iload_n hx hb d_PC_init_145 rfl (lv_at hl 0 rfl) ?_
                                          refine lv_bipush (v := 16) hx hb d_PC_init_146 (by decide) ?_
                                          refine lv_icmp_ge (tgt := 171) hx hb d_PC_init_148 (by decide) (fun c_38 => ?_) (fun c_38 => ?_)
                                          · exact absurd c_38 (by decide)
                                          · skip
                                            refine lv_aload_n hx hb d_PC_init_151 rfl (lv_at hl 2 rfl) ?_
                                            refine va_get (v := .ref (sa + 2)) hx hb hts i_PC hown hK hW.1 0 rfl rfl 2 (by decide) (hts _ kw_195) (fun _ h => h) rfl d_PC_init_152 ?_
                                            refine lv_iload_n hx hb d_PC_init_155 rfl (lv_at hl 0 rfl) ?_
                                            refine W_sz (fun hzu => ?_)
                                            have hzl := (va_P_mem.mp hW.1 _ (show (sa + 265, _) ∈ ([(sa, .inr (iPC, [.ref (sa + 1), .ref (sa + 132), .ref (sa + 2), .int (1), .ref (sa + 3), .ref (sa + 4), .ref (sa + 130), .ref (sa + 131), .int (0)])), (sa + 1, aR (gC G 4) (3) (va_up (va_up (va_up (fun _ => none) 0 (some (sa + 133))) 1 (some (sa + 147))) 2 (some (sa + 161)))), (sa + 2, aR (gC G 6) (16) (va_up (va_up (va_up (va_up (va_up (va_up (va_up (va_up (va_up (va_up (va_up (va_up (fun _ => none) 0 (some (sa + 194))) 1 (some (sa + 200))) 2 (some (sa + 206))) 3 (some (sa + 212))) 4 (some (sa + 218))) 5 (some (sa + 224))) 6 (some (sa + 230))) 7 (some (sa + 236))) 8 (some (sa + 242))) 9 (some (sa + 248))) 10 (some (sa + 254))) 11 (some (sa + 260)))), (sa + 3, aI (gC G 0) (3) (fun _ => 0)), (sa + 130, aI (gC G 0) (8) (fun _ => 0)), (sa + 131, aI (gC G 1) (8) (fun _ => 0)), (sa + 132, aR (gC G 5) (1) (va_up (fun _ => none) 0 (some (sa + 175))))] ++ T_37) from (List.mem_append_right _ (hmT_37 _ (List.mem_of_getElem? (i := 5) rfl))))).lt
                                            have hz : Array.size H = sa + 266 := sz_eq hzu hz0 hzl rfl rfl
                                            have hlt0 := WW_lt hW
                                            rw [hz] at hlt0
                                            refine h_new (G := G) (fs := [.int (0), .int (0), .int (0), .null, .null, .null]) hx hb hts i_Led t_Led t_Led_ok hown kw_549 kw_564 kw_156 hE hW.2.2 hbs (ci := iLed) rfl df_Led (Nat.le_of_ble_eq_true rfl) (Nat.le_of_ble_eq_true rfl) d_PC_init_156 (fun H ha9 hz9 hk9 hS9 => ?_)
                                            have hW := WW_keep hW hk9 hS9
                                            rw [hz] at ha9 hz9 ⊢
                                            refine lv_dup hx hb d_PC_init_159 rfl ?_
                                            refine lv_iload_n hx hb d_PC_init_160 rfl (lv_at hl 1 rfl) ?_
                                            obtain ⟨hP1, hD1⟩ := WW_one ha9
                                            have hgs : gbase G ≤ sa + 266 := gs_le hbs hz0 (by decide)
                                            refine h_cv (G := G) (h_runI (G := G) (G' := gB G (sa + 266)) (I := fun Hz => Hz = H) hx hb hml hown hts hE hW.2.2 hgs rfl (sz_le hz9) rfl (h_LedI1 l (gB G (sa + 266)) H (sa + 266) hz9 hP1 hD1) kw_567 kw_566 rfl kw_156 kw_565 rfl rfl hd_Led_init ⟨Nat.le_of_ble_eq_true rfl, Nat.le_of_ble_eq_true rfl⟩ (As := [.int (1)]) (rest := [.ref (sa + 266), .int (12), .ref (sa + 2)]) rfl hl.1 rfl (Nat.le_of_ble_eq_true rfl) d_PC_init_161 ⟨Nat.le_of_ble_eq_true rfl, Nat.le_of_ble_eq_true rfl⟩) hW.2.2 hgs (fun H9 locs hJ hq9 hk9 hS9 => ?_)
                                            obtain ⟨hJ1, hJ2, hJ3⟩ := hJ
                                            have hW := WW_block hW hlt0 hgs hk9 hJ1 hJ2 hS9
                                            generalize H9 = H at *
                                            obtain ⟨T_39, hT_39⟩ : ∃ t9 : va_W, t9 = T_37 ++ wLedI1 G (sa + 266) := ⟨_, rfl⟩
                                            have hmT_39 : ∀ q ∈ wLedI1 G (sa + 266), q ∈ T_39 := fun q hq => by rw [hT_39]; exact List.mem_append_right _ hq
                                            have hW : WW G zs.heap ([(sa, .inr (iPC, [.ref (sa + 1), .ref (sa + 132), .ref (sa + 2), .int (1), .ref (sa + 3), .ref (sa + 4), .ref (sa + 130), .ref (sa + 131), .int (0)])), (sa + 1, aR (gC G 4) (3) (va_up (va_up (va_up (fun _ => none) 0 (some (sa + 133))) 1 (some (sa + 147))) 2 (some (sa + 161)))), (sa + 2, aR (gC G 6) (16) (va_up (va_up (va_up (va_up (va_up (va_up (va_up (va_up (va_up (va_up (va_up (va_up (fun _ => none) 0 (some (sa + 194))) 1 (some (sa + 200))) 2 (some (sa + 206))) 3 (some (sa + 212))) 4 (some (sa + 218))) 5 (some (sa + 224))) 6 (some (sa + 230))) 7 (some (sa + 236))) 8 (some (sa + 242))) 9 (some (sa + 248))) 10 (some (sa + 254))) 11 (some (sa + 260)))), (sa + 3, aI (gC G 0) (3) (fun _ => 0)), (sa + 130, aI (gC G 0) (8) (fun _ => 0)), (sa + 131, aI (gC G 1) (8) (fun _ => 0)), (sa + 132, aR (gC G 5) (1) (va_up (fun _ => none) 0 (some (sa + 175))))] ++ T_39) H locs := by rw [hT_39, ← List.append_assoc]; exact hW
                                            obtain ⟨qk, hqk⟩ := List.getElem?_of_mem (show (sa + 266, _) ∈ ([(sa, .inr (iPC, [.ref (sa + 1), .ref (sa + 132), .ref (sa + 2), .int (1), .ref (sa + 3), .ref (sa + 4), .ref (sa + 130), .ref (sa + 131), .int (0)])), (sa + 1, aR (gC G 4) (3) (va_up (va_up (va_up (fun _ => none) 0 (some (sa + 133))) 1 (some (sa + 147))) 2 (some (sa + 161)))), (sa + 2, aR (gC G 6) (16) (va_up (va_up (va_up (va_up (va_up (va_up (va_up (va_up (va_up (va_up (va_up (va_up (fun _ => none) 0 (some (sa + 194))) 1 (some (sa + 200))) 2 (some (sa + 206))) 3 (some (sa + 212))) 4 (some (sa + 218))) 5 (some (sa + 224))) 6 (some (sa + 230))) 7 (some (sa + 236))) 8 (some (sa + 242))) 9 (some (sa + 248))) 10 (some (sa + 254))) 11 (some (sa + 260)))), (sa + 3, aI (gC G 0) (3) (fun _ => 0)), (sa + 130, aI (gC G 0) (8) (fun _ => 0)), (sa + 131, aI (gC G 1) (8) (fun _ => 0)), (sa + 132, aR (gC G 5) (1) (va_up (fun _ => none) 0 (some (sa + 175))))] ++ T_39) from (List.mem_append_right _ (hmT_39 _ (List.mem_of_getElem? (i := 0) rfl))))
                                            refine va_astq hx hb hK hW.1 hW.2.1 hW.2.2 2 6 qk iLed (r := (R_Led, T_Led, 6)) (n := 16) (f := va_up (va_up (va_up (va_up (va_up (va_up (va_up (va_up (va_up (va_up (va_up (va_up (fun _ => none) 0 (some (sa + 194))) 1 (some (sa + 200))) 2 (some (sa + 206))) 3 (some (sa + 212))) 4 (some (sa + 218))) 5 (some (sa + 224))) 6 (some (sa + 230))) 7 (some (sa + 236))) 8 (some (sa + 242))) 9 (some (sa + 248))) 10 (some (sa + 254))) 11 (some (sa + 260))) rfl rfl hqk rfl (vp_in_nI (n := 12) (by decide) (by decide)) d_PC_init_164 (fun H locs h1 h2 h3 => ?_)
                                            rw [show (12 : Int32).toNatClampNeg = 12 by decide] at h1 h2
                                            have hW : WW G zs.heap ([(sa, .inr (iPC, [.ref (sa + 1), .ref (sa + 132), .ref (sa + 2), .int (1), .ref (sa + 3), .ref (sa + 4), .ref (sa + 130), .ref (sa + 131), .int (0)])), (sa + 1, aR (gC G 4) (3) (va_up (va_up (va_up (fun _ => none) 0 (some (sa + 133))) 1 (some (sa + 147))) 2 (some (sa + 161)))), (sa + 2, aR (gC G 6) (16) (va_up (va_up (va_up (va_up (va_up (va_up (va_up (va_up (va_up (va_up (va_up (va_up (va_up (fun _ => none) 0 (some (sa + 194))) 1 (some (sa + 200))) 2 (some (sa + 206))) 3 (some (sa + 212))) 4 (some (sa + 218))) 5 (some (sa + 224))) 6 (some (sa + 230))) 7 (some (sa + 236))) 8 (some (sa + 242))) 9 (some (sa + 248))) 10 (some (sa + 254))) 11 (some (sa + 260))) 12 (some (sa + 266)))), (sa + 3, aI (gC G 0) (3) (fun _ => 0)), (sa + 130, aI (gC G 0) (8) (fun _ => 0)), (sa + 131, aI (gC G 1) (8) (fun _ => 0)), (sa + 132, aR (gC G 5) (1) (va_up (fun _ => none) 0 (some (sa + 175))))] ++ T_39) H locs := ⟨h1, h2, h3⟩
                                            refine lv_iinc (v := 13) (lv' := [(3, .int (13)), (2, .int (1)), (0, .ref sa), (1, .int (f))]) hx hb d_PC_init_165 hl (k := 0) rfl (by decide) (by decide) rfl (fun ls hl => ?_)
                                            refine lv_goto (tgt := 145) hx hb d_PC_init_168 (by decide) ?_
                                            refine lv_iload_n hx hb d_PC_init_145 rfl (lv_at hl 0 rfl) ?_
                                            refine lv_bipush (v := 16) hx hb d_PC_init_146 (by decide) ?_
                                            refine lv_icmp_ge (tgt := 171) hx hb d_PC_init_148 (by decide) (fun c_40 => ?_) (fun c_40 => ?_)
                                            · exact absurd c_40 (by decide)
                                            · skip
                                              refine lv_aload_n hx hb d_PC_init_151 rfl (lv_at hl 2 rfl) ?_
                                              refine va_get (v := .ref (sa + 2)) hx hb hts i_PC hown hK hW.1 0 rfl rfl 2 (by decide) (hts _ kw_195) (fun _ h => h) rfl d_PC_init_152 ?_
                                              refine lv_iload_n hx hb d_PC_init_155 rfl (lv_at hl 0 rfl) ?_
                                              refine W_sz (fun hzu => ?_)
                                              have hzl := (va_P_mem.mp hW.1 _ (show (sa + 271, _) ∈ ([(sa, .inr (iPC, [.ref (sa + 1), .ref (sa + 132), .ref (sa + 2), .int (1), .ref (sa + 3), .ref (sa + 4), .ref (sa + 130), .ref (sa + 131), .int (0)])), (sa + 1, aR (gC G 4) (3) (va_up (va_up (va_up (fun _ => none) 0 (some (sa + 133))) 1 (some (sa + 147))) 2 (some (sa + 161)))), (sa + 2, aR (gC G 6) (16) (va_up (va_up (va_up (va_up (va_up (va_up (va_up (va_up (va_up (va_up (va_up (va_up (va_up (fun _ => none) 0 (some (sa + 194))) 1 (some (sa + 200))) 2 (some (sa + 206))) 3 (some (sa + 212))) 4 (some (sa + 218))) 5 (some (sa + 224))) 6 (some (sa + 230))) 7 (some (sa + 236))) 8 (some (sa + 242))) 9 (some (sa + 248))) 10 (some (sa + 254))) 11 (some (sa + 260))) 12 (some (sa + 266)))), (sa + 3, aI (gC G 0) (3) (fun _ => 0)), (sa + 130, aI (gC G 0) (8) (fun _ => 0)), (sa + 131, aI (gC G 1) (8) (fun _ => 0)), (sa + 132, aR (gC G 5) (1) (va_up (fun _ => none) 0 (some (sa + 175))))] ++ T_39) from (List.mem_append_right _ (hmT_39 _ (List.mem_of_getElem? (i := 5) rfl))))).lt
                                              have hz : Array.size H = sa + 272 := sz_eq hzu hz0 hzl rfl rfl
                                              have hlt0 := WW_lt hW
                                              rw [hz] at hlt0
                                              refine h_new (G := G) (fs := [.int (0), .int (0), .int (0), .null, .null, .null]) hx hb hts i_Led t_Led t_Led_ok hown kw_549 kw_564 kw_156 hE hW.2.2 hbs (ci := iLed) rfl df_Led (Nat.le_of_ble_eq_true rfl) (Nat.le_of_ble_eq_true rfl) d_PC_init_156 (fun H ha9 hz9 hk9 hS9 => ?_)
                                              have hW := WW_keep hW hk9 hS9
                                              rw [hz] at ha9 hz9 ⊢
                                              refine lv_dup hx hb d_PC_init_159 rfl ?_
                                              refine lv_iload_n hx hb d_PC_init_160 rfl (lv_at hl 1 rfl) ?_
                                              obtain ⟨hP1, hD1⟩ := WW_one ha9
                                              have hgs : gbase G ≤ sa + 272 := gs_le hbs hz0 (by decide)
                                              refine h_cv (G := G) (h_runI (G := G) (G' := gB G (sa + 272)) (I := fun Hz => Hz = H) hx hb hml hown hts hE hW.2.2 hgs rfl (sz_le hz9) rfl (h_LedI1 l (gB G (sa + 272)) H (sa + 272) hz9 hP1 hD1) kw_567 kw_566 rfl kw_156 kw_565 rfl rfl hd_Led_init ⟨Nat.le_of_ble_eq_true rfl, Nat.le_of_ble_eq_true rfl⟩ (As := [.int (1)]) (rest := [.ref (sa + 272), .int (13), .ref (sa + 2)]) rfl hl.1 rfl (Nat.le_of_ble_eq_true rfl) d_PC_init_161 ⟨Nat.le_of_ble_eq_true rfl, Nat.le_of_ble_eq_true rfl⟩) hW.2.2 hgs (fun H9 locs hJ hq9 hk9 hS9 => ?_)
                                              obtain ⟨hJ1, hJ2, hJ3⟩ := hJ
                                              have hW := WW_block hW hlt0 hgs hk9 hJ1 hJ2 hS9
                                              generalize H9 = H at *
                                              obtain ⟨T_41, hT_41⟩ : ∃ t9 : va_W, t9 = T_39 ++ wLedI1 G (sa + 272) := ⟨_, rfl⟩
                                              have hmT_41 : ∀ q ∈ wLedI1 G (sa + 272), q ∈ T_41 := fun q hq => by rw [hT_41]; exact List.mem_append_right _ hq
                                              have hW : WW G zs.heap ([(sa, .inr (iPC, [.ref (sa + 1), .ref (sa + 132), .ref (sa + 2), .int (1), .ref (sa + 3), .ref (sa + 4), .ref (sa + 130), .ref (sa + 131), .int (0)])), (sa + 1, aR (gC G 4) (3) (va_up (va_up (va_up (fun _ => none) 0 (some (sa + 133))) 1 (some (sa + 147))) 2 (some (sa + 161)))), (sa + 2, aR (gC G 6) (16) (va_up (va_up (va_up (va_up (va_up (va_up (va_up (va_up (va_up (va_up (va_up (va_up (va_up (fun _ => none) 0 (some (sa + 194))) 1 (some (sa + 200))) 2 (some (sa + 206))) 3 (some (sa + 212))) 4 (some (sa + 218))) 5 (some (sa + 224))) 6 (some (sa + 230))) 7 (some (sa + 236))) 8 (some (sa + 242))) 9 (some (sa + 248))) 10 (some (sa + 254))) 11 (some (sa + 260))) 12 (some (sa + 266)))), (sa + 3, aI (gC G 0) (3) (fun _ => 0)), (sa + 130, aI (gC G 0) (8) (fun _ => 0)), (sa + 131, aI (gC G 1) (8) (fun _ => 0)), (sa + 132, aR (gC G 5) (1) (va_up (fun _ => none) 0 (some (sa + 175))))] ++ T_41) H locs := by rw [hT_41, ← List.append_assoc]; exact hW
                                              obtain ⟨qk, hqk⟩ := List.getElem?_of_mem (show (sa + 272, _) ∈ ([(sa, .inr (iPC, [.ref (sa + 1), .ref (sa + 132), .ref (sa + 2), .int (1), .ref (sa + 3), .ref (sa + 4), .ref (sa + 130), .ref (sa + 131), .int (0)])), (sa + 1, aR (gC G 4) (3) (va_up (va_up (va_up (fun _ => none) 0 (some (sa + 133))) 1 (some (sa + 147))) 2 (some (sa + 161)))), (sa + 2, aR (gC G 6) (16) (va_up (va_up (va_up (va_up (va_up (va_up (va_up (va_up (va_up (va_up (va_up (va_up (va_up (fun _ => none) 0 (some (sa + 194))) 1 (some (sa + 200))) 2 (some (sa + 206))) 3 (some (sa + 212))) 4 (some (sa + 218))) 5 (some (sa + 224))) 6 (some (sa + 230))) 7 (some (sa + 236))) 8 (some (sa + 242))) 9 (some (sa + 248))) 10 (some (sa + 254))) 11 (some (sa + 260))) 12 (some (sa + 266)))), (sa + 3, aI (gC G 0) (3) (fun _ => 0)), (sa + 130, aI (gC G 0) (8) (fun _ => 0)), (sa + 131, aI (gC G 1) (8) (fun _ => 0)), (sa + 132, aR (gC G 5) (1) (va_up (fun _ => none) 0 (some (sa + 175))))] ++ T_41) from (List.mem_append_right _ (hmT_41 _ (List.mem_of_getElem? (i := 0) rfl))))
                                              refine va_astq hx hb hK hW.1 hW.2.1 hW.2.2 2 6 qk iLed (r := (R_Led, T_Led, 6)) (n := 16) (f := va_up (va_up (va_up (va_up (va_up (va_up (va_up (va_up (va_up (va_up (va_up (va_up (va_up (fun _ => none) 0 (some (sa + 194))) 1 (some (sa + 200))) 2 (some (sa + 206))) 3 (some (sa + 212))) 4 (some (sa + 218))) 5 (some (sa + 224))) 6 (some (sa + 230))) 7 (some (sa + 236))) 8 (some (sa + 242))) 9 (some (sa + 248))) 10 (some (sa + 254))) 11 (some (sa + 260))) 12 (some (sa + 266))) rfl rfl hqk rfl (vp_in_nI (n := 13) (by decide) (by decide)) d_PC_init_164 (fun H locs h1 h2 h3 => ?_)
                                              rw [show (13 : Int32).toNatClampNeg = 13 by decide] at h1 h2
                                              have hW : WW G zs.heap ([(sa, .inr (iPC, [.ref (sa + 1), .ref (sa + 132), .ref (sa + 2), .int (1), .ref (sa + 3), .ref (sa + 4), .ref (sa + 130), .ref (sa + 131), .int (0)])), (sa + 1, aR (gC G 4) (3) (va_up (va_up (va_up (fun _ => none) 0 (some (sa + 133))) 1 (some (sa + 147))) 2 (some (sa + 161)))), (sa + 2, aR (gC G 6) (16) (va_up (va_up (va_up (va_up (va_up (va_up (va_up (va_up (va_up (va_up (va_up (va_up (va_up (va_up (fun _ => none) 0 (some (sa + 194))) 1 (some (sa + 200))) 2 (some (sa + 206))) 3 (some (sa + 212))) 4 (some (sa + 218))) 5 (some (sa + 224))) 6 (some (sa + 230))) 7 (some (sa + 236))) 8 (some (sa + 242))) 9 (some (sa + 248))) 10 (some (sa + 254))) 11 (some (sa + 260))) 12 (some (sa + 266))) 13 (some (sa + 272)))), (sa + 3, aI (gC G 0) (3) (fun _ => 0)), (sa + 130, aI (gC G 0) (8) (fun _ => 0)), (sa + 131, aI (gC G 1) (8) (fun _ => 0)), (sa + 132, aR (gC G 5) (1) (va_up (fun _ => none) 0 (some (sa + 175))))] ++ T_41) H locs := ⟨h1, h2, h3⟩
                                              refine lv_iinc (v := 14) (lv' := [(3, .int (14)), (2, .int (1)), (0, .ref sa), (1, .int (f))]) hx hb d_PC_init_165 hl (k := 0) rfl (by decide) (by decide) rfl (fun ls hl => ?_)
                                              refine lv_goto (tgt := 145) hx hb d_PC_init_168 (by decide) ?_
                                              refine lv_iload_n hx hb d_PC_init_145 rfl (lv_at hl 0 rfl) ?_
                                              refine lv_bipush (v := 16) hx hb d_PC_init_146 (by decide) ?_
                                              refine lv_icmp_ge (tgt := 171) hx hb d_PC_init_148 (by decide) (fun c_42 => ?_) (fun c_42 => ?_)
                                              · exact absurd c_42 (by decide)
                                              · skip
                                                refine lv_aload_n hx hb d_PC_init_151 rfl (lv_at hl 2 rfl) ?_
                                                refine va_get (v := .ref (sa + 2)) hx hb hts i_PC hown hK hW.1 0 rfl rfl 2 (by decide) (hts _ kw_195) (fun _ h => h) rfl d_PC_init_152 ?_
                                                refine lv_iload_n hx hb d_PC_init_155 rfl (lv_at hl 0 rfl) ?_
                                                refine W_sz (fun hzu => ?_)
                                                have hzl := (va_P_mem.mp hW.1 _ (show (sa + 277, _) ∈ ([(sa, .inr (iPC, [.ref (sa + 1), .ref (sa + 132), .ref (sa + 2), .int (1), .ref (sa + 3), .ref (sa + 4), .ref (sa + 130), .ref (sa + 131), .int (0)])), (sa + 1, aR (gC G 4) (3) (va_up (va_up (va_up (fun _ => none) 0 (some (sa + 133))) 1 (some (sa + 147))) 2 (some (sa + 161)))), (sa + 2, aR (gC G 6) (16) (va_up (va_up (va_up (va_up (va_up (va_up (va_up (va_up (va_up (va_up (va_up (va_up (va_up (va_up (fun _ => none) 0 (some (sa + 194))) 1 (some (sa + 200))) 2 (some (sa + 206))) 3 (some (sa + 212))) 4 (some (sa + 218))) 5 (some (sa + 224))) 6 (some (sa + 230))) 7 (some (sa + 236))) 8 (some (sa + 242))) 9 (some (sa + 248))) 10 (some (sa + 254))) 11 (some (sa + 260))) 12 (some (sa + 266))) 13 (some (sa + 272)))), (sa + 3, aI (gC G 0) (3) (fun _ => 0)), (sa + 130, aI (gC G 0) (8) (fun _ => 0)), (sa + 131, aI (gC G 1) (8) (fun _ => 0)), (sa + 132, aR (gC G 5) (1) (va_up (fun _ => none) 0 (some (sa + 175))))] ++ T_41) from (List.mem_append_right _ (hmT_41 _ (List.mem_of_getElem? (i := 5) rfl))))).lt
                                                have hz : Array.size H = sa + 278 := sz_eq hzu hz0 hzl rfl rfl
                                                have hlt0 := WW_lt hW
                                                rw [hz] at hlt0
                                                refine h_new (G := G) (fs := [.int (0), .int (0), .int (0), .null, .null, .null]) hx hb hts i_Led t_Led t_Led_ok hown kw_549 kw_564 kw_156 hE hW.2.2 hbs (ci := iLed) rfl df_Led (Nat.le_of_ble_eq_true rfl) (Nat.le_of_ble_eq_true rfl) d_PC_init_156 (fun H ha9 hz9 hk9 hS9 => ?_)
                                                have hW := WW_keep hW hk9 hS9
                                                rw [hz] at ha9 hz9 ⊢
                                                refine lv_dup hx hb d_PC_init_159 rfl ?_
                                                refine lv_iload_n hx hb d_PC_init_160 rfl (lv_at hl 1 rfl) ?_
                                                obtain ⟨hP1, hD1⟩ := WW_one ha9
                                                have hgs : gbase G ≤ sa + 278 := gs_le hbs hz0 (by decide)
                                                refine h_cv (G := G) (h_runI (G := G) (G' := gB G (sa + 278)) (I := fun Hz => Hz = H) hx hb hml hown hts hE hW.2.2 hgs rfl (sz_le hz9) rfl (h_LedI1 l (gB G (sa + 278)) H (sa + 278) hz9 hP1 hD1) kw_567 kw_566 rfl kw_156 kw_565 rfl rfl hd_Led_init ⟨Nat.le_of_ble_eq_true rfl, Nat.le_of_ble_eq_true rfl⟩ (As := [.int (1)]) (rest := [.ref (sa + 278), .int (14), .ref (sa + 2)]) rfl hl.1 rfl (Nat.le_of_ble_eq_true rfl) d_PC_init_161 ⟨Nat.le_of_ble_eq_true rfl, Nat.le_of_ble_eq_true rfl⟩) hW.2.2 hgs (fun H9 locs hJ hq9 hk9 hS9 => ?_)
                                                obtain ⟨hJ1, hJ2, hJ3⟩ := hJ
                                                have hW := WW_block hW hlt0 hgs hk9 hJ1 hJ2 hS9
                                                generalize H9 = H at *
                                                obtain ⟨T_43, hT_43⟩ : ∃ t9 : va_W, t9 = T_41 ++ wLedI1 G (sa + 278) := ⟨_, rfl⟩
                                                have hmT_43 : ∀ q ∈ wLedI1 G (sa + 278), q ∈ T_43 := fun q hq => by rw [hT_43]; exact List.mem_append_right _ hq
                                                have hW : WW G zs.heap ([(sa, .inr (iPC, [.ref (sa + 1), .ref (sa + 132), .ref (sa + 2), .int (1), .ref (sa + 3), .ref (sa + 4), .ref (sa + 130), .ref (sa + 131), .int (0)])), (sa + 1, aR (gC G 4) (3) (va_up (va_up (va_up (fun _ => none) 0 (some (sa + 133))) 1 (some (sa + 147))) 2 (some (sa + 161)))), (sa + 2, aR (gC G 6) (16) (va_up (va_up (va_up (va_up (va_up (va_up (va_up (va_up (va_up (va_up (va_up (va_up (va_up (va_up (fun _ => none) 0 (some (sa + 194))) 1 (some (sa + 200))) 2 (some (sa + 206))) 3 (some (sa + 212))) 4 (some (sa + 218))) 5 (some (sa + 224))) 6 (some (sa + 230))) 7 (some (sa + 236))) 8 (some (sa + 242))) 9 (some (sa + 248))) 10 (some (sa + 254))) 11 (some (sa + 260))) 12 (some (sa + 266))) 13 (some (sa + 272)))), (sa + 3, aI (gC G 0) (3) (fun _ => 0)), (sa + 130, aI (gC G 0) (8) (fun _ => 0)), (sa + 131, aI (gC G 1) (8) (fun _ => 0)), (sa + 132, aR (gC G 5) (1) (va_up (fun _ => none) 0 (some (sa + 175))))] ++ T_43) H locs := by rw [hT_43, ← List.append_assoc]; exact hW
                                                obtain ⟨qk, hqk⟩ := List.getElem?_of_mem (show (sa + 278, _) ∈ ([(sa, .inr (iPC, [.ref (sa + 1), .ref (sa + 132), .ref (sa + 2), .int (1), .ref (sa + 3), .ref (sa + 4), .ref (sa + 130), .ref (sa + 131), .int (0)])), (sa + 1, aR (gC G 4) (3) (va_up (va_up (va_up (fun _ => none) 0 (some (sa + 133))) 1 (some (sa + 147))) 2 (some (sa + 161)))), (sa + 2, aR (gC G 6) (16) (va_up (va_up (va_up (va_up (va_up (va_up (va_up (va_up (va_up (va_up (va_up (va_up (va_up (va_up (fun _ => none) 0 (some (sa + 194))) 1 (some (sa + 200))) 2 (some (sa + 206))) 3 (some (sa + 212))) 4 (some (sa + 218))) 5 (some (sa + 224))) 6 (some (sa + 230))) 7 (some (sa + 236))) 8 (some (sa + 242))) 9 (some (sa + 248))) 10 (some (sa + 254))) 11 (some (sa + 260))) 12 (some (sa + 266))) 13 (some (sa + 272)))), (sa + 3, aI (gC G 0) (3) (fun _ => 0)), (sa + 130, aI (gC G 0) (8) (fun _ => 0)), (sa + 131, aI (gC G 1) (8) (fun _ => 0)), (sa + 132, aR (gC G 5) (1) (va_up (fun _ => none) 0 (some (sa + 175))))] ++ T_43) from (List.mem_append_right _ (hmT_43 _ (List.mem_of_getElem? (i := 0) rfl))))
                                                refine va_astq hx hb hK hW.1 hW.2.1 hW.2.2 2 6 qk iLed (r := (R_Led, T_Led, 6)) (n := 16) (f := va_up (va_up (va_up (va_up (va_up (va_up (va_up (va_up (va_up (va_up (va_up (va_up (va_up (va_up (fun _ => none) 0 (some (sa + 194))) 1 (some (sa + 200))) 2 (some (sa + 206))) 3 (some (sa + 212))) 4 (some (sa + 218))) 5 (some (sa + 224))) 6 (some (sa + 230))) 7 (some (sa + 236))) 8 (some (sa + 242))) 9 (some (sa + 248))) 10 (some (sa + 254))) 11 (some (sa + 260))) 12 (some (sa + 266))) 13 (some (sa + 272))) rfl rfl hqk rfl (vp_in_nI (n := 14) (by decide) (by decide)) d_PC_init_164 (fun H locs h1 h2 h3 => ?_)
                                                rw [show (14 : Int32).toNatClampNeg = 14 by decide] at h1 h2
                                                have hW : WW G zs.heap ([(sa, .inr (iPC, [.ref (sa + 1), .ref (sa + 132), .ref (sa + 2), .int (1), .ref (sa + 3), .ref (sa + 4), .ref (sa + 130), .ref (sa + 131), .int (0)])), (sa + 1, aR (gC G 4) (3) (va_up (va_up (va_up (fun _ => none) 0 (some (sa + 133))) 1 (some (sa + 147))) 2 (some (sa + 161)))), (sa + 2, aR (gC G 6) (16) (va_up (va_up (va_up (va_up (va_up (va_up (va_up (va_up (va_up (va_up (va_up (va_up (va_up (va_up (va_up (fun _ => none) 0 (some (sa + 194))) 1 (some (sa + 200))) 2 (some (sa + 206))) 3 (some (sa + 212))) 4 (some (sa + 218))) 5 (some (sa + 224))) 6 (some (sa + 230))) 7 (some (sa + 236))) 8 (some (sa + 242))) 9 (some (sa + 248))) 10 (some (sa + 254))) 11 (some (sa + 260))) 12 (some (sa + 266))) 13 (some (sa + 272))) 14 (some (sa + 278)))), (sa + 3, aI (gC G 0) (3) (fun _ => 0)), (sa + 130, aI (gC G 0) (8) (fun _ => 0)), (sa + 131, aI (gC G 1) (8) (fun _ => 0)), (sa + 132, aR (gC G 5) (1) (va_up (fun _ => none) 0 (some (sa + 175))))] ++ T_43) H locs := ⟨h1, h2, h3⟩
                                                refine lv_iinc (v := 15) (lv' := [(3, .int (15)), (2, .int (1)), (0, .ref sa), (1, .int (f))]) hx hb d_PC_init_165 hl (k := 0) rfl (by decide) (by decide) rfl (fun ls hl => ?_)
                                                refine lv_goto (tgt := 145) hx hb d_PC_init_168 (by decide) ?_
                                                refine lv_iload_n hx hb d_PC_init_145 rfl (lv_at hl 0 rfl) ?_
                                                refine lv_bipush (v := 16) hx hb d_PC_init_146 (by decide) ?_
                                                refine lv_icmp_ge (tgt := 171) hx hb d_PC_init_148 (by decide) (fun c_44 => ?_) (fun c_44 => ?_)
                                                · exact absurd c_44 (by decide)
                                                · skip
                                                  refine lv_aload_n hx hb d_PC_init_151 rfl (lv_at hl 2 rfl) ?_
                                                  refine va_get (v := .ref (sa + 2)) hx hb hts i_PC hown hK hW.1 0 rfl rfl 2 (by decide) (hts _ kw_195) (fun _ h => h) rfl d_PC_init_152 ?_
                                                  refine lv_iload_n hx hb d_PC_init_155 rfl (lv_at hl 0 rfl) ?_
                                                  refine W_sz (fun hzu => ?_)
                                                  have hzl := (va_P_mem.mp hW.1 _ (show (sa + 283, _) ∈ ([(sa, .inr (iPC, [.ref (sa + 1), .ref (sa + 132), .ref (sa + 2), .int (1), .ref (sa + 3), .ref (sa + 4), .ref (sa + 130), .ref (sa + 131), .int (0)])), (sa + 1, aR (gC G 4) (3) (va_up (va_up (va_up (fun _ => none) 0 (some (sa + 133))) 1 (some (sa + 147))) 2 (some (sa + 161)))), (sa + 2, aR (gC G 6) (16) (va_up (va_up (va_up (va_up (va_up (va_up (va_up (va_up (va_up (va_up (va_up (va_up (va_up (va_up (va_up (fun _ => none) 0 (some (sa + 194))) 1 (some (sa + 200))) 2 (some (sa + 206))) 3 (some (sa + 212))) 4 (some (sa + 218))) 5 (some (sa + 224))) 6 (some (sa + 230))) 7 (some (sa + 236))) 8 (some (sa + 242))) 9 (some (sa + 248))) 10 (some (sa + 254))) 11 (some (sa + 260))) 12 (some (sa + 266))) 13 (some (sa + 272))) 14 (some (sa + 278)))), (sa + 3, aI (gC G 0) (3) (fun _ => 0)), (sa + 130, aI (gC G 0) (8) (fun _ => 0)), (sa + 131, aI (gC G 1) (8) (fun _ => 0)), (sa + 132, aR (gC G 5) (1) (va_up (fun _ => none) 0 (some (sa + 175))))] ++ T_43) from (List.mem_append_right _ (hmT_43 _ (List.mem_of_getElem? (i := 5) rfl))))).lt
                                                  have hz : Array.size H = sa + 284 := sz_eq hzu hz0 hzl rfl rfl
                                                  have hlt0 := WW_lt hW
                                                  rw [hz] at hlt0
                                                  refine h_new (G := G) (fs := [.int (0), .int (0), .int (0), .null, .null, .null]) hx hb hts i_Led t_Led t_Led_ok hown kw_549 kw_564 kw_156 hE hW.2.2 hbs (ci := iLed) rfl df_Led (Nat.le_of_ble_eq_true rfl) (Nat.le_of_ble_eq_true rfl) d_PC_init_156 (fun H ha9 hz9 hk9 hS9 => ?_)
                                                  have hW := WW_keep hW hk9 hS9
                                                  rw [hz] at ha9 hz9 ⊢
                                                  refine lv_dup hx hb d_PC_init_159 rfl ?_
                                                  refine lv_iload_n hx hb d_PC_init_160 rfl (lv_at hl 1 rfl) ?_
                                                  obtain ⟨hP1, hD1⟩ := WW_one ha9
                                                  have hgs : gbase G ≤ sa + 284 := gs_le hbs hz0 (by decide)
                                                  refine h_cv (G := G) (h_runI (G := G) (G' := gB G (sa + 284)) (I := fun Hz => Hz = H) hx hb hml hown hts hE hW.2.2 hgs rfl (sz_le hz9) rfl (h_LedI1 l (gB G (sa + 284)) H (sa + 284) hz9 hP1 hD1) kw_567 kw_566 rfl kw_156 kw_565 rfl rfl hd_Led_init ⟨Nat.le_of_ble_eq_true rfl, Nat.le_of_ble_eq_true rfl⟩ (As := [.int (1)]) (rest := [.ref (sa + 284), .int (15), .ref (sa + 2)]) rfl hl.1 rfl (Nat.le_of_ble_eq_true rfl) d_PC_init_161 ⟨Nat.le_of_ble_eq_true rfl, Nat.le_of_ble_eq_true rfl⟩) hW.2.2 hgs (fun H9 locs hJ hq9 hk9 hS9 => ?_)
                                                  obtain ⟨hJ1, hJ2, hJ3⟩ := hJ
                                                  have hW := WW_block hW hlt0 hgs hk9 hJ1 hJ2 hS9
                                                  generalize H9 = H at *
                                                  obtain ⟨T_45, hT_45⟩ : ∃ t9 : va_W, t9 = T_43 ++ wLedI1 G (sa + 284) := ⟨_, rfl⟩
                                                  have hmT_45 : ∀ q ∈ wLedI1 G (sa + 284), q ∈ T_45 := fun q hq => by rw [hT_45]; exact List.mem_append_right _ hq
                                                  have hW : WW G zs.heap ([(sa, .inr (iPC, [.ref (sa + 1), .ref (sa + 132), .ref (sa + 2), .int (1), .ref (sa + 3), .ref (sa + 4), .ref (sa + 130), .ref (sa + 131), .int (0)])), (sa + 1, aR (gC G 4) (3) (va_up (va_up (va_up (fun _ => none) 0 (some (sa + 133))) 1 (some (sa + 147))) 2 (some (sa + 161)))), (sa + 2, aR (gC G 6) (16) (va_up (va_up (va_up (va_up (va_up (va_up (va_up (va_up (va_up (va_up (va_up (va_up (va_up (va_up (va_up (fun _ => none) 0 (some (sa + 194))) 1 (some (sa + 200))) 2 (some (sa + 206))) 3 (some (sa + 212))) 4 (some (sa + 218))) 5 (some (sa + 224))) 6 (some (sa + 230))) 7 (some (sa + 236))) 8 (some (sa + 242))) 9 (some (sa + 248))) 10 (some (sa + 254))) 11 (some (sa + 260))) 12 (some (sa + 266))) 13 (some (sa + 272))) 14 (some (sa + 278)))), (sa + 3, aI (gC G 0) (3) (fun _ => 0)), (sa + 130, aI (gC G 0) (8) (fun _ => 0)), (sa + 131, aI (gC G 1) (8) (fun _ => 0)), (sa + 132, aR (gC G 5) (1) (va_up (fun _ => none) 0 (some (sa + 175))))] ++ T_45) H locs := by rw [hT_45, ← List.append_assoc]; exact hW
                                                  obtain ⟨qk, hqk⟩ := List.getElem?_of_mem (show (sa + 284, _) ∈ ([(sa, .inr (iPC, [.ref (sa + 1), .ref (sa + 132), .ref (sa + 2), .int (1), .ref (sa + 3), .ref (sa + 4), .ref (sa + 130), .ref (sa + 131), .int (0)])), (sa + 1, aR (gC G 4) (3) (va_up (va_up (va_up (fun _ => none) 0 (some (sa + 133))) 1 (some (sa + 147))) 2 (some (sa + 161)))), (sa + 2, aR (gC G 6) (16) (va_up (va_up (va_up (va_up (va_up (va_up (va_up (va_up (va_up (va_up (va_up (va_up (va_up (va_up (va_up (fun _ => none) 0 (some (sa + 194))) 1 (some (sa + 200))) 2 (some (sa + 206))) 3 (some (sa + 212))) 4 (some (sa + 218))) 5 (some (sa + 224))) 6 (some (sa + 230))) 7 (some (sa + 236))) 8 (some (sa + 242))) 9 (some (sa + 248))) 10 (some (sa + 254))) 11 (some (sa + 260))) 12 (some (sa + 266))) 13 (some (sa + 272))) 14 (some (sa + 278)))), (sa + 3, aI (gC G 0) (3) (fun _ => 0)), (sa + 130, aI (gC G 0) (8) (fun _ => 0)), (sa + 131, aI (gC G 1) (8) (fun _ => 0)), (sa + 132, aR (gC G 5) (1) (va_up (fun _ => none) 0 (some (sa + 175))))] ++ T_45) from (List.mem_append_right _ (hmT_45 _ (List.mem_of_getElem? (i := 0) rfl))))
                                                  refine va_astq hx hb hK hW.1 hW.2.1 hW.2.2 2 6 qk iLed (r := (R_Led, T_Led, 6)) (n := 16) (f := va_up (va_up (va_up (va_up (va_up (va_up (va_up (va_up (va_up (va_up (va_up (va_up (va_up (va_up (va_up (fun _ => none) 0 (some (sa + 194))) 1 (some (sa + 200))) 2 (some (sa + 206))) 3 (some (sa + 212))) 4 (some (sa + 218))) 5 (some (sa + 224))) 6 (some (sa + 230))) 7 (some (sa + 236))) 8 (some (sa + 242))) 9 (some (sa + 248))) 10 (some (sa + 254))) 11 (some (sa + 260))) 12 (some (sa + 266))) 13 (some (sa + 272))) 14 (some (sa + 278))) rfl rfl hqk rfl (vp_in_nI (n := 15) (by decide) (by decide)) d_PC_init_164 (fun H locs h1 h2 h3 => ?_)
                                                  rw [show (15 : Int32).toNatClampNeg = 15 by decide] at h1 h2
                                                  have hW : WW G zs.heap ([(sa, .inr (iPC, [.ref (sa + 1), .ref (sa + 132), .ref (sa + 2), .int (1), .ref (sa + 3), .ref (sa + 4), .ref (sa + 130), .ref (sa + 131), .int (0)])), (sa + 1, aR (gC G 4) (3) (va_up (va_up (va_up (fun _ => none) 0 (some (sa + 133))) 1 (some (sa + 147))) 2 (some (sa + 161)))), (sa + 2, aR (gC G 6) (16) (va_up (va_up (va_up (va_up (va_up (va_up (va_up (va_up (va_up (va_up (va_up (va_up (va_up (va_up (va_up (va_up (fun _ => none) 0 (some (sa + 194))) 1 (some (sa + 200))) 2 (some (sa + 206))) 3 (some (sa + 212))) 4 (some (sa + 218))) 5 (some (sa + 224))) 6 (some (sa + 230))) 7 (some (sa + 236))) 8 (some (sa + 242))) 9 (some (sa + 248))) 10 (some (sa + 254))) 11 (some (sa + 260))) 12 (some (sa + 266))) 13 (some (sa + 272))) 14 (some (sa + 278))) 15 (some (sa + 284)))), (sa + 3, aI (gC G 0) (3) (fun _ => 0)), (sa + 130, aI (gC G 0) (8) (fun _ => 0)), (sa + 131, aI (gC G 1) (8) (fun _ => 0)), (sa + 132, aR (gC G 5) (1) (va_up (fun _ => none) 0 (some (sa + 175))))] ++ T_45) H locs := ⟨h1, h2, h3⟩
                                                  refine lv_iinc (v := 16) (lv' := [(3, .int (16)), (2, .int (1)), (0, .ref sa), (1, .int (f))]) hx hb d_PC_init_165 hl (k := 0) rfl (by decide) (by decide) rfl (fun ls hl => ?_)
                                                  refine lv_goto (tgt := 145) hx hb d_PC_init_168 (by decide) ?_
                                                  refine lv_iload_n hx hb d_PC_init_145 rfl (lv_at hl 0 rfl) ?_
                                                  refine lv_bipush (v := 16) hx hb d_PC_init_146 (by decide) ?_
                                                  refine lv_icmp_ge (tgt := 171) hx hb d_PC_init_148 (by decide) (fun c_46 => ?_) (fun c_46 => ?_)
                                                  · skip
                                                    refine lv_aload_n hx hb d_PC_init_171 rfl (lv_at hl 2 rfl) ?_
                                                    refine va_get (v := .ref (sa + 3)) hx hb hts i_PC hown hK hW.1 0 rfl rfl 4 (by decide) (hts _ kw_286) (fun _ h => h) rfl d_PC_init_172 ?_
                                                    refine lv_iconst (v := 0) hx hb d_PC_init_175 (by decide) ?_
                                                    refine lv_bipush (v := 7) hx hb d_PC_init_176 (by decide) ?_
                                                    refine va_iast hx hb hK hW.1 hW.2.1 hW.2.2 3 0 rfl rfl (vp_in_nI (n := 0) (by decide) (by decide)) d_PC_init_178 (fun H locs h1 h2 h3 => ?_)
                                                    rw [show (0 : Int32).toNatClampNeg = 0 by decide] at h1 h2
                                                    have hW : WW G zs.heap ([(sa, .inr (iPC, [.ref (sa + 1), .ref (sa + 132), .ref (sa + 2), .int (1), .ref (sa + 3), .ref (sa + 4), .ref (sa + 130), .ref (sa + 131), .int (0)])), (sa + 1, aR (gC G 4) (3) (va_up (va_up (va_up (fun _ => none) 0 (some (sa + 133))) 1 (some (sa + 147))) 2 (some (sa + 161)))), (sa + 2, aR (gC G 6) (16) (va_up (va_up (va_up (va_up (va_up (va_up (va_up (va_up (va_up (va_up (va_up (va_up (va_up (va_up (va_up (va_up (fun _ => none) 0 (some (sa + 194))) 1 (some (sa + 200))) 2 (some (sa + 206))) 3 (some (sa + 212))) 4 (some (sa + 218))) 5 (some (sa + 224))) 6 (some (sa + 230))) 7 (some (sa + 236))) 8 (some (sa + 242))) 9 (some (sa + 248))) 10 (some (sa + 254))) 11 (some (sa + 260))) 12 (some (sa + 266))) 13 (some (sa + 272))) 14 (some (sa + 278))) 15 (some (sa + 284)))), (sa + 3, aI (gC G 0) (3) (upd (fun _ => 0) 0 (7))), (sa + 130, aI (gC G 0) (8) (fun _ => 0)), (sa + 131, aI (gC G 1) (8) (fun _ => 0)), (sa + 132, aR (gC G 5) (1) (va_up (fun _ => none) 0 (some (sa + 175))))] ++ T_45) H locs := ⟨h1, h2, h3⟩
                                                    refine lv_aload_n hx hb d_PC_init_179 rfl (lv_at hl 2 rfl) ?_
                                                    refine va_get (v := .ref (sa + 3)) hx hb hts i_PC hown hK hW.1 0 rfl rfl 4 (by decide) (hts _ kw_286) (fun _ h => h) rfl d_PC_init_180 ?_
                                                    refine lv_iconst (v := 1) hx hb d_PC_init_183 (by decide) ?_
                                                    refine lv_iconst (v := 1) hx hb d_PC_init_184 (by decide) ?_
                                                    refine lv_iload_n hx hb d_PC_init_185 rfl (lv_at hl 1 rfl) ?_
                                                    refine lv_ishl hx hb d_PC_init_186 ?_
                                                    refine lv_iconst (v := 1) hx hb d_PC_init_187 (by decide) ?_
                                                    refine lv_isub hx hb d_PC_init_188 ?_
                                                    refine e_top (v := 1) (by decide) ?_
                                                    refine va_iast hx hb hK hW.1 hW.2.1 hW.2.2 3 0 rfl rfl (vp_in_nI (n := 1) (by decide) (by decide)) d_PC_init_189 (fun H locs h1 h2 h3 => ?_)
                                                    rw [show (1 : Int32).toNatClampNeg = 1 by decide] at h1 h2
                                                    have hW : WW G zs.heap ([(sa, .inr (iPC, [.ref (sa + 1), .ref (sa + 132), .ref (sa + 2), .int (1), .ref (sa + 3), .ref (sa + 4), .ref (sa + 130), .ref (sa + 131), .int (0)])), (sa + 1, aR (gC G 4) (3) (va_up (va_up (va_up (fun _ => none) 0 (some (sa + 133))) 1 (some (sa + 147))) 2 (some (sa + 161)))), (sa + 2, aR (gC G 6) (16) (va_up (va_up (va_up (va_up (va_up (va_up (va_up (va_up (va_up (va_up (va_up (va_up (va_up (va_up (va_up (va_up (fun _ => none) 0 (some (sa + 194))) 1 (some (sa + 200))) 2 (some (sa + 206))) 3 (some (sa + 212))) 4 (some (sa + 218))) 5 (some (sa + 224))) 6 (some (sa + 230))) 7 (some (sa + 236))) 8 (some (sa + 242))) 9 (some (sa + 248))) 10 (some (sa + 254))) 11 (some (sa + 260))) 12 (some (sa + 266))) 13 (some (sa + 272))) 14 (some (sa + 278))) 15 (some (sa + 284)))), (sa + 3, aI (gC G 0) (3) (upd (upd (fun _ => 0) 0 (7)) 1 (1))), (sa + 130, aI (gC G 0) (8) (fun _ => 0)), (sa + 131, aI (gC G 1) (8) (fun _ => 0)), (sa + 132, aR (gC G 5) (1) (va_up (fun _ => none) 0 (some (sa + 175))))] ++ T_45) H locs := ⟨h1, h2, h3⟩
                                                    refine lv_aload_n hx hb d_PC_init_190 rfl (lv_at hl 2 rfl) ?_
                                                    refine va_get (v := .ref (sa + 3)) hx hb hts i_PC hown hK hW.1 0 rfl rfl 4 (by decide) (hts _ kw_286) (fun _ h => h) rfl d_PC_init_191 ?_
                                                    refine lv_iconst (v := 2) hx hb d_PC_init_194 (by decide) ?_
                                                    refine lv_iconst (v := 3) hx hb d_PC_init_195 (by decide) ?_
                                                    refine va_iast hx hb hK hW.1 hW.2.1 hW.2.2 3 0 rfl rfl (vp_in_nI (n := 2) (by decide) (by decide)) d_PC_init_196 (fun H locs h1 h2 h3 => ?_)
                                                    rw [show (2 : Int32).toNatClampNeg = 2 by decide] at h1 h2
                                                    have hW : WW G zs.heap ([(sa, .inr (iPC, [.ref (sa + 1), .ref (sa + 132), .ref (sa + 2), .int (1), .ref (sa + 3), .ref (sa + 4), .ref (sa + 130), .ref (sa + 131), .int (0)])), (sa + 1, aR (gC G 4) (3) (va_up (va_up (va_up (fun _ => none) 0 (some (sa + 133))) 1 (some (sa + 147))) 2 (some (sa + 161)))), (sa + 2, aR (gC G 6) (16) (va_up (va_up (va_up (va_up (va_up (va_up (va_up (va_up (va_up (va_up (va_up (va_up (va_up (va_up (va_up (va_up (fun _ => none) 0 (some (sa + 194))) 1 (some (sa + 200))) 2 (some (sa + 206))) 3 (some (sa + 212))) 4 (some (sa + 218))) 5 (some (sa + 224))) 6 (some (sa + 230))) 7 (some (sa + 236))) 8 (some (sa + 242))) 9 (some (sa + 248))) 10 (some (sa + 254))) 11 (some (sa + 260))) 12 (some (sa + 266))) 13 (some (sa + 272))) 14 (some (sa + 278))) 15 (some (sa + 284)))), (sa + 3, aI (gC G 0) (3) (upd (upd (upd (fun _ => 0) 0 (7)) 1 (1)) 2 (3))), (sa + 130, aI (gC G 0) (8) (fun _ => 0)), (sa + 131, aI (gC G 1) (8) (fun _ => 0)), (sa + 132, aR (gC G 5) (1) (va_up (fun _ => none) 0 (some (sa + 175))))] ++ T_45) H locs := ⟨h1, h2, h3⟩
                                                    refine W_sz (fun hzu => ?_)
                                                    have hzl := (va_P_mem.mp hW.1 _ (show (sa + 289, _) ∈ ([(sa, .inr (iPC, [.ref (sa + 1), .ref (sa + 132), .ref (sa + 2), .int (1), .ref (sa + 3), .ref (sa + 4), .ref (sa + 130), .ref (sa + 131), .int (0)])), (sa + 1, aR (gC G 4) (3) (va_up (va_up (va_up (fun _ => none) 0 (some (sa + 133))) 1 (some (sa + 147))) 2 (some (sa + 161)))), (sa + 2, aR (gC G 6) (16) (va_up (va_up (va_up (va_up (va_up (va_up (va_up (va_up (va_up (va_up (va_up (va_up (va_up (va_up (va_up (va_up (fun _ => none) 0 (some (sa + 194))) 1 (some (sa + 200))) 2 (some (sa + 206))) 3 (some (sa + 212))) 4 (some (sa + 218))) 5 (some (sa + 224))) 6 (some (sa + 230))) 7 (some (sa + 236))) 8 (some (sa + 242))) 9 (some (sa + 248))) 10 (some (sa + 254))) 11 (some (sa + 260))) 12 (some (sa + 266))) 13 (some (sa + 272))) 14 (some (sa + 278))) 15 (some (sa + 284)))), (sa + 3, aI (gC G 0) (3) (upd (upd (upd (fun _ => 0) 0 (7)) 1 (1)) 2 (3))), (sa + 130, aI (gC G 0) (8) (fun _ => 0)), (sa + 131, aI (gC G 1) (8) (fun _ => 0)), (sa + 132, aR (gC G 5) (1) (va_up (fun _ => none) 0 (some (sa + 175))))] ++ T_45) from (List.mem_append_right _ (hmT_45 _ (List.mem_of_getElem? (i := 5) rfl))))).lt
                                                    have hz : Array.size H = sa + 290 := sz_eq hzu hz0 hzl rfl rfl
                                                    rw [hT_45, hT_43, hT_41, hT_39, hT_37, hT_35, hT_33, hT_31, hT_29, hT_27, hT_25, hT_23, hT_21, hT_19, hT_17, hT_15, hT_12, hT_9, hT_7, hT_5, hT_1] at hW
                                                    exact h_vret hx hb hr hlk hW.2.2 ⟨hW.1, bs_D hW.2.1 (ls_PCI1 G sa), hz⟩ (Nat.le_of_ble_eq_true rfl) (Nat.le_of_ble_eq_true rfl) d_PC_init_197
                                                  · exact absurd c_46 (by decide)
                · exact absurd c_13 (by decide)
            · exact absurd c_10 (by decide)
def wPCI3 (G : GT) (sa : Nat) : va_W := [(sa, .inr (iPC, [.ref (sa + 1), .ref (sa + 132), .ref (sa + 2), .int (2), .ref (sa + 3), .ref (sa + 4), .ref (sa + 130), .ref (sa + 131), .int (0)])), (sa + 1, aR (gC G 4) (3) (va_up (va_up (va_up (fun _ => none) 0 (some (sa + 133))) 1 (some (sa + 147))) 2 (some (sa + 161)))), (sa + 2, aR (gC G 6) (16) (va_up (va_up (va_up (va_up (va_up (va_up (va_up (va_up (va_up (va_up (va_up (va_up (va_up (va_up (va_up (va_up (fun _ => none) 0 (some (sa + 232))) 1 (some (sa + 242))) 2 (some (sa + 252))) 3 (some (sa + 262))) 4 (some (sa + 272))) 5 (some (sa + 282))) 6 (some (sa + 292))) 7 (some (sa + 302))) 8 (some (sa + 312))) 9 (some (sa + 322))) 10 (some (sa + 332))) 11 (some (sa + 342))) 12 (some (sa + 352))) 13 (some (sa + 362))) 14 (some (sa + 372))) 15 (some (sa + 382)))), (sa + 3, aI (gC G 0) (3) (upd (upd (upd (fun _ => 0) 0 (7)) 1 (7)) 2 (3))), (sa + 130, aI (gC G 0) (8) (fun _ => 0)), (sa + 131, aI (gC G 1) (8) (fun _ => 0)), (sa + 132, aR (gC G 5) (3) (va_up (va_up (va_up (fun _ => none) 0 (some (sa + 175))) 1 (some (sa + 194))) 2 (some (sa + 213))))] ++ ((((((((((((((((((((((wNetI G (sa + 4) ++ wStoreI G (sa + 133)) ++ wStoreI G (sa + 147)) ++ wStoreI G (sa + 161)) ++ wAccI G (sa + 175)) ++ wAccI G (sa + 194)) ++ wAccI G (sa + 213)) ++ wLedI3 G (sa + 232)) ++ wLedI3 G (sa + 242)) ++ wLedI3 G (sa + 252)) ++ wLedI3 G (sa + 262)) ++ wLedI3 G (sa + 272)) ++ wLedI3 G (sa + 282)) ++ wLedI3 G (sa + 292)) ++ wLedI3 G (sa + 302)) ++ wLedI3 G (sa + 312)) ++ wLedI3 G (sa + 322)) ++ wLedI3 G (sa + 332)) ++ wLedI3 G (sa + 342)) ++ wLedI3 G (sa + 352)) ++ wLedI3 G (sa + 362)) ++ wLedI3 G (sa + 372)) ++ wLedI3 G (sa + 382))
theorem ls_PCI3 (G : GT) (sa : Nat) : ∀ q ∈ wPCI3 G sa, sa ≤ q.1 := by
  intro q hq
  unfold wPCI3 at hq
  rcases List.mem_append.mp hq with hq | hq
  · simp only [List.mem_cons, List.not_mem_nil, or_false] at hq
    rcases hq with rfl | rfl | rfl | rfl | rfl | rfl | rfl <;> simp
  · rcases List.mem_append.mp hq with hq | hq
    case inr => have := ls_LedI3 G (sa + 382) q hq; omega
    rcases List.mem_append.mp hq with hq | hq
    case inr => have := ls_LedI3 G (sa + 372) q hq; omega
    rcases List.mem_append.mp hq with hq | hq
    case inr => have := ls_LedI3 G (sa + 362) q hq; omega
    rcases List.mem_append.mp hq with hq | hq
    case inr => have := ls_LedI3 G (sa + 352) q hq; omega
    rcases List.mem_append.mp hq with hq | hq
    case inr => have := ls_LedI3 G (sa + 342) q hq; omega
    rcases List.mem_append.mp hq with hq | hq
    case inr => have := ls_LedI3 G (sa + 332) q hq; omega
    rcases List.mem_append.mp hq with hq | hq
    case inr => have := ls_LedI3 G (sa + 322) q hq; omega
    rcases List.mem_append.mp hq with hq | hq
    case inr => have := ls_LedI3 G (sa + 312) q hq; omega
    rcases List.mem_append.mp hq with hq | hq
    case inr => have := ls_LedI3 G (sa + 302) q hq; omega
    rcases List.mem_append.mp hq with hq | hq
    case inr => have := ls_LedI3 G (sa + 292) q hq; omega
    rcases List.mem_append.mp hq with hq | hq
    case inr => have := ls_LedI3 G (sa + 282) q hq; omega
    rcases List.mem_append.mp hq with hq | hq
    case inr => have := ls_LedI3 G (sa + 272) q hq; omega
    rcases List.mem_append.mp hq with hq | hq
    case inr => have := ls_LedI3 G (sa + 262) q hq; omega
    rcases List.mem_append.mp hq with hq | hq
    case inr => have := ls_LedI3 G (sa + 252) q hq; omega
    rcases List.mem_append.mp hq with hq | hq
    case inr => have := ls_LedI3 G (sa + 242) q hq; omega
    rcases List.mem_append.mp hq with hq | hq
    case inr => have := ls_LedI3 G (sa + 232) q hq; omega
    rcases List.mem_append.mp hq with hq | hq
    case inr => have := ls_AccI G (sa + 213) q hq; omega
    rcases List.mem_append.mp hq with hq | hq
    case inr => have := ls_AccI G (sa + 194) q hq; omega
    rcases List.mem_append.mp hq with hq | hq
    case inr => have := ls_AccI G (sa + 175) q hq; omega
    rcases List.mem_append.mp hq with hq | hq
    case inr => have := ls_StoreI G (sa + 161) q hq; omega
    rcases List.mem_append.mp hq with hq | hq
    case inr => have := ls_StoreI G (sa + 147) q hq; omega
    rcases List.mem_append.mp hq with hq | hq
    case inr => have := ls_StoreI G (sa + 133) q hq; omega
    have := ls_NetI G (sa + 4) q hq; omega
set_option maxHeartbeats 4000000 in
set_option maxRecDepth 100000 in
theorem h_PCI3 (l : Launch) (G : GT) (Hx : Heap) (sa : Nat) (f : Int32) (hf : ¬ f = 0) (hz0 : Array.size Hx = sa + 1) (hP : va_P G.1 gcl [(sa, .inr (iPC, [.null, .null, .null, .int (0), .null, .null, .null, .null, .int (0)]))] Hx) (hD : va_D (gAb G) [(sa, .inr (iPC, [.null, .null, .null, .int (0), .null, .null, .null, .null, .int (0)]))]) : Met l y_PC_init (.code y_PC_init b_PC_init 4 none :: WS) { frames := 3, cells := 391, slots := 1721, locals := 71 } (hPre G [.ref sa, .int (f)] (fun H9 => H9 = Hx)) (hQv G (fun H9 => va_P G.1 gcl (wPCI3 G sa) H9 ∧ va_D (fun q => sa ≤ q) (wPCI3 G sa) ∧ Array.size H9 = sa + 392)) 391 1721 (gAb G) := by
  refine h_startI (own := R_PC) (by decide +kernel) rfl (Nat.le_of_ble_eq_true rfl) ?_
  intro p e zs zm below meth zc ls hini C hI hl
  subst hI
  obtain ⟨hx, hb, hr, hml, hown, hts, hlk, hE, hbs⟩ := C
  have hK := hE.1
  have hl : lv_has ls 4 [(0, .ref sa), (1, .int (f))] := hl
  obtain ⟨locs, hlocs⟩ : ∃ l9 : List Loc, l9 = [] := ⟨_, rfl⟩
  rw [← hlocs]
  have hW : WW G zs.heap [(sa, .inr (iPC, [.null, .null, .null, .int (0), .null, .null, .null, .null, .int (0)]))] zs.heap locs := ⟨hP, hD, by rw [hlocs]; exact va_S.rf⟩
  refine lv_aload_n hx hb d_PC_init_0 rfl (lv_at hl 0 rfl) ?_
  refine h_oinit hx hb hown (hts _ kw_547) (hts _ kw_89) (hts _ kw_90) (by rw [hml]; exact hl.1) d_PC_init_1 (Nat.le_of_ble_eq_true rfl) (Nat.le_of_ble_eq_true rfl) ?_
  refine lv_aload_n hx hb d_PC_init_4 rfl (lv_at hl 0 rfl) ?_
  refine lv_iconst (v := 3) hx hb d_PC_init_5 (by decide) ?_
  refine W_sz (fun hzu => ?_)
  have hzl := (va_P_mem.mp hW.1 _ (List.mem_of_getElem? (i := 0) rfl)).lt
  have hz : Array.size zs.heap = sa + 1 := sz_eq hzu hz0 hzl rfl rfl
  refine h_anew (G := G) (C := R_Store) (t0 := 4) (N' := 3) hx hb hts hown kw_548 (List.mem_of_getElem? (i := 0) rfl) (List.mem_of_getElem? (i := 4) rfl) hE hW.2.2 (by decide) (by decide) (by decide) (Nat.le_of_ble_eq_true rfl) (Nat.le_of_ble_eq_true rfl) d_PC_init_6 (fun H ha9 hz9 hk9 hS9 => ?_)
  rw [hz] at ha9 ⊢
  have hW := WW_push2 hW hbs hz ha9 hk9 hS9
  have hW : WW G zs.heap [(sa, .inr (iPC, [.null, .null, .null, .int (0), .null, .null, .null, .null, .int (0)])), (sa + 1, aR (gC G 4) (3) (fun _ => none))] H locs := hW
  refine va_putF hx hb hts i_PC t_PC t_PC_ok n_PC hown hK hW.1 hW.2.1 hW.2.2 0 rfl rfl 0 (by decide) (hts _ kw_197) (fun _ h => h) rfl hini rfl (t_PC_ok 0 (by decide)) rfl rfl (Nat.le_of_ble_eq_true rfl) d_PC_init_9 (fun H locs h1 h2 h3 => ?_)
  have hW : WW G zs.heap [(sa, .inr (iPC, [.ref (sa + 1), .null, .null, .int (0), .null, .null, .null, .null, .int (0)])), (sa + 1, aR (gC G 4) (3) (fun _ => none))] H locs := ⟨h1, h2, h3⟩
  refine lv_aload_n hx hb d_PC_init_12 rfl (lv_at hl 0 rfl) ?_
  refine lv_bipush (v := 16) hx hb d_PC_init_13 (by decide) ?_
  refine W_sz (fun hzu => ?_)
  have hzl := (va_P_mem.mp hW.1 _ (List.mem_of_getElem? (i := 1) rfl)).lt
  have hz : Array.size H = sa + 2 := sz_eq hzu hz0 hzl rfl rfl
  refine h_anew (G := G) (C := R_Led) (t0 := 6) (N' := 16) hx hb hts hown kw_549 (List.mem_of_getElem? (i := 2) rfl) (List.mem_of_getElem? (i := 6) rfl) hE hW.2.2 (by decide) (by decide) (by decide) (Nat.le_of_ble_eq_true rfl) (Nat.le_of_ble_eq_true rfl) d_PC_init_15 (fun H ha9 hz9 hk9 hS9 => ?_)
  rw [hz] at ha9 ⊢
  have hW := WW_push2 hW hbs hz ha9 hk9 hS9
  have hW : WW G zs.heap [(sa, .inr (iPC, [.ref (sa + 1), .null, .null, .int (0), .null, .null, .null, .null, .int (0)])), (sa + 1, aR (gC G 4) (3) (fun _ => none)), (sa + 2, aR (gC G 6) (16) (fun _ => none))] H locs := hW
  refine va_putF hx hb hts i_PC t_PC t_PC_ok n_PC hown hK hW.1 hW.2.1 hW.2.2 0 rfl rfl 2 (by decide) (hts _ kw_195) (fun _ h => h) rfl hini rfl (t_PC_ok 2 (by decide)) rfl rfl (Nat.le_of_ble_eq_true rfl) d_PC_init_18 (fun H locs h1 h2 h3 => ?_)
  have hW : WW G zs.heap [(sa, .inr (iPC, [.ref (sa + 1), .null, .ref (sa + 2), .int (0), .null, .null, .null, .null, .int (0)])), (sa + 1, aR (gC G 4) (3) (fun _ => none)), (sa + 2, aR (gC G 6) (16) (fun _ => none))] H locs := ⟨h1, h2, h3⟩
  refine lv_aload_n hx hb d_PC_init_21 rfl (lv_at hl 0 rfl) ?_
  refine lv_iconst (v := 3) hx hb d_PC_init_22 (by decide) ?_
  refine W_sz (fun hzu => ?_)
  have hzl := (va_P_mem.mp hW.1 _ (List.mem_of_getElem? (i := 2) rfl)).lt
  have hz : Array.size H = sa + 3 := sz_eq hzu hz0 hzl rfl rfl
  refine h_newa (G := G) (atype := .int) (t0 := 0) (N' := 3) (a0 := (3, .inl (fun _ => 0))) hx hb hts kw_532 (List.mem_of_getElem? (i := 0) rfl) hE hW.2.2 (fun _ => by first | rfl | (rw [vp_cell_i]; rfl)) (by decide) (by decide) (by decide) (Nat.le_of_ble_eq_true rfl) (Nat.le_of_ble_eq_true rfl) d_PC_init_23 (fun H ha9 hz9 hk9 hS9 => ?_)
  rw [hz] at ha9 ⊢
  have hW := WW_push2 hW hbs hz ha9 hk9 hS9
  have hW : WW G zs.heap [(sa, .inr (iPC, [.ref (sa + 1), .null, .ref (sa + 2), .int (0), .null, .null, .null, .null, .int (0)])), (sa + 1, aR (gC G 4) (3) (fun _ => none)), (sa + 2, aR (gC G 6) (16) (fun _ => none)), (sa + 3, aI (gC G 0) (3) (fun _ => 0))] H locs := hW
  refine va_putF hx hb hts i_PC t_PC t_PC_ok n_PC hown hK hW.1 hW.2.1 hW.2.2 0 rfl rfl 4 (by decide) (hts _ kw_286) (fun _ h => h) rfl hini rfl (t_PC_ok 4 (by decide)) rfl rfl (Nat.le_of_ble_eq_true rfl) d_PC_init_25 (fun H locs h1 h2 h3 => ?_)
  have hW : WW G zs.heap [(sa, .inr (iPC, [.ref (sa + 1), .null, .ref (sa + 2), .int (0), .ref (sa + 3), .null, .null, .null, .int (0)])), (sa + 1, aR (gC G 4) (3) (fun _ => none)), (sa + 2, aR (gC G 6) (16) (fun _ => none)), (sa + 3, aI (gC G 0) (3) (fun _ => 0))] H locs := ⟨h1, h2, h3⟩
  refine lv_aload_n hx hb d_PC_init_28 rfl (lv_at hl 0 rfl) ?_
  refine W_sz (fun hzu => ?_)
  have hzl := (va_P_mem.mp hW.1 _ (List.mem_of_getElem? (i := 3) rfl)).lt
  have hz : Array.size H = sa + 4 := sz_eq hzu hz0 hzl rfl rfl
  have hlt0 := WW_lt hW
  rw [hz] at hlt0
  refine h_new (G := G) (fs := [.null, .int (0), .int (0), .null, .null]) hx hb hts i_Net t_Net t_Net_ok hown kw_550 kw_551 kw_212 hE hW.2.2 hbs (ci := iNet) rfl df_Net (Nat.le_of_ble_eq_true rfl) (Nat.le_of_ble_eq_true rfl) d_PC_init_29 (fun H ha9 hz9 hk9 hS9 => ?_)
  have hW := WW_keep hW hk9 hS9
  rw [hz] at ha9 hz9 ⊢
  refine lv_dup hx hb d_PC_init_32 rfl ?_
  obtain ⟨hP1, hD1⟩ := WW_one ha9
  have hgs : gbase G ≤ sa + 4 := gs_le hbs hz0 (by decide)
  refine h_cv (G := G) (h_runI (G := G) (G' := gB G (sa + 4)) (I := fun Hz => Hz = H) hx hb hml hown hts hE hW.2.2 hgs rfl (sz_le hz9) rfl (h_NetI l (gB G (sa + 4)) H (sa + 4) hz9 hP1 hD1) kw_554 kw_553 rfl kw_212 kw_552 rfl rfl hd_Net_init ⟨Nat.le_of_ble_eq_true rfl, Nat.le_of_ble_eq_true rfl⟩ (As := []) (rest := [.ref (sa + 4), .ref sa]) rfl hl.1 rfl (Nat.le_of_ble_eq_true rfl) d_PC_init_33 ⟨Nat.le_of_ble_eq_true rfl, Nat.le_of_ble_eq_true rfl⟩) hW.2.2 hgs (fun H9 locs hJ hq9 hk9 hS9 => ?_)
  obtain ⟨hJ1, hJ2, hJ3⟩ := hJ
  have hW := WW_block hW hlt0 hgs hk9 hJ1 hJ2 hS9
  generalize H9 = H at *
  obtain ⟨T_1, hT_1⟩ : ∃ t9 : va_W, t9 = wNetI G (sa + 4) := ⟨_, rfl⟩
  have hmT_1 : ∀ q ∈ wNetI G (sa + 4), q ∈ T_1 := fun q hq => by rw [hT_1]; exact hq
  have hW : WW G zs.heap ([(sa, .inr (iPC, [.ref (sa + 1), .null, .ref (sa + 2), .int (0), .ref (sa + 3), .null, .null, .null, .int (0)])), (sa + 1, aR (gC G 4) (3) (fun _ => none)), (sa + 2, aR (gC G 6) (16) (fun _ => none)), (sa + 3, aI (gC G 0) (3) (fun _ => 0))] ++ T_1) H locs := by rw [hT_1]; exact hW
  refine va_putF hx hb hts i_PC t_PC t_PC_ok n_PC hown hK hW.1 hW.2.1 hW.2.2 0 rfl rfl 5 (by decide) (hts _ kw_210) (fun _ h => h) rfl hini rfl (t_PC_ok 5 (by decide)) rfl rfl (Nat.le_of_ble_eq_true rfl) d_PC_init_36 (fun H locs h1 h2 h3 => ?_)
  have hW : WW G zs.heap ([(sa, .inr (iPC, [.ref (sa + 1), .null, .ref (sa + 2), .int (0), .ref (sa + 3), .ref (sa + 4), .null, .null, .int (0)])), (sa + 1, aR (gC G 4) (3) (fun _ => none)), (sa + 2, aR (gC G 6) (16) (fun _ => none)), (sa + 3, aI (gC G 0) (3) (fun _ => 0))] ++ T_1) H locs := ⟨h1, h2, h3⟩
  refine lv_aload_n hx hb d_PC_init_39 rfl (lv_at hl 0 rfl) ?_
  refine lv_bipush (v := 8) hx hb d_PC_init_40 (by decide) ?_
  refine W_sz (fun hzu => ?_)
  have hzl := (va_P_mem.mp hW.1 _ (show (sa + 129, _) ∈ ([(sa, .inr (iPC, [.ref (sa + 1), .null, .ref (sa + 2), .int (0), .ref (sa + 3), .ref (sa + 4), .null, .null, .int (0)])), (sa + 1, aR (gC G 4) (3) (fun _ => none)), (sa + 2, aR (gC G 6) (16) (fun _ => none)), (sa + 3, aI (gC G 0) (3) (fun _ => 0))] ++ T_1) from (List.mem_append_right _ (hmT_1 _ (last_NetI _ _))))).lt
  have hz : Array.size H = sa + 130 := sz_eq hzu hz0 hzl rfl rfl
  refine h_newa (G := G) (atype := .int) (t0 := 0) (N' := 8) (a0 := (8, .inl (fun _ => 0))) hx hb hts kw_532 (List.mem_of_getElem? (i := 0) rfl) hE hW.2.2 (fun _ => by first | rfl | (rw [vp_cell_i]; rfl)) (by decide) (by decide) (by decide) (Nat.le_of_ble_eq_true rfl) (Nat.le_of_ble_eq_true rfl) d_PC_init_42 (fun H ha9 hz9 hk9 hS9 => ?_)
  rw [hz] at ha9 ⊢
  have hW := WW_push2 hW hbs hz ha9 hk9 hS9
  have hW : WW G zs.heap ([(sa, .inr (iPC, [.ref (sa + 1), .null, .ref (sa + 2), .int (0), .ref (sa + 3), .ref (sa + 4), .null, .null, .int (0)])), (sa + 1, aR (gC G 4) (3) (fun _ => none)), (sa + 2, aR (gC G 6) (16) (fun _ => none)), (sa + 3, aI (gC G 0) (3) (fun _ => 0)), (sa + 130, aI (gC G 0) (8) (fun _ => 0))] ++ T_1) H locs := WW_perm (pm_push [(sa, .inr (iPC, [.ref (sa + 1), .null, .ref (sa + 2), .int (0), .ref (sa + 3), .ref (sa + 4), .null, .null, .int (0)])), (sa + 1, aR (gC G 4) (3) (fun _ => none)), (sa + 2, aR (gC G 6) (16) (fun _ => none)), (sa + 3, aI (gC G 0) (3) (fun _ => 0))] _ _) hW
  refine va_putF hx hb hts i_PC t_PC t_PC_ok n_PC hown hK hW.1 hW.2.1 hW.2.2 0 rfl rfl 6 (by decide) (hts _ kw_220) (fun _ h => h) rfl hini rfl (t_PC_ok 6 (by decide)) rfl rfl (Nat.le_of_ble_eq_true rfl) d_PC_init_44 (fun H locs h1 h2 h3 => ?_)
  have hW : WW G zs.heap ([(sa, .inr (iPC, [.ref (sa + 1), .null, .ref (sa + 2), .int (0), .ref (sa + 3), .ref (sa + 4), .ref (sa + 130), .null, .int (0)])), (sa + 1, aR (gC G 4) (3) (fun _ => none)), (sa + 2, aR (gC G 6) (16) (fun _ => none)), (sa + 3, aI (gC G 0) (3) (fun _ => 0)), (sa + 130, aI (gC G 0) (8) (fun _ => 0))] ++ T_1) H locs := ⟨h1, h2, h3⟩
  refine lv_aload_n hx hb d_PC_init_47 rfl (lv_at hl 0 rfl) ?_
  refine lv_bipush (v := 8) hx hb d_PC_init_48 (by decide) ?_
  refine W_sz (fun hzu => ?_)
  have hzl := (va_P_mem.mp hW.1 _ (List.mem_of_getElem? (i := 4) rfl)).lt
  have hz : Array.size H = sa + 131 := sz_eq hzu hz0 hzl rfl rfl
  refine h_newa (G := G) (atype := .boolean) (t0 := 1) (N' := 8) (a0 := (8, .inl (fun _ => 0))) hx hb hts kw_540 (List.mem_of_getElem? (i := 1) rfl) hE hW.2.2 (fun _ => by first | rfl | (rw [vp_cell_i]; rfl)) (by decide) (by decide) (by decide) (Nat.le_of_ble_eq_true rfl) (Nat.le_of_ble_eq_true rfl) d_PC_init_50 (fun H ha9 hz9 hk9 hS9 => ?_)
  rw [hz] at ha9 ⊢
  have hW := WW_push2 hW hbs hz ha9 hk9 hS9
  have hW : WW G zs.heap ([(sa, .inr (iPC, [.ref (sa + 1), .null, .ref (sa + 2), .int (0), .ref (sa + 3), .ref (sa + 4), .ref (sa + 130), .null, .int (0)])), (sa + 1, aR (gC G 4) (3) (fun _ => none)), (sa + 2, aR (gC G 6) (16) (fun _ => none)), (sa + 3, aI (gC G 0) (3) (fun _ => 0)), (sa + 130, aI (gC G 0) (8) (fun _ => 0)), (sa + 131, aI (gC G 1) (8) (fun _ => 0))] ++ T_1) H locs := WW_perm (pm_push [(sa, .inr (iPC, [.ref (sa + 1), .null, .ref (sa + 2), .int (0), .ref (sa + 3), .ref (sa + 4), .ref (sa + 130), .null, .int (0)])), (sa + 1, aR (gC G 4) (3) (fun _ => none)), (sa + 2, aR (gC G 6) (16) (fun _ => none)), (sa + 3, aI (gC G 0) (3) (fun _ => 0)), (sa + 130, aI (gC G 0) (8) (fun _ => 0))] _ _) hW
  refine va_putF hx hb hts i_PC t_PC t_PC_ok n_PC hown hK hW.1 hW.2.1 hW.2.2 0 rfl rfl 7 (by decide) (hts _ kw_338) (fun _ h => h) rfl hini rfl (t_PC_ok 7 (by decide)) rfl rfl (Nat.le_of_ble_eq_true rfl) d_PC_init_52 (fun H locs h1 h2 h3 => ?_)
  have hW : WW G zs.heap ([(sa, .inr (iPC, [.ref (sa + 1), .null, .ref (sa + 2), .int (0), .ref (sa + 3), .ref (sa + 4), .ref (sa + 130), .ref (sa + 131), .int (0)])), (sa + 1, aR (gC G 4) (3) (fun _ => none)), (sa + 2, aR (gC G 6) (16) (fun _ => none)), (sa + 3, aI (gC G 0) (3) (fun _ => 0)), (sa + 130, aI (gC G 0) (8) (fun _ => 0)), (sa + 131, aI (gC G 1) (8) (fun _ => 0))] ++ T_1) H locs := ⟨h1, h2, h3⟩
  refine lv_aload_n hx hb d_PC_init_55 rfl (lv_at hl 0 rfl) ?_
  refine lv_iconst (v := 0) hx hb d_PC_init_56 (by decide) ?_
  refine va_put hx hb hts i_PC t_PC t_PC_ok n_PC hown hK hW.1 hW.2.1 hW.2.2 0 rfl rfl 8 (by decide) (hts _ kw_318) (fun _ h => h) rfl (t_PC_ok 8 (by decide)) rfl rfl (Nat.le_of_ble_eq_true rfl) d_PC_init_57 (fun H locs h1 h2 h3 => ?_)
  have hW : WW G zs.heap ([(sa, .inr (iPC, [.ref (sa + 1), .null, .ref (sa + 2), .int (0), .ref (sa + 3), .ref (sa + 4), .ref (sa + 130), .ref (sa + 131), .int (0)])), (sa + 1, aR (gC G 4) (3) (fun _ => none)), (sa + 2, aR (gC G 6) (16) (fun _ => none)), (sa + 3, aI (gC G 0) (3) (fun _ => 0)), (sa + 130, aI (gC G 0) (8) (fun _ => 0)), (sa + 131, aI (gC G 1) (8) (fun _ => 0))] ++ T_1) H locs := ⟨h1, h2, h3⟩
  refine lv_iload_n hx hb d_PC_init_60 rfl (lv_at hl 1 rfl) ?_
  refine lv_if_ne (tgt := 68) hx hb d_PC_init_61 (by decide) (fun c_2 => ?_) (fun c_2 => ?_)
  · skip
    refine lv_iconst (v := 3) hx hb d_PC_init_68 (by decide) ?_
    refine lv_istore_n (lv' := [(2, .int (3)), (0, .ref sa), (1, .int (f))]) hx hb d_PC_init_69 rfl hl (by decide) rfl (fun ls hl => ?_)
    refine lv_aload_n hx hb d_PC_init_70 rfl (lv_at hl 1 rfl) ?_
    refine lv_iload_n hx hb d_PC_init_71 rfl (lv_at hl 2 rfl) ?_
    refine lv_if_ne (tgt := 79) hx hb d_PC_init_72 (by decide) (fun c_3 => ?_) (fun c_3 => ?_)
    · skip
      refine lv_iconst (v := 2) hx hb d_PC_init_79 (by decide) ?_
      refine va_putF hx hb hts i_PC t_PC t_PC_ok n_PC hown hK hW.1 hW.2.1 hW.2.2 0 rfl rfl 3 (by decide) (hts _ kw_269) (fun _ h => h) rfl hini rfl (t_PC_ok 3 (by decide)) rfl rfl (Nat.le_of_ble_eq_true rfl) d_PC_init_80 (fun H locs h1 h2 h3 => ?_)
      have hW : WW G zs.heap ([(sa, .inr (iPC, [.ref (sa + 1), .null, .ref (sa + 2), .int (2), .ref (sa + 3), .ref (sa + 4), .ref (sa + 130), .ref (sa + 131), .int (0)])), (sa + 1, aR (gC G 4) (3) (fun _ => none)), (sa + 2, aR (gC G 6) (16) (fun _ => none)), (sa + 3, aI (gC G 0) (3) (fun _ => 0)), (sa + 130, aI (gC G 0) (8) (fun _ => 0)), (sa + 131, aI (gC G 1) (8) (fun _ => 0))] ++ T_1) H locs := ⟨h1, h2, h3⟩
      refine lv_aload_n hx hb d_PC_init_83 rfl (lv_at hl 1 rfl) ?_
      refine lv_iload_n hx hb d_PC_init_84 rfl (lv_at hl 0 rfl) ?_
      refine W_sz (fun hzu => ?_)
      have hzl := (va_P_mem.mp hW.1 _ (List.mem_of_getElem? (i := 5) rfl)).lt
      have hz : Array.size H = sa + 132 := sz_eq hzu hz0 hzl rfl rfl
      refine h_anew (G := G) (C := R_Acc) (t0 := 5) (N' := 3) hx hb hts hown kw_555 (List.mem_of_getElem? (i := 1) rfl) (List.mem_of_getElem? (i := 5) rfl) hE hW.2.2 (by decide) (by decide) (by decide) (Nat.le_of_ble_eq_true rfl) (Nat.le_of_ble_eq_true rfl) d_PC_init_85 (fun H ha9 hz9 hk9 hS9 => ?_)
      rw [hz] at ha9 ⊢
      have hW := WW_push2 hW hbs hz ha9 hk9 hS9
      have hW : WW G zs.heap ([(sa, .inr (iPC, [.ref (sa + 1), .null, .ref (sa + 2), .int (2), .ref (sa + 3), .ref (sa + 4), .ref (sa + 130), .ref (sa + 131), .int (0)])), (sa + 1, aR (gC G 4) (3) (fun _ => none)), (sa + 2, aR (gC G 6) (16) (fun _ => none)), (sa + 3, aI (gC G 0) (3) (fun _ => 0)), (sa + 130, aI (gC G 0) (8) (fun _ => 0)), (sa + 131, aI (gC G 1) (8) (fun _ => 0)), (sa + 132, aR (gC G 5) (3) (fun _ => none))] ++ T_1) H locs := WW_perm (pm_push [(sa, .inr (iPC, [.ref (sa + 1), .null, .ref (sa + 2), .int (2), .ref (sa + 3), .ref (sa + 4), .ref (sa + 130), .ref (sa + 131), .int (0)])), (sa + 1, aR (gC G 4) (3) (fun _ => none)), (sa + 2, aR (gC G 6) (16) (fun _ => none)), (sa + 3, aI (gC G 0) (3) (fun _ => 0)), (sa + 130, aI (gC G 0) (8) (fun _ => 0)), (sa + 131, aI (gC G 1) (8) (fun _ => 0))] _ _) hW
      refine va_putF hx hb hts i_PC t_PC t_PC_ok n_PC hown hK hW.1 hW.2.1 hW.2.2 0 rfl rfl 1 (by decide) (hts _ kw_196) (fun _ h => h) rfl hini rfl (t_PC_ok 1 (by decide)) rfl rfl (Nat.le_of_ble_eq_true rfl) d_PC_init_88 (fun H locs h1 h2 h3 => ?_)
      have hW : WW G zs.heap ([(sa, .inr (iPC, [.ref (sa + 1), .ref (sa + 132), .ref (sa + 2), .int (2), .ref (sa + 3), .ref (sa + 4), .ref (sa + 130), .ref (sa + 131), .int (0)])), (sa + 1, aR (gC G 4) (3) (fun _ => none)), (sa + 2, aR (gC G 6) (16) (fun _ => none)), (sa + 3, aI (gC G 0) (3) (fun _ => 0)), (sa + 130, aI (gC G 0) (8) (fun _ => 0)), (sa + 131, aI (gC G 1) (8) (fun _ => 0)), (sa + 132, aR (gC G 5) (3) (fun _ => none))] ++ T_1) H locs := ⟨h1, h2, h3⟩
      refine lv_iconst (v := 0) hx hb d_PC_init_91 (by decide) ?_
      refine lv_istore_n (lv' := [(3, .int (0)), (2, .int (3)), (0, .ref sa), (1, .int (f))]) hx hb d_PC_init_92 rfl hl (by decide) rfl (fun ls hl => ?_)
      refine lv_iload_n hx hb d_PC_init_93 rfl (lv_at hl 0 rfl) ?_
      refine lv_iconst (v := 3) hx hb d_PC_init_94 (by decide) ?_
      refine lv_icmp_ge (tgt := 117) hx hb d_PC_init_95 (by decide) (fun c_4 => ?_) (fun c_4 => ?_)
      · exact absurd c_4 (by decide)
      · skip
        refine lv_aload_n hx hb d_PC_init_98 rfl (lv_at hl 2 rfl) ?_
        refine va_get (v := .ref (sa + 1)) hx hb hts i_PC hown hK hW.1 0 rfl rfl 0 (by decide) (hts _ kw_197) (fun _ h => h) rfl d_PC_init_99 ?_
        refine lv_iload_n hx hb d_PC_init_102 rfl (lv_at hl 0 rfl) ?_
        refine W_sz (fun hzu => ?_)
        have hzl := (va_P_mem.mp hW.1 _ (List.mem_of_getElem? (i := 6) rfl)).lt
        have hz : Array.size H = sa + 133 := sz_eq hzu hz0 hzl rfl rfl
        have hlt0 := WW_lt hW
        rw [hz] at hlt0
        refine h_new (G := G) (fs := [.null, .null, .null, .null, .null]) hx hb hts i_Store t_Store t_Store_ok hown kw_548 kw_556 kw_137 hE hW.2.2 hbs (ci := iStore) rfl df_Store (Nat.le_of_ble_eq_true rfl) (Nat.le_of_ble_eq_true rfl) d_PC_init_103 (fun H ha9 hz9 hk9 hS9 => ?_)
        have hW := WW_keep hW hk9 hS9
        rw [hz] at ha9 hz9 ⊢
        refine lv_dup hx hb d_PC_init_106 rfl ?_
        obtain ⟨hP1, hD1⟩ := WW_one ha9
        have hgs : gbase G ≤ sa + 133 := gs_le hbs hz0 (by decide)
        refine h_cv (G := G) (h_runI (G := G) (G' := gB G (sa + 133)) (I := fun Hz => Hz = H) hx hb hml hown hts hE hW.2.2 hgs rfl (sz_le hz9) rfl (h_StoreI l (gB G (sa + 133)) H (sa + 133) hz9 hP1 hD1) kw_559 kw_558 rfl kw_137 kw_557 rfl rfl hd_Store_init ⟨Nat.le_of_ble_eq_true rfl, Nat.le_of_ble_eq_true rfl⟩ (As := []) (rest := [.ref (sa + 133), .int (0), .ref (sa + 1)]) rfl hl.1 rfl (Nat.le_of_ble_eq_true rfl) d_PC_init_107 ⟨Nat.le_of_ble_eq_true rfl, Nat.le_of_ble_eq_true rfl⟩) hW.2.2 hgs (fun H9 locs hJ hq9 hk9 hS9 => ?_)
        obtain ⟨hJ1, hJ2, hJ3⟩ := hJ
        have hW := WW_block hW hlt0 hgs hk9 hJ1 hJ2 hS9
        generalize H9 = H at *
        obtain ⟨T_5, hT_5⟩ : ∃ t9 : va_W, t9 = T_1 ++ wStoreI G (sa + 133) := ⟨_, rfl⟩
        have hmT_5 : ∀ q ∈ wStoreI G (sa + 133), q ∈ T_5 := fun q hq => by rw [hT_5]; exact List.mem_append_right _ hq
        have hW : WW G zs.heap ([(sa, .inr (iPC, [.ref (sa + 1), .ref (sa + 132), .ref (sa + 2), .int (2), .ref (sa + 3), .ref (sa + 4), .ref (sa + 130), .ref (sa + 131), .int (0)])), (sa + 1, aR (gC G 4) (3) (fun _ => none)), (sa + 2, aR (gC G 6) (16) (fun _ => none)), (sa + 3, aI (gC G 0) (3) (fun _ => 0)), (sa + 130, aI (gC G 0) (8) (fun _ => 0)), (sa + 131, aI (gC G 1) (8) (fun _ => 0)), (sa + 132, aR (gC G 5) (3) (fun _ => none))] ++ T_5) H locs := by rw [hT_5, ← List.append_assoc]; exact hW
        obtain ⟨qk, hqk⟩ := List.getElem?_of_mem (show (sa + 133, _) ∈ ([(sa, .inr (iPC, [.ref (sa + 1), .ref (sa + 132), .ref (sa + 2), .int (2), .ref (sa + 3), .ref (sa + 4), .ref (sa + 130), .ref (sa + 131), .int (0)])), (sa + 1, aR (gC G 4) (3) (fun _ => none)), (sa + 2, aR (gC G 6) (16) (fun _ => none)), (sa + 3, aI (gC G 0) (3) (fun _ => 0)), (sa + 130, aI (gC G 0) (8) (fun _ => 0)), (sa + 131, aI (gC G 1) (8) (fun _ => 0)), (sa + 132, aR (gC G 5) (3) (fun _ => none))] ++ T_5) from (List.mem_append_right _ (hmT_5 _ (List.mem_of_getElem? (i := 0) rfl))))
        refine va_astq hx hb hK hW.1 hW.2.1 hW.2.2 1 4 qk iStore (r := (R_Store, T_Store, 5)) (n := 3) (f := fun _ => none) rfl rfl hqk rfl (vp_in_nI (n := 0) (by decide) (by decide)) d_PC_init_110 (fun H locs h1 h2 h3 => ?_)
        rw [show (0 : Int32).toNatClampNeg = 0 by decide] at h1 h2
        have hW : WW G zs.heap ([(sa, .inr (iPC, [.ref (sa + 1), .ref (sa + 132), .ref (sa + 2), .int (2), .ref (sa + 3), .ref (sa + 4), .ref (sa + 130), .ref (sa + 131), .int (0)])), (sa + 1, aR (gC G 4) (3) (va_up (fun _ => none) 0 (some (sa + 133)))), (sa + 2, aR (gC G 6) (16) (fun _ => none)), (sa + 3, aI (gC G 0) (3) (fun _ => 0)), (sa + 130, aI (gC G 0) (8) (fun _ => 0)), (sa + 131, aI (gC G 1) (8) (fun _ => 0)), (sa + 132, aR (gC G 5) (3) (fun _ => none))] ++ T_5) H locs := ⟨h1, h2, h3⟩
        refine lv_iinc (v := 1) (lv' := [(3, .int (1)), (2, .int (3)), (0, .ref sa), (1, .int (f))]) hx hb d_PC_init_111 hl (k := 0) rfl (by decide) (by decide) rfl (fun ls hl => ?_)
        refine lv_goto (tgt := 93) hx hb d_PC_init_114 (by decide) ?_
        refine lv_iload_n hx hb d_PC_init_93 rfl (lv_at hl 0 rfl) ?_
        refine lv_iconst (v := 3) hx hb d_PC_init_94 (by decide) ?_
        refine lv_icmp_ge (tgt := 117) hx hb d_PC_init_95 (by decide) (fun c_6 => ?_) (fun c_6 => ?_)
        · exact absurd c_6 (by decide)
        · skip
          refine lv_aload_n hx hb d_PC_init_98 rfl (lv_at hl 2 rfl) ?_
          refine va_get (v := .ref (sa + 1)) hx hb hts i_PC hown hK hW.1 0 rfl rfl 0 (by decide) (hts _ kw_197) (fun _ h => h) rfl d_PC_init_99 ?_
          refine lv_iload_n hx hb d_PC_init_102 rfl (lv_at hl 0 rfl) ?_
          refine W_sz (fun hzu => ?_)
          have hzl := (va_P_mem.mp hW.1 _ (show (sa + 146, _) ∈ ([(sa, .inr (iPC, [.ref (sa + 1), .ref (sa + 132), .ref (sa + 2), .int (2), .ref (sa + 3), .ref (sa + 4), .ref (sa + 130), .ref (sa + 131), .int (0)])), (sa + 1, aR (gC G 4) (3) (va_up (fun _ => none) 0 (some (sa + 133)))), (sa + 2, aR (gC G 6) (16) (fun _ => none)), (sa + 3, aI (gC G 0) (3) (fun _ => 0)), (sa + 130, aI (gC G 0) (8) (fun _ => 0)), (sa + 131, aI (gC G 1) (8) (fun _ => 0)), (sa + 132, aR (gC G 5) (3) (fun _ => none))] ++ T_5) from (List.mem_append_right _ (hmT_5 _ (List.mem_of_getElem? (i := 13) rfl))))).lt
          have hz : Array.size H = sa + 147 := sz_eq hzu hz0 hzl rfl rfl
          have hlt0 := WW_lt hW
          rw [hz] at hlt0
          refine h_new (G := G) (fs := [.null, .null, .null, .null, .null]) hx hb hts i_Store t_Store t_Store_ok hown kw_548 kw_556 kw_137 hE hW.2.2 hbs (ci := iStore) rfl df_Store (Nat.le_of_ble_eq_true rfl) (Nat.le_of_ble_eq_true rfl) d_PC_init_103 (fun H ha9 hz9 hk9 hS9 => ?_)
          have hW := WW_keep hW hk9 hS9
          rw [hz] at ha9 hz9 ⊢
          refine lv_dup hx hb d_PC_init_106 rfl ?_
          obtain ⟨hP1, hD1⟩ := WW_one ha9
          have hgs : gbase G ≤ sa + 147 := gs_le hbs hz0 (by decide)
          refine h_cv (G := G) (h_runI (G := G) (G' := gB G (sa + 147)) (I := fun Hz => Hz = H) hx hb hml hown hts hE hW.2.2 hgs rfl (sz_le hz9) rfl (h_StoreI l (gB G (sa + 147)) H (sa + 147) hz9 hP1 hD1) kw_559 kw_558 rfl kw_137 kw_557 rfl rfl hd_Store_init ⟨Nat.le_of_ble_eq_true rfl, Nat.le_of_ble_eq_true rfl⟩ (As := []) (rest := [.ref (sa + 147), .int (1), .ref (sa + 1)]) rfl hl.1 rfl (Nat.le_of_ble_eq_true rfl) d_PC_init_107 ⟨Nat.le_of_ble_eq_true rfl, Nat.le_of_ble_eq_true rfl⟩) hW.2.2 hgs (fun H9 locs hJ hq9 hk9 hS9 => ?_)
          obtain ⟨hJ1, hJ2, hJ3⟩ := hJ
          have hW := WW_block hW hlt0 hgs hk9 hJ1 hJ2 hS9
          generalize H9 = H at *
          obtain ⟨T_7, hT_7⟩ : ∃ t9 : va_W, t9 = T_5 ++ wStoreI G (sa + 147) := ⟨_, rfl⟩
          have hmT_7 : ∀ q ∈ wStoreI G (sa + 147), q ∈ T_7 := fun q hq => by rw [hT_7]; exact List.mem_append_right _ hq
          have hW : WW G zs.heap ([(sa, .inr (iPC, [.ref (sa + 1), .ref (sa + 132), .ref (sa + 2), .int (2), .ref (sa + 3), .ref (sa + 4), .ref (sa + 130), .ref (sa + 131), .int (0)])), (sa + 1, aR (gC G 4) (3) (va_up (fun _ => none) 0 (some (sa + 133)))), (sa + 2, aR (gC G 6) (16) (fun _ => none)), (sa + 3, aI (gC G 0) (3) (fun _ => 0)), (sa + 130, aI (gC G 0) (8) (fun _ => 0)), (sa + 131, aI (gC G 1) (8) (fun _ => 0)), (sa + 132, aR (gC G 5) (3) (fun _ => none))] ++ T_7) H locs := by rw [hT_7, ← List.append_assoc]; exact hW
          obtain ⟨qk, hqk⟩ := List.getElem?_of_mem (show (sa + 147, _) ∈ ([(sa, .inr (iPC, [.ref (sa + 1), .ref (sa + 132), .ref (sa + 2), .int (2), .ref (sa + 3), .ref (sa + 4), .ref (sa + 130), .ref (sa + 131), .int (0)])), (sa + 1, aR (gC G 4) (3) (va_up (fun _ => none) 0 (some (sa + 133)))), (sa + 2, aR (gC G 6) (16) (fun _ => none)), (sa + 3, aI (gC G 0) (3) (fun _ => 0)), (sa + 130, aI (gC G 0) (8) (fun _ => 0)), (sa + 131, aI (gC G 1) (8) (fun _ => 0)), (sa + 132, aR (gC G 5) (3) (fun _ => none))] ++ T_7) from (List.mem_append_right _ (hmT_7 _ (List.mem_of_getElem? (i := 0) rfl))))
          refine va_astq hx hb hK hW.1 hW.2.1 hW.2.2 1 4 qk iStore (r := (R_Store, T_Store, 5)) (n := 3) (f := va_up (fun _ => none) 0 (some (sa + 133))) rfl rfl hqk rfl (vp_in_nI (n := 1) (by decide) (by decide)) d_PC_init_110 (fun H locs h1 h2 h3 => ?_)
          rw [show (1 : Int32).toNatClampNeg = 1 by decide] at h1 h2
          have hW : WW G zs.heap ([(sa, .inr (iPC, [.ref (sa + 1), .ref (sa + 132), .ref (sa + 2), .int (2), .ref (sa + 3), .ref (sa + 4), .ref (sa + 130), .ref (sa + 131), .int (0)])), (sa + 1, aR (gC G 4) (3) (va_up (va_up (fun _ => none) 0 (some (sa + 133))) 1 (some (sa + 147)))), (sa + 2, aR (gC G 6) (16) (fun _ => none)), (sa + 3, aI (gC G 0) (3) (fun _ => 0)), (sa + 130, aI (gC G 0) (8) (fun _ => 0)), (sa + 131, aI (gC G 1) (8) (fun _ => 0)), (sa + 132, aR (gC G 5) (3) (fun _ => none))] ++ T_7) H locs := ⟨h1, h2, h3⟩
          refine lv_iinc (v := 2) (lv' := [(3, .int (2)), (2, .int (3)), (0, .ref sa), (1, .int (f))]) hx hb d_PC_init_111 hl (k := 0) rfl (by decide) (by decide) rfl (fun ls hl => ?_)
          refine lv_goto (tgt := 93) hx hb d_PC_init_114 (by decide) ?_
          refine lv_iload_n hx hb d_PC_init_93 rfl (lv_at hl 0 rfl) ?_
          refine lv_iconst (v := 3) hx hb d_PC_init_94 (by decide) ?_
          refine lv_icmp_ge (tgt := 117) hx hb d_PC_init_95 (by decide) (fun c_8 => ?_) (fun c_8 => ?_)
          · exact absurd c_8 (by decide)
          · skip
            refine lv_aload_n hx hb d_PC_init_98 rfl (lv_at hl 2 rfl) ?_
            refine va_get (v := .ref (sa + 1)) hx hb hts i_PC hown hK hW.1 0 rfl rfl 0 (by decide) (hts _ kw_197) (fun _ h => h) rfl d_PC_init_99 ?_
            refine lv_iload_n hx hb d_PC_init_102 rfl (lv_at hl 0 rfl) ?_
            refine W_sz (fun hzu => ?_)
            have hzl := (va_P_mem.mp hW.1 _ (show (sa + 160, _) ∈ ([(sa, .inr (iPC, [.ref (sa + 1), .ref (sa + 132), .ref (sa + 2), .int (2), .ref (sa + 3), .ref (sa + 4), .ref (sa + 130), .ref (sa + 131), .int (0)])), (sa + 1, aR (gC G 4) (3) (va_up (va_up (fun _ => none) 0 (some (sa + 133))) 1 (some (sa + 147)))), (sa + 2, aR (gC G 6) (16) (fun _ => none)), (sa + 3, aI (gC G 0) (3) (fun _ => 0)), (sa + 130, aI (gC G 0) (8) (fun _ => 0)), (sa + 131, aI (gC G 1) (8) (fun _ => 0)), (sa + 132, aR (gC G 5) (3) (fun _ => none))] ++ T_7) from (List.mem_append_right _ (hmT_7 _ (List.mem_of_getElem? (i := 13) rfl))))).lt
            have hz : Array.size H = sa + 161 := sz_eq hzu hz0 hzl rfl rfl
            have hlt0 := WW_lt hW
            rw [hz] at hlt0
            refine h_new (G := G) (fs := [.null, .null, .null, .null, .null]) hx hb hts i_Store t_Store t_Store_ok hown kw_548 kw_556 kw_137 hE hW.2.2 hbs (ci := iStore) rfl df_Store (Nat.le_of_ble_eq_true rfl) (Nat.le_of_ble_eq_true rfl) d_PC_init_103 (fun H ha9 hz9 hk9 hS9 => ?_)
            have hW := WW_keep hW hk9 hS9
            rw [hz] at ha9 hz9 ⊢
            refine lv_dup hx hb d_PC_init_106 rfl ?_
            obtain ⟨hP1, hD1⟩ := WW_one ha9
            have hgs : gbase G ≤ sa + 161 := gs_le hbs hz0 (by decide)
            refine h_cv (G := G) (h_runI (G := G) (G' := gB G (sa + 161)) (I := fun Hz => Hz = H) hx hb hml hown hts hE hW.2.2 hgs rfl (sz_le hz9) rfl (h_StoreI l (gB G (sa + 161)) H (sa + 161) hz9 hP1 hD1) kw_559 kw_558 rfl kw_137 kw_557 rfl rfl hd_Store_init ⟨Nat.le_of_ble_eq_true rfl, Nat.le_of_ble_eq_true rfl⟩ (As := []) (rest := [.ref (sa + 161), .int (2), .ref (sa + 1)]) rfl hl.1 rfl (Nat.le_of_ble_eq_true rfl) d_PC_init_107 ⟨Nat.le_of_ble_eq_true rfl, Nat.le_of_ble_eq_true rfl⟩) hW.2.2 hgs (fun H9 locs hJ hq9 hk9 hS9 => ?_)
            obtain ⟨hJ1, hJ2, hJ3⟩ := hJ
            have hW := WW_block hW hlt0 hgs hk9 hJ1 hJ2 hS9
            generalize H9 = H at *
            obtain ⟨T_9, hT_9⟩ : ∃ t9 : va_W, t9 = T_7 ++ wStoreI G (sa + 161) := ⟨_, rfl⟩
            have hmT_9 : ∀ q ∈ wStoreI G (sa + 161), q ∈ T_9 := fun q hq => by rw [hT_9]; exact List.mem_append_right _ hq
            have hW : WW G zs.heap ([(sa, .inr (iPC, [.ref (sa + 1), .ref (sa + 132), .ref (sa + 2), .int (2), .ref (sa + 3), .ref (sa + 4), .ref (sa + 130), .ref (sa + 131), .int (0)])), (sa + 1, aR (gC G 4) (3) (va_up (va_up (fun _ => none) 0 (some (sa + 133))) 1 (some (sa + 147)))), (sa + 2, aR (gC G 6) (16) (fun _ => none)), (sa + 3, aI (gC G 0) (3) (fun _ => 0)), (sa + 130, aI (gC G 0) (8) (fun _ => 0)), (sa + 131, aI (gC G 1) (8) (fun _ => 0)), (sa + 132, aR (gC G 5) (3) (fun _ => none))] ++ T_9) H locs := by rw [hT_9, ← List.append_assoc]; exact hW
            obtain ⟨qk, hqk⟩ := List.getElem?_of_mem (show (sa + 161, _) ∈ ([(sa, .inr (iPC, [.ref (sa + 1), .ref (sa + 132), .ref (sa + 2), .int (2), .ref (sa + 3), .ref (sa + 4), .ref (sa + 130), .ref (sa + 131), .int (0)])), (sa + 1, aR (gC G 4) (3) (va_up (va_up (fun _ => none) 0 (some (sa + 133))) 1 (some (sa + 147)))), (sa + 2, aR (gC G 6) (16) (fun _ => none)), (sa + 3, aI (gC G 0) (3) (fun _ => 0)), (sa + 130, aI (gC G 0) (8) (fun _ => 0)), (sa + 131, aI (gC G 1) (8) (fun _ => 0)), (sa + 132, aR (gC G 5) (3) (fun _ => none))] ++ T_9) from (List.mem_append_right _ (hmT_9 _ (List.mem_of_getElem? (i := 0) rfl))))
            refine va_astq hx hb hK hW.1 hW.2.1 hW.2.2 1 4 qk iStore (r := (R_Store, T_Store, 5)) (n := 3) (f := va_up (va_up (fun _ => none) 0 (some (sa + 133))) 1 (some (sa + 147))) rfl rfl hqk rfl (vp_in_nI (n := 2) (by decide) (by decide)) d_PC_init_110 (fun H locs h1 h2 h3 => ?_)
            rw [show (2 : Int32).toNatClampNeg = 2 by decide] at h1 h2
            have hW : WW G zs.heap ([(sa, .inr (iPC, [.ref (sa + 1), .ref (sa + 132), .ref (sa + 2), .int (2), .ref (sa + 3), .ref (sa + 4), .ref (sa + 130), .ref (sa + 131), .int (0)])), (sa + 1, aR (gC G 4) (3) (va_up (va_up (va_up (fun _ => none) 0 (some (sa + 133))) 1 (some (sa + 147))) 2 (some (sa + 161)))), (sa + 2, aR (gC G 6) (16) (fun _ => none)), (sa + 3, aI (gC G 0) (3) (fun _ => 0)), (sa + 130, aI (gC G 0) (8) (fun _ => 0)), (sa + 131, aI (gC G 1) (8) (fun _ => 0)), (sa + 132, aR (gC G 5) (3) (fun _ => none))] ++ T_9) H locs := ⟨h1, h2, h3⟩
            refine lv_iinc (v := 3) (lv' := [(3, .int (3)), (2, .int (3)), (0, .ref sa), (1, .int (f))]) hx hb d_PC_init_111 hl (k := 0) rfl (by decide) (by decide) rfl (fun ls hl => ?_)
            refine lv_goto (tgt := 93) hx hb d_PC_init_114 (by decide) ?_
            refine lv_iload_n hx hb d_PC_init_93 rfl (lv_at hl 0 rfl) ?_
            refine lv_iconst (v := 3) hx hb d_PC_init_94 (by decide) ?_
            refine lv_icmp_ge (tgt := 117) hx hb d_PC_init_95 (by decide) (fun c_10 => ?_) (fun c_10 => ?_)
            · skip
              refine lv_iconst (v := 0) hx hb d_PC_init_117 (by decide) ?_
              refine lv_istore_n (lv' := [(3, .int (0)), (2, .int (3)), (0, .ref sa), (1, .int (f))]) hx hb d_PC_init_118 rfl hl (by decide) rfl (fun ls hl => ?_)
              refine lv_iload_n hx hb d_PC_init_119 rfl (lv_at hl 0 rfl) ?_
              refine lv_iload_n hx hb d_PC_init_120 rfl (lv_at hl 1 rfl) ?_
              refine lv_icmp_ge (tgt := 143) hx hb d_PC_init_121 (by decide) (fun c_11 => ?_) (fun c_11 => ?_)
              · exact absurd c_11 (by decide)
              · skip
                refine lv_aload_n hx hb d_PC_init_124 rfl (lv_at hl 2 rfl) ?_
                refine va_get (v := .ref (sa + 132)) hx hb hts i_PC hown hK hW.1 0 rfl rfl 1 (by decide) (hts _ kw_196) (fun _ h => h) rfl d_PC_init_125 ?_
                refine lv_iload_n hx hb d_PC_init_128 rfl (lv_at hl 0 rfl) ?_
                refine W_sz (fun hzu => ?_)
                have hzl := (va_P_mem.mp hW.1 _ (show (sa + 174, _) ∈ ([(sa, .inr (iPC, [.ref (sa + 1), .ref (sa + 132), .ref (sa + 2), .int (2), .ref (sa + 3), .ref (sa + 4), .ref (sa + 130), .ref (sa + 131), .int (0)])), (sa + 1, aR (gC G 4) (3) (va_up (va_up (va_up (fun _ => none) 0 (some (sa + 133))) 1 (some (sa + 147))) 2 (some (sa + 161)))), (sa + 2, aR (gC G 6) (16) (fun _ => none)), (sa + 3, aI (gC G 0) (3) (fun _ => 0)), (sa + 130, aI (gC G 0) (8) (fun _ => 0)), (sa + 131, aI (gC G 1) (8) (fun _ => 0)), (sa + 132, aR (gC G 5) (3) (fun _ => none))] ++ T_9) from (List.mem_append_right _ (hmT_9 _ (List.mem_of_getElem? (i := 13) rfl))))).lt
                have hz : Array.size H = sa + 175 := sz_eq hzu hz0 hzl rfl rfl
                have hlt0 := WW_lt hW
                rw [hz] at hlt0
                refine h_new (G := G) (fs := [.null, .null]) hx hb hts i_Acc t_Acc t_Acc_ok hown kw_555 kw_560 kw_233 hE hW.2.2 hbs (ci := iAcc) rfl df_Acc (Nat.le_of_ble_eq_true rfl) (Nat.le_of_ble_eq_true rfl) d_PC_init_129 (fun H ha9 hz9 hk9 hS9 => ?_)
                have hW := WW_keep hW hk9 hS9
                rw [hz] at ha9 hz9 ⊢
                refine lv_dup hx hb d_PC_init_132 rfl ?_
                obtain ⟨hP1, hD1⟩ := WW_one ha9
                have hgs : gbase G ≤ sa + 175 := gs_le hbs hz0 (by decide)
                refine h_cv (G := G) (h_runI (G := G) (G' := gB G (sa + 175)) (I := fun Hz => Hz = H) hx hb hml hown hts hE hW.2.2 hgs rfl (sz_le hz9) rfl (h_AccI l (gB G (sa + 175)) H (sa + 175) hz9 hP1 hD1) kw_563 kw_562 rfl kw_233 kw_561 rfl rfl hd_Acc_init ⟨Nat.le_of_ble_eq_true rfl, Nat.le_of_ble_eq_true rfl⟩ (As := []) (rest := [.ref (sa + 175), .int (0), .ref (sa + 132)]) rfl hl.1 rfl (Nat.le_of_ble_eq_true rfl) d_PC_init_133 ⟨Nat.le_of_ble_eq_true rfl, Nat.le_of_ble_eq_true rfl⟩) hW.2.2 hgs (fun H9 locs hJ hq9 hk9 hS9 => ?_)
                obtain ⟨hJ1, hJ2, hJ3⟩ := hJ
                have hW := WW_block hW hlt0 hgs hk9 hJ1 hJ2 hS9
                generalize H9 = H at *
                obtain ⟨T_12, hT_12⟩ : ∃ t9 : va_W, t9 = T_9 ++ wAccI G (sa + 175) := ⟨_, rfl⟩
                have hmT_12 : ∀ q ∈ wAccI G (sa + 175), q ∈ T_12 := fun q hq => by rw [hT_12]; exact List.mem_append_right _ hq
                have hW : WW G zs.heap ([(sa, .inr (iPC, [.ref (sa + 1), .ref (sa + 132), .ref (sa + 2), .int (2), .ref (sa + 3), .ref (sa + 4), .ref (sa + 130), .ref (sa + 131), .int (0)])), (sa + 1, aR (gC G 4) (3) (va_up (va_up (va_up (fun _ => none) 0 (some (sa + 133))) 1 (some (sa + 147))) 2 (some (sa + 161)))), (sa + 2, aR (gC G 6) (16) (fun _ => none)), (sa + 3, aI (gC G 0) (3) (fun _ => 0)), (sa + 130, aI (gC G 0) (8) (fun _ => 0)), (sa + 131, aI (gC G 1) (8) (fun _ => 0)), (sa + 132, aR (gC G 5) (3) (fun _ => none))] ++ T_12) H locs := by rw [hT_12, ← List.append_assoc]; exact hW
                obtain ⟨qk, hqk⟩ := List.getElem?_of_mem (show (sa + 175, _) ∈ ([(sa, .inr (iPC, [.ref (sa + 1), .ref (sa + 132), .ref (sa + 2), .int (2), .ref (sa + 3), .ref (sa + 4), .ref (sa + 130), .ref (sa + 131), .int (0)])), (sa + 1, aR (gC G 4) (3) (va_up (va_up (va_up (fun _ => none) 0 (some (sa + 133))) 1 (some (sa + 147))) 2 (some (sa + 161)))), (sa + 2, aR (gC G 6) (16) (fun _ => none)), (sa + 3, aI (gC G 0) (3) (fun _ => 0)), (sa + 130, aI (gC G 0) (8) (fun _ => 0)), (sa + 131, aI (gC G 1) (8) (fun _ => 0)), (sa + 132, aR (gC G 5) (3) (fun _ => none))] ++ T_12) from (List.mem_append_right _ (hmT_12 _ (List.mem_of_getElem? (i := 0) rfl))))
                refine va_astq hx hb hK hW.1 hW.2.1 hW.2.2 6 5 qk iAcc (r := (R_Acc, T_Acc, 2)) (n := 3) (f := fun _ => none) rfl rfl hqk rfl (vp_in_nI (n := 0) (by decide) (by decide)) d_PC_init_136 (fun H locs h1 h2 h3 => ?_)
                rw [show (0 : Int32).toNatClampNeg = 0 by decide] at h1 h2
                have hW : WW G zs.heap ([(sa, .inr (iPC, [.ref (sa + 1), .ref (sa + 132), .ref (sa + 2), .int (2), .ref (sa + 3), .ref (sa + 4), .ref (sa + 130), .ref (sa + 131), .int (0)])), (sa + 1, aR (gC G 4) (3) (va_up (va_up (va_up (fun _ => none) 0 (some (sa + 133))) 1 (some (sa + 147))) 2 (some (sa + 161)))), (sa + 2, aR (gC G 6) (16) (fun _ => none)), (sa + 3, aI (gC G 0) (3) (fun _ => 0)), (sa + 130, aI (gC G 0) (8) (fun _ => 0)), (sa + 131, aI (gC G 1) (8) (fun _ => 0)), (sa + 132, aR (gC G 5) (3) (va_up (fun _ => none) 0 (some (sa + 175))))] ++ T_12) H locs := ⟨h1, h2, h3⟩
                refine lv_iinc (v := 1) (lv' := [(3, .int (1)), (2, .int (3)), (0, .ref sa), (1, .int (f))]) hx hb d_PC_init_137 hl (k := 0) rfl (by decide) (by decide) rfl (fun ls hl => ?_)
                refine lv_goto (tgt := 119) hx hb d_PC_init_140 (by decide) ?_
                refine lv_iload_n hx hb d_PC_init_119 rfl (lv_at hl 0 rfl) ?_
                refine lv_iload_n hx hb d_PC_init_120 rfl (lv_at hl 1 rfl) ?_
                refine lv_icmp_ge (tgt := 143) hx hb d_PC_init_121 (by decide) (fun c_13 => ?_) (fun c_13 => ?_)
                · exact absurd c_13 (by decide)
                · skip
                  refine lv_aload_n hx hb d_PC_init_124 rfl (lv_at hl 2 rfl) ?_
                  refine va_get (v := .ref (sa + 132)) hx hb hts i_PC hown hK hW.1 0 rfl rfl 1 (by decide) (hts _ kw_196) (fun _ h => h) rfl d_PC_init_125 ?_
                  refine lv_iload_n hx hb d_PC_init_128 rfl (lv_at hl 0 rfl) ?_
                  refine W_sz (fun hzu => ?_)
                  have hzl := (va_P_mem.mp hW.1 _ (show (sa + 193, _) ∈ ([(sa, .inr (iPC, [.ref (sa + 1), .ref (sa + 132), .ref (sa + 2), .int (2), .ref (sa + 3), .ref (sa + 4), .ref (sa + 130), .ref (sa + 131), .int (0)])), (sa + 1, aR (gC G 4) (3) (va_up (va_up (va_up (fun _ => none) 0 (some (sa + 133))) 1 (some (sa + 147))) 2 (some (sa + 161)))), (sa + 2, aR (gC G 6) (16) (fun _ => none)), (sa + 3, aI (gC G 0) (3) (fun _ => 0)), (sa + 130, aI (gC G 0) (8) (fun _ => 0)), (sa + 131, aI (gC G 1) (8) (fun _ => 0)), (sa + 132, aR (gC G 5) (3) (va_up (fun _ => none) 0 (some (sa + 175))))] ++ T_12) from (List.mem_append_right _ (hmT_12 _ (List.mem_of_getElem? (i := 18) rfl))))).lt
                  have hz : Array.size H = sa + 194 := sz_eq hzu hz0 hzl rfl rfl
                  have hlt0 := WW_lt hW
                  rw [hz] at hlt0
                  refine h_new (G := G) (fs := [.null, .null]) hx hb hts i_Acc t_Acc t_Acc_ok hown kw_555 kw_560 kw_233 hE hW.2.2 hbs (ci := iAcc) rfl df_Acc (Nat.le_of_ble_eq_true rfl) (Nat.le_of_ble_eq_true rfl) d_PC_init_129 (fun H ha9 hz9 hk9 hS9 => ?_)
                  have hW := WW_keep hW hk9 hS9
                  rw [hz] at ha9 hz9 ⊢
                  refine lv_dup hx hb d_PC_init_132 rfl ?_
                  obtain ⟨hP1, hD1⟩ := WW_one ha9
                  have hgs : gbase G ≤ sa + 194 := gs_le hbs hz0 (by decide)
                  refine h_cv (G := G) (h_runI (G := G) (G' := gB G (sa + 194)) (I := fun Hz => Hz = H) hx hb hml hown hts hE hW.2.2 hgs rfl (sz_le hz9) rfl (h_AccI l (gB G (sa + 194)) H (sa + 194) hz9 hP1 hD1) kw_563 kw_562 rfl kw_233 kw_561 rfl rfl hd_Acc_init ⟨Nat.le_of_ble_eq_true rfl, Nat.le_of_ble_eq_true rfl⟩ (As := []) (rest := [.ref (sa + 194), .int (1), .ref (sa + 132)]) rfl hl.1 rfl (Nat.le_of_ble_eq_true rfl) d_PC_init_133 ⟨Nat.le_of_ble_eq_true rfl, Nat.le_of_ble_eq_true rfl⟩) hW.2.2 hgs (fun H9 locs hJ hq9 hk9 hS9 => ?_)
                  obtain ⟨hJ1, hJ2, hJ3⟩ := hJ
                  have hW := WW_block hW hlt0 hgs hk9 hJ1 hJ2 hS9
                  generalize H9 = H at *
                  obtain ⟨T_14, hT_14⟩ : ∃ t9 : va_W, t9 = T_12 ++ wAccI G (sa + 194) := ⟨_, rfl⟩
                  have hmT_14 : ∀ q ∈ wAccI G (sa + 194), q ∈ T_14 := fun q hq => by rw [hT_14]; exact List.mem_append_right _ hq
                  have hW : WW G zs.heap ([(sa, .inr (iPC, [.ref (sa + 1), .ref (sa + 132), .ref (sa + 2), .int (2), .ref (sa + 3), .ref (sa + 4), .ref (sa + 130), .ref (sa + 131), .int (0)])), (sa + 1, aR (gC G 4) (3) (va_up (va_up (va_up (fun _ => none) 0 (some (sa + 133))) 1 (some (sa + 147))) 2 (some (sa + 161)))), (sa + 2, aR (gC G 6) (16) (fun _ => none)), (sa + 3, aI (gC G 0) (3) (fun _ => 0)), (sa + 130, aI (gC G 0) (8) (fun _ => 0)), (sa + 131, aI (gC G 1) (8) (fun _ => 0)), (sa + 132, aR (gC G 5) (3) (va_up (fun _ => none) 0 (some (sa + 175))))] ++ T_14) H locs := by rw [hT_14, ← List.append_assoc]; exact hW
                  obtain ⟨qk, hqk⟩ := List.getElem?_of_mem (show (sa + 194, _) ∈ ([(sa, .inr (iPC, [.ref (sa + 1), .ref (sa + 132), .ref (sa + 2), .int (2), .ref (sa + 3), .ref (sa + 4), .ref (sa + 130), .ref (sa + 131), .int (0)])), (sa + 1, aR (gC G 4) (3) (va_up (va_up (va_up (fun _ => none) 0 (some (sa + 133))) 1 (some (sa + 147))) 2 (some (sa + 161)))), (sa + 2, aR (gC G 6) (16) (fun _ => none)), (sa + 3, aI (gC G 0) (3) (fun _ => 0)), (sa + 130, aI (gC G 0) (8) (fun _ => 0)), (sa + 131, aI (gC G 1) (8) (fun _ => 0)), (sa + 132, aR (gC G 5) (3) (va_up (fun _ => none) 0 (some (sa + 175))))] ++ T_14) from (List.mem_append_right _ (hmT_14 _ (List.mem_of_getElem? (i := 0) rfl))))
                  refine va_astq hx hb hK hW.1 hW.2.1 hW.2.2 6 5 qk iAcc (r := (R_Acc, T_Acc, 2)) (n := 3) (f := va_up (fun _ => none) 0 (some (sa + 175))) rfl rfl hqk rfl (vp_in_nI (n := 1) (by decide) (by decide)) d_PC_init_136 (fun H locs h1 h2 h3 => ?_)
                  rw [show (1 : Int32).toNatClampNeg = 1 by decide] at h1 h2
                  have hW : WW G zs.heap ([(sa, .inr (iPC, [.ref (sa + 1), .ref (sa + 132), .ref (sa + 2), .int (2), .ref (sa + 3), .ref (sa + 4), .ref (sa + 130), .ref (sa + 131), .int (0)])), (sa + 1, aR (gC G 4) (3) (va_up (va_up (va_up (fun _ => none) 0 (some (sa + 133))) 1 (some (sa + 147))) 2 (some (sa + 161)))), (sa + 2, aR (gC G 6) (16) (fun _ => none)), (sa + 3, aI (gC G 0) (3) (fun _ => 0)), (sa + 130, aI (gC G 0) (8) (fun _ => 0)), (sa + 131, aI (gC G 1) (8) (fun _ => 0)), (sa + 132, aR (gC G 5) (3) (va_up (va_up (fun _ => none) 0 (some (sa + 175))) 1 (some (sa + 194))))] ++ T_14) H locs := ⟨h1, h2, h3⟩
                  refine lv_iinc (v := 2) (lv' := [(3, .int (2)), (2, .int (3)), (0, .ref sa), (1, .int (f))]) hx hb d_PC_init_137 hl (k := 0) rfl (by decide) (by decide) rfl (fun ls hl => ?_)
                  refine lv_goto (tgt := 119) hx hb d_PC_init_140 (by decide) ?_
                  refine lv_iload_n hx hb d_PC_init_119 rfl (lv_at hl 0 rfl) ?_
                  refine lv_iload_n hx hb d_PC_init_120 rfl (lv_at hl 1 rfl) ?_
                  refine lv_icmp_ge (tgt := 143) hx hb d_PC_init_121 (by decide) (fun c_15 => ?_) (fun c_15 => ?_)
                  · exact absurd c_15 (by decide)
                  · skip
                    refine lv_aload_n hx hb d_PC_init_124 rfl (lv_at hl 2 rfl) ?_
                    refine va_get (v := .ref (sa + 132)) hx hb hts i_PC hown hK hW.1 0 rfl rfl 1 (by decide) (hts _ kw_196) (fun _ h => h) rfl d_PC_init_125 ?_
                    refine lv_iload_n hx hb d_PC_init_128 rfl (lv_at hl 0 rfl) ?_
                    refine W_sz (fun hzu => ?_)
                    have hzl := (va_P_mem.mp hW.1 _ (show (sa + 212, _) ∈ ([(sa, .inr (iPC, [.ref (sa + 1), .ref (sa + 132), .ref (sa + 2), .int (2), .ref (sa + 3), .ref (sa + 4), .ref (sa + 130), .ref (sa + 131), .int (0)])), (sa + 1, aR (gC G 4) (3) (va_up (va_up (va_up (fun _ => none) 0 (some (sa + 133))) 1 (some (sa + 147))) 2 (some (sa + 161)))), (sa + 2, aR (gC G 6) (16) (fun _ => none)), (sa + 3, aI (gC G 0) (3) (fun _ => 0)), (sa + 130, aI (gC G 0) (8) (fun _ => 0)), (sa + 131, aI (gC G 1) (8) (fun _ => 0)), (sa + 132, aR (gC G 5) (3) (va_up (va_up (fun _ => none) 0 (some (sa + 175))) 1 (some (sa + 194))))] ++ T_14) from (List.mem_append_right _ (hmT_14 _ (List.mem_of_getElem? (i := 18) rfl))))).lt
                    have hz : Array.size H = sa + 213 := sz_eq hzu hz0 hzl rfl rfl
                    have hlt0 := WW_lt hW
                    rw [hz] at hlt0
                    refine h_new (G := G) (fs := [.null, .null]) hx hb hts i_Acc t_Acc t_Acc_ok hown kw_555 kw_560 kw_233 hE hW.2.2 hbs (ci := iAcc) rfl df_Acc (Nat.le_of_ble_eq_true rfl) (Nat.le_of_ble_eq_true rfl) d_PC_init_129 (fun H ha9 hz9 hk9 hS9 => ?_)
                    have hW := WW_keep hW hk9 hS9
                    rw [hz] at ha9 hz9 ⊢
                    refine lv_dup hx hb d_PC_init_132 rfl ?_
                    obtain ⟨hP1, hD1⟩ := WW_one ha9
                    have hgs : gbase G ≤ sa + 213 := gs_le hbs hz0 (by decide)
                    refine h_cv (G := G) (h_runI (G := G) (G' := gB G (sa + 213)) (I := fun Hz => Hz = H) hx hb hml hown hts hE hW.2.2 hgs rfl (sz_le hz9) rfl (h_AccI l (gB G (sa + 213)) H (sa + 213) hz9 hP1 hD1) kw_563 kw_562 rfl kw_233 kw_561 rfl rfl hd_Acc_init ⟨Nat.le_of_ble_eq_true rfl, Nat.le_of_ble_eq_true rfl⟩ (As := []) (rest := [.ref (sa + 213), .int (2), .ref (sa + 132)]) rfl hl.1 rfl (Nat.le_of_ble_eq_true rfl) d_PC_init_133 ⟨Nat.le_of_ble_eq_true rfl, Nat.le_of_ble_eq_true rfl⟩) hW.2.2 hgs (fun H9 locs hJ hq9 hk9 hS9 => ?_)
                    obtain ⟨hJ1, hJ2, hJ3⟩ := hJ
                    have hW := WW_block hW hlt0 hgs hk9 hJ1 hJ2 hS9
                    generalize H9 = H at *
                    obtain ⟨T_16, hT_16⟩ : ∃ t9 : va_W, t9 = T_14 ++ wAccI G (sa + 213) := ⟨_, rfl⟩
                    have hmT_16 : ∀ q ∈ wAccI G (sa + 213), q ∈ T_16 := fun q hq => by rw [hT_16]; exact List.mem_append_right _ hq
                    have hW : WW G zs.heap ([(sa, .inr (iPC, [.ref (sa + 1), .ref (sa + 132), .ref (sa + 2), .int (2), .ref (sa + 3), .ref (sa + 4), .ref (sa + 130), .ref (sa + 131), .int (0)])), (sa + 1, aR (gC G 4) (3) (va_up (va_up (va_up (fun _ => none) 0 (some (sa + 133))) 1 (some (sa + 147))) 2 (some (sa + 161)))), (sa + 2, aR (gC G 6) (16) (fun _ => none)), (sa + 3, aI (gC G 0) (3) (fun _ => 0)), (sa + 130, aI (gC G 0) (8) (fun _ => 0)), (sa + 131, aI (gC G 1) (8) (fun _ => 0)), (sa + 132, aR (gC G 5) (3) (va_up (va_up (fun _ => none) 0 (some (sa + 175))) 1 (some (sa + 194))))] ++ T_16) H locs := by rw [hT_16, ← List.append_assoc]; exact hW
                    obtain ⟨qk, hqk⟩ := List.getElem?_of_mem (show (sa + 213, _) ∈ ([(sa, .inr (iPC, [.ref (sa + 1), .ref (sa + 132), .ref (sa + 2), .int (2), .ref (sa + 3), .ref (sa + 4), .ref (sa + 130), .ref (sa + 131), .int (0)])), (sa + 1, aR (gC G 4) (3) (va_up (va_up (va_up (fun _ => none) 0 (some (sa + 133))) 1 (some (sa + 147))) 2 (some (sa + 161)))), (sa + 2, aR (gC G 6) (16) (fun _ => none)), (sa + 3, aI (gC G 0) (3) (fun _ => 0)), (sa + 130, aI (gC G 0) (8) (fun _ => 0)), (sa + 131, aI (gC G 1) (8) (fun _ => 0)), (sa + 132, aR (gC G 5) (3) (va_up (va_up (fun _ => none) 0 (some (sa + 175))) 1 (some (sa + 194))))] ++ T_16) from (List.mem_append_right _ (hmT_16 _ (List.mem_of_getElem? (i := 0) rfl))))
                    refine va_astq hx hb hK hW.1 hW.2.1 hW.2.2 6 5 qk iAcc (r := (R_Acc, T_Acc, 2)) (n := 3) (f := va_up (va_up (fun _ => none) 0 (some (sa + 175))) 1 (some (sa + 194))) rfl rfl hqk rfl (vp_in_nI (n := 2) (by decide) (by decide)) d_PC_init_136 (fun H locs h1 h2 h3 => ?_)
                    rw [show (2 : Int32).toNatClampNeg = 2 by decide] at h1 h2
                    have hW : WW G zs.heap ([(sa, .inr (iPC, [.ref (sa + 1), .ref (sa + 132), .ref (sa + 2), .int (2), .ref (sa + 3), .ref (sa + 4), .ref (sa + 130), .ref (sa + 131), .int (0)])), (sa + 1, aR (gC G 4) (3) (va_up (va_up (va_up (fun _ => none) 0 (some (sa + 133))) 1 (some (sa + 147))) 2 (some (sa + 161)))), (sa + 2, aR (gC G 6) (16) (fun _ => none)), (sa + 3, aI (gC G 0) (3) (fun _ => 0)), (sa + 130, aI (gC G 0) (8) (fun _ => 0)), (sa + 131, aI (gC G 1) (8) (fun _ => 0)), (sa + 132, aR (gC G 5) (3) (va_up (va_up (va_up (fun _ => none) 0 (some (sa + 175))) 1 (some (sa + 194))) 2 (some (sa + 213))))] ++ T_16) H locs := ⟨h1, h2, h3⟩
                    refine lv_iinc (v := 3) (lv' := [(3, .int (3)), (2, .int (3)), (0, .ref sa), (1, .int (f))]) hx hb d_PC_init_137 hl (k := 0) rfl (by decide) (by decide) rfl (fun ls hl => ?_)
                    refine lv_goto (tgt := 119) hx hb d_PC_init_140 (by decide) ?_
                    refine lv_iload_n hx hb d_PC_init_119 rfl (lv_at hl 0 rfl) ?_
                    refine lv_iload_n hx hb d_PC_init_120 rfl (lv_at hl 1 rfl) ?_
                    refine lv_icmp_ge (tgt := 143) hx hb d_PC_init_121 (by decide) (fun c_17 => ?_) (fun c_17 => ?_)
                    · skip
                      refine lv_iconst (v := 0) hx hb d_PC_init_143 (by decide) ?_
                      refine lv_istore_n (lv' := [(3, .int (0)), (2, .int (3)), (0, .ref sa), (1, .int (f))]) hx hb d_PC_init_144 rfl hl (by decide) rfl (fun ls hl => ?_)
                      refine lv_iload_n hx hb d_PC_init_145 rfl (lv_at hl 0 rfl) ?_
                      refine lv_bipush (v := 16) hx hb d_PC_init_146 (by decide) ?_
                      refine lv_icmp_ge (tgt := 171) hx hb d_PC_init_148 (by decide) (fun c_18 => ?_) (fun c_18 => ?_)
                      · exact absurd c_18 (by decide)
                      · skip
                        refine lv_aload_n hx hb d_PC_init_151 rfl (lv_at hl 2 rfl) ?_
                        refine va_get (v := .ref (sa + 2)) hx hb hts i_PC hown hK hW.1 0 rfl rfl 2 (by decide) (hts _ kw_195) (fun _ h => h) rfl d_PC_init_152 ?_
                        refine lv_iload_n hx hb d_PC_init_155 rfl (lv_at hl 0 rfl) ?_
                        refine W_sz (fun hzu => ?_)
                        have hzl := (va_P_mem.mp hW.1 _ (show (sa + 231, _) ∈ ([(sa, .inr (iPC, [.ref (sa + 1), .ref (sa + 132), .ref (sa + 2), .int (2), .ref (sa + 3), .ref (sa + 4), .ref (sa + 130), .ref (sa + 131), .int (0)])), (sa + 1, aR (gC G 4) (3) (va_up (va_up (va_up (fun _ => none) 0 (some (sa + 133))) 1 (some (sa + 147))) 2 (some (sa + 161)))), (sa + 2, aR (gC G 6) (16) (fun _ => none)), (sa + 3, aI (gC G 0) (3) (fun _ => 0)), (sa + 130, aI (gC G 0) (8) (fun _ => 0)), (sa + 131, aI (gC G 1) (8) (fun _ => 0)), (sa + 132, aR (gC G 5) (3) (va_up (va_up (va_up (fun _ => none) 0 (some (sa + 175))) 1 (some (sa + 194))) 2 (some (sa + 213))))] ++ T_16) from (List.mem_append_right _ (hmT_16 _ (List.mem_of_getElem? (i := 18) rfl))))).lt
                        have hz : Array.size H = sa + 232 := sz_eq hzu hz0 hzl rfl rfl
                        have hlt0 := WW_lt hW
                        rw [hz] at hlt0
                        refine h_new (G := G) (fs := [.int (0), .int (0), .int (0), .null, .null, .null]) hx hb hts i_Led t_Led t_Led_ok hown kw_549 kw_564 kw_156 hE hW.2.2 hbs (ci := iLed) rfl df_Led (Nat.le_of_ble_eq_true rfl) (Nat.le_of_ble_eq_true rfl) d_PC_init_156 (fun H ha9 hz9 hk9 hS9 => ?_)
                        have hW := WW_keep hW hk9 hS9
                        rw [hz] at ha9 hz9 ⊢
                        refine lv_dup hx hb d_PC_init_159 rfl ?_
                        refine lv_iload_n hx hb d_PC_init_160 rfl (lv_at hl 1 rfl) ?_
                        obtain ⟨hP1, hD1⟩ := WW_one ha9
                        have hgs : gbase G ≤ sa + 232 := gs_le hbs hz0 (by decide)
                        refine h_cv (G := G) (h_runI (G := G) (G' := gB G (sa + 232)) (I := fun Hz => Hz = H) hx hb hml hown hts hE hW.2.2 hgs rfl (sz_le hz9) rfl (h_LedI3 l (gB G (sa + 232)) H (sa + 232) hz9 hP1 hD1) kw_567 kw_566 rfl kw_156 kw_565 rfl rfl hd_Led_init ⟨Nat.le_of_ble_eq_true rfl, Nat.le_of_ble_eq_true rfl⟩ (As := [.int (3)]) (rest := [.ref (sa + 232), .int (0), .ref (sa + 2)]) rfl hl.1 rfl (Nat.le_of_ble_eq_true rfl) d_PC_init_161 ⟨Nat.le_of_ble_eq_true rfl, Nat.le_of_ble_eq_true rfl⟩) hW.2.2 hgs (fun H9 locs hJ hq9 hk9 hS9 => ?_)
                        obtain ⟨hJ1, hJ2, hJ3⟩ := hJ
                        have hW := WW_block hW hlt0 hgs hk9 hJ1 hJ2 hS9
                        generalize H9 = H at *
                        obtain ⟨T_19, hT_19⟩ : ∃ t9 : va_W, t9 = T_16 ++ wLedI3 G (sa + 232) := ⟨_, rfl⟩
                        have hmT_19 : ∀ q ∈ wLedI3 G (sa + 232), q ∈ T_19 := fun q hq => by rw [hT_19]; exact List.mem_append_right _ hq
                        have hW : WW G zs.heap ([(sa, .inr (iPC, [.ref (sa + 1), .ref (sa + 132), .ref (sa + 2), .int (2), .ref (sa + 3), .ref (sa + 4), .ref (sa + 130), .ref (sa + 131), .int (0)])), (sa + 1, aR (gC G 4) (3) (va_up (va_up (va_up (fun _ => none) 0 (some (sa + 133))) 1 (some (sa + 147))) 2 (some (sa + 161)))), (sa + 2, aR (gC G 6) (16) (fun _ => none)), (sa + 3, aI (gC G 0) (3) (fun _ => 0)), (sa + 130, aI (gC G 0) (8) (fun _ => 0)), (sa + 131, aI (gC G 1) (8) (fun _ => 0)), (sa + 132, aR (gC G 5) (3) (va_up (va_up (va_up (fun _ => none) 0 (some (sa + 175))) 1 (some (sa + 194))) 2 (some (sa + 213))))] ++ T_19) H locs := by rw [hT_19, ← List.append_assoc]; exact hW
                        obtain ⟨qk, hqk⟩ := List.getElem?_of_mem (show (sa + 232, _) ∈ ([(sa, .inr (iPC, [.ref (sa + 1), .ref (sa + 132), .ref (sa + 2), .int (2), .ref (sa + 3), .ref (sa + 4), .ref (sa + 130), .ref (sa + 131), .int (0)])), (sa + 1, aR (gC G 4) (3) (va_up (va_up (va_up (fun _ => none) 0 (some (sa + 133))) 1 (some (sa + 147))) 2 (some (sa + 161)))), (sa + 2, aR (gC G 6) (16) (fun _ => none)), (sa + 3, aI (gC G 0) (3) (fun _ => 0)), (sa + 130, aI (gC G 0) (8) (fun _ => 0)), (sa + 131, aI (gC G 1) (8) (fun _ => 0)), (sa + 132, aR (gC G 5) (3) (va_up (va_up (va_up (fun _ => none) 0 (some (sa + 175))) 1 (some (sa + 194))) 2 (some (sa + 213))))] ++ T_19) from (List.mem_append_right _ (hmT_19 _ (List.mem_of_getElem? (i := 0) rfl))))
                        refine va_astq hx hb hK hW.1 hW.2.1 hW.2.2 2 6 qk iLed (r := (R_Led, T_Led, 6)) (n := 16) (f := fun _ => none) rfl rfl hqk rfl (vp_in_nI (n := 0) (by decide) (by decide)) d_PC_init_164 (fun H locs h1 h2 h3 => ?_)
                        rw [show (0 : Int32).toNatClampNeg = 0 by decide] at h1 h2
                        have hW : WW G zs.heap ([(sa, .inr (iPC, [.ref (sa + 1), .ref (sa + 132), .ref (sa + 2), .int (2), .ref (sa + 3), .ref (sa + 4), .ref (sa + 130), .ref (sa + 131), .int (0)])), (sa + 1, aR (gC G 4) (3) (va_up (va_up (va_up (fun _ => none) 0 (some (sa + 133))) 1 (some (sa + 147))) 2 (some (sa + 161)))), (sa + 2, aR (gC G 6) (16) (va_up (fun _ => none) 0 (some (sa + 232)))), (sa + 3, aI (gC G 0) (3) (fun _ => 0)), (sa + 130, aI (gC G 0) (8) (fun _ => 0)), (sa + 131, aI (gC G 1) (8) (fun _ => 0)), (sa + 132, aR (gC G 5) (3) (va_up (va_up (va_up (fun _ => none) 0 (some (sa + 175))) 1 (some (sa + 194))) 2 (some (sa + 213))))] ++ T_19) H locs := ⟨h1, h2, h3⟩
                        refine lv_iinc (v := 1) (lv' := [(3, .int (1)), (2, .int (3)), (0, .ref sa), (1, .int (f))]) hx hb d_PC_init_165 hl (k := 0) rfl (by decide) (by decide) rfl (fun ls hl => ?_)
                        refine lv_goto (tgt := 145) hx hb d_PC_init_168 (by decide) ?_
                        refine lv_iload_n hx hb d_PC_init_145 rfl (lv_at hl 0 rfl) ?_
                        refine lv_bipush (v := 16) hx hb d_PC_init_146 (by decide) ?_
                        refine lv_icmp_ge (tgt := 171) hx hb d_PC_init_148 (by decide) (fun c_20 => ?_) (fun c_20 => ?_)
                        · exact absurd c_20 (by decide)
                        · skip
                          refine lv_aload_n hx hb d_PC_init_151 rfl (lv_at hl 2 rfl) ?_
                          refine va_get (v := .ref (sa + 2)) hx hb hts i_PC hown hK hW.1 0 rfl rfl 2 (by decide) (hts _ kw_195) (fun _ h => h) rfl d_PC_init_152 ?_
                          refine lv_iload_n hx hb d_PC_init_155 rfl (lv_at hl 0 rfl) ?_
                          refine W_sz (fun hzu => ?_)
                          have hzl := (va_P_mem.mp hW.1 _ (show (sa + 241, _) ∈ ([(sa, .inr (iPC, [.ref (sa + 1), .ref (sa + 132), .ref (sa + 2), .int (2), .ref (sa + 3), .ref (sa + 4), .ref (sa + 130), .ref (sa + 131), .int (0)])), (sa + 1, aR (gC G 4) (3) (va_up (va_up (va_up (fun _ => none) 0 (some (sa + 133))) 1 (some (sa + 147))) 2 (some (sa + 161)))), (sa + 2, aR (gC G 6) (16) (va_up (fun _ => none) 0 (some (sa + 232)))), (sa + 3, aI (gC G 0) (3) (fun _ => 0)), (sa + 130, aI (gC G 0) (8) (fun _ => 0)), (sa + 131, aI (gC G 1) (8) (fun _ => 0)), (sa + 132, aR (gC G 5) (3) (va_up (va_up (va_up (fun _ => none) 0 (some (sa + 175))) 1 (some (sa + 194))) 2 (some (sa + 213))))] ++ T_19) from (List.mem_append_right _ (hmT_19 _ (List.mem_of_getElem? (i := 9) rfl))))).lt
                          have hz : Array.size H = sa + 242 := sz_eq hzu hz0 hzl rfl rfl
                          have hlt0 := WW_lt hW
                          rw [hz] at hlt0
                          refine h_new (G := G) (fs := [.int (0), .int (0), .int (0), .null, .null, .null]) hx hb hts i_Led t_Led t_Led_ok hown kw_549 kw_564 kw_156 hE hW.2.2 hbs (ci := iLed) rfl df_Led (Nat.le_of_ble_eq_true rfl) (Nat.le_of_ble_eq_true rfl) d_PC_init_156 (fun H ha9 hz9 hk9 hS9 => ?_)
                          have hW := WW_keep hW hk9 hS9
                          rw [hz] at ha9 hz9 ⊢
                          refine lv_dup hx hb d_PC_init_159 rfl ?_
                          refine lv_iload_n hx hb d_PC_init_160 rfl (lv_at hl 1 rfl) ?_
                          obtain ⟨hP1, hD1⟩ := WW_one ha9
                          have hgs : gbase G ≤ sa + 242 := gs_le hbs hz0 (by decide)
                          refine h_cv (G := G) (h_runI (G := G) (G' := gB G (sa + 242)) (I := fun Hz => Hz = H) hx hb hml hown hts hE hW.2.2 hgs rfl (sz_le hz9) rfl (h_LedI3 l (gB G (sa + 242)) H (sa + 242) hz9 hP1 hD1) kw_567 kw_566 rfl kw_156 kw_565 rfl rfl hd_Led_init ⟨Nat.le_of_ble_eq_true rfl, Nat.le_of_ble_eq_true rfl⟩ (As := [.int (3)]) (rest := [.ref (sa + 242), .int (1), .ref (sa + 2)]) rfl hl.1 rfl (Nat.le_of_ble_eq_true rfl) d_PC_init_161 ⟨Nat.le_of_ble_eq_true rfl, Nat.le_of_ble_eq_true rfl⟩) hW.2.2 hgs (fun H9 locs hJ hq9 hk9 hS9 => ?_)
                          obtain ⟨hJ1, hJ2, hJ3⟩ := hJ
                          have hW := WW_block hW hlt0 hgs hk9 hJ1 hJ2 hS9
                          generalize H9 = H at *
                          obtain ⟨T_21, hT_21⟩ : ∃ t9 : va_W, t9 = T_19 ++ wLedI3 G (sa + 242) := ⟨_, rfl⟩
                          have hmT_21 : ∀ q ∈ wLedI3 G (sa + 242), q ∈ T_21 := fun q hq => by rw [hT_21]; exact List.mem_append_right _ hq
                          have hW : WW G zs.heap ([(sa, .inr (iPC, [.ref (sa + 1), .ref (sa + 132), .ref (sa + 2), .int (2), .ref (sa + 3), .ref (sa + 4), .ref (sa + 130), .ref (sa + 131), .int (0)])), (sa + 1, aR (gC G 4) (3) (va_up (va_up (va_up (fun _ => none) 0 (some (sa + 133))) 1 (some (sa + 147))) 2 (some (sa + 161)))), (sa + 2, aR (gC G 6) (16) (va_up (fun _ => none) 0 (some (sa + 232)))), (sa + 3, aI (gC G 0) (3) (fun _ => 0)), (sa + 130, aI (gC G 0) (8) (fun _ => 0)), (sa + 131, aI (gC G 1) (8) (fun _ => 0)), (sa + 132, aR (gC G 5) (3) (va_up (va_up (va_up (fun _ => none) 0 (some (sa + 175))) 1 (some (sa + 194))) 2 (some (sa + 213))))] ++ T_21) H locs := by rw [hT_21, ← List.append_assoc]; exact hW
                          obtain ⟨qk, hqk⟩ := List.getElem?_of_mem (show (sa + 242, _) ∈ ([(sa, .inr (iPC, [.ref (sa + 1), .ref (sa + 132), .ref (sa + 2), .int (2), .ref (sa + 3), .ref (sa + 4), .ref (sa + 130), .ref (sa + 131), .int (0)])), (sa + 1, aR (gC G 4) (3) (va_up (va_up (va_up (fun _ => none) 0 (some (sa + 133))) 1 (some (sa + 147))) 2 (some (sa + 161)))), (sa + 2, aR (gC G 6) (16) (va_up (fun _ => none) 0 (some (sa + 232)))), (sa + 3, aI (gC G 0) (3) (fun _ => 0)), (sa + 130, aI (gC G 0) (8) (fun _ => 0)), (sa + 131, aI (gC G 1) (8) (fun _ => 0)), (sa + 132, aR (gC G 5) (3) (va_up (va_up (va_up (fun _ => none) 0 (some (sa + 175))) 1 (some (sa + 194))) 2 (some (sa + 213))))] ++ T_21) from (List.mem_append_right _ (hmT_21 _ (List.mem_of_getElem? (i := 0) rfl))))
                          refine va_astq hx hb hK hW.1 hW.2.1 hW.2.2 2 6 qk iLed (r := (R_Led, T_Led, 6)) (n := 16) (f := va_up (fun _ => none) 0 (some (sa + 232))) rfl rfl hqk rfl (vp_in_nI (n := 1) (by decide) (by decide)) d_PC_init_164 (fun H locs h1 h2 h3 => ?_)
                          rw [show (1 : Int32).toNatClampNeg = 1 by decide] at h1 h2
                          have hW : WW G zs.heap ([(sa, .inr (iPC, [.ref (sa + 1), .ref (sa + 132), .ref (sa + 2), .int (2), .ref (sa + 3), .ref (sa + 4), .ref (sa + 130), .ref (sa + 131), .int (0)])), (sa + 1, aR (gC G 4) (3) (va_up (va_up (va_up (fun _ => none) 0 (some (sa + 133))) 1 (some (sa + 147))) 2 (some (sa + 161)))), (sa + 2, aR (gC G 6) (16) (va_up (va_up (fun _ => none) 0 (some (sa + 232))) 1 (some (sa + 242)))), (sa + 3, aI (gC G 0) (3) (fun _ => 0)), (sa + 130, aI (gC G 0) (8) (fun _ => 0)), (sa + 131, aI (gC G 1) (8) (fun _ => 0)), (sa + 132, aR (gC G 5) (3) (va_up (va_up (va_up (fun _ => none) 0 (some (sa + 175))) 1 (some (sa + 194))) 2 (some (sa + 213))))] ++ T_21) H locs := ⟨h1, h2, h3⟩
                          refine lv_iinc (v := 2) (lv' := [(3, .int (2)), (2, .int (3)), (0, .ref sa), (1, .int (f))]) hx hb d_PC_init_165 hl (k := 0) rfl (by decide) (by decide) rfl (fun ls hl => ?_)
                          refine lv_goto (tgt := 145) hx hb d_PC_init_168 (by decide) ?_
                          refine lv_iload_n hx hb d_PC_init_145 rfl (lv_at hl 0 rfl) ?_
                          refine lv_bipush (v := 16) hx hb d_PC_init_146 (by decide) ?_
                          refine lv_icmp_ge (tgt := 171) hx hb d_PC_init_148 (by decide) (fun c_22 => ?_) (fun c_22 => ?_)
                          · exact absurd c_22 (by decide)
                          · skip
                            refine lv_aload_n hx hb d_PC_init_151 rfl (lv_at hl 2 rfl) ?_
                            refine va_get (v := .ref (sa + 2)) hx hb hts i_PC hown hK hW.1 0 rfl rfl 2 (by decide) (hts _ kw_195) (fun _ h => h) rfl d_PC_init_152 ?_
                            refine lv_iload_n hx hb d_PC_init_155 rfl (lv_at hl 0 rfl) ?_
                            refine W_sz (fun hzu => ?_)
                            have hzl := (va_P_mem.mp hW.1 _ (show (sa + 251, _) ∈ ([(sa, .inr (iPC, [.ref (sa + 1), .ref (sa + 132), .ref (sa + 2), .int (2), .ref (sa + 3), .ref (sa + 4), .ref (sa + 130), .ref (sa + 131), .int (0)])), (sa + 1, aR (gC G 4) (3) (va_up (va_up (va_up (fun _ => none) 0 (some (sa + 133))) 1 (some (sa + 147))) 2 (some (sa + 161)))), (sa + 2, aR (gC G 6) (16) (va_up (va_up (fun _ => none) 0 (some (sa + 232))) 1 (some (sa + 242)))), (sa + 3, aI (gC G 0) (3) (fun _ => 0)), (sa + 130, aI (gC G 0) (8) (fun _ => 0)), (sa + 131, aI (gC G 1) (8) (fun _ => 0)), (sa + 132, aR (gC G 5) (3) (va_up (va_up (va_up (fun _ => none) 0 (some (sa + 175))) 1 (some (sa + 194))) 2 (some (sa + 213))))] ++ T_21) from (List.mem_append_right _ (hmT_21 _ (List.mem_of_getElem? (i := 9) rfl))))).lt
                            have hz : Array.size H = sa + 252 := sz_eq hzu hz0 hzl rfl rfl
                            have hlt0 := WW_lt hW
                            rw [hz] at hlt0
                            refine h_new (G := G) (fs := [.int (0), .int (0), .int (0), .null, .null, .null]) hx hb hts i_Led t_Led t_Led_ok hown kw_549 kw_564 kw_156 hE hW.2.2 hbs (ci := iLed) rfl df_Led (Nat.le_of_ble_eq_true rfl) (Nat.le_of_ble_eq_true rfl) d_PC_init_156 (fun H ha9 hz9 hk9 hS9 => ?_)
                            have hW := WW_keep hW hk9 hS9
                            rw [hz] at ha9 hz9 ⊢
                            refine lv_dup hx hb d_PC_init_159 rfl ?_
                            refine lv_iload_n hx hb d_PC_init_160 rfl (lv_at hl 1 rfl) ?_
                            obtain ⟨hP1, hD1⟩ := WW_one ha9
                            have hgs : gbase G ≤ sa + 252 := gs_le hbs hz0 (by decide)
                            refine h_cv (G := G) (h_runI (G := G) (G' := gB G (sa + 252)) (I := fun Hz => Hz = H) hx hb hml hown hts hE hW.2.2 hgs rfl (sz_le hz9) rfl (h_LedI3 l (gB G (sa + 252)) H (sa + 252) hz9 hP1 hD1) kw_567 kw_566 rfl kw_156 kw_565 rfl rfl hd_Led_init ⟨Nat.le_of_ble_eq_true rfl, Nat.le_of_ble_eq_true rfl⟩ (As := [.int (3)]) (rest := [.ref (sa + 252), .int (2), .ref (sa + 2)]) rfl hl.1 rfl (Nat.le_of_ble_eq_true rfl) d_PC_init_161 ⟨Nat.le_of_ble_eq_true rfl, Nat.le_of_ble_eq_true rfl⟩) hW.2.2 hgs (fun H9 locs hJ hq9 hk9 hS9 => ?_)
                            obtain ⟨hJ1, hJ2, hJ3⟩ := hJ
                            have hW := WW_block hW hlt0 hgs hk9 hJ1 hJ2 hS9
                            generalize H9 = H at *
                            obtain ⟨T_23, hT_23⟩ : ∃ t9 : va_W, t9 = T_21 ++ wLedI3 G (sa + 252) := ⟨_, rfl⟩
                            have hmT_23 : ∀ q ∈ wLedI3 G (sa + 252), q ∈ T_23 := fun q hq => by rw [hT_23]; exact List.mem_append_right _ hq
                            have hW : WW G zs.heap ([(sa, .inr (iPC, [.ref (sa + 1), .ref (sa + 132), .ref (sa + 2), .int (2), .ref (sa + 3), .ref (sa + 4), .ref (sa + 130), .ref (sa + 131), .int (0)])), (sa + 1, aR (gC G 4) (3) (va_up (va_up (va_up (fun _ => none) 0 (some (sa + 133))) 1 (some (sa + 147))) 2 (some (sa + 161)))), (sa + 2, aR (gC G 6) (16) (va_up (va_up (fun _ => none) 0 (some (sa + 232))) 1 (some (sa + 242)))), (sa + 3, aI (gC G 0) (3) (fun _ => 0)), (sa + 130, aI (gC G 0) (8) (fun _ => 0)), (sa + 131, aI (gC G 1) (8) (fun _ => 0)), (sa + 132, aR (gC G 5) (3) (va_up (va_up (va_up (fun _ => none) 0 (some (sa + 175))) 1 (some (sa + 194))) 2 (some (sa + 213))))] ++ T_23) H locs := by rw [hT_23, ← List.append_assoc]; exact hW
                            obtain ⟨qk, hqk⟩ := List.getElem?_of_mem (show (sa + 252, _) ∈ ([(sa, .inr (iPC, [.ref (sa + 1), .ref (sa + 132), .ref (sa + 2), .int (2), .ref (sa + 3), .ref (sa + 4), .ref (sa + 130), .ref (sa + 131), .int (0)])), (sa + 1, aR (gC G 4) (3) (va_up (va_up (va_up (fun _ => none) 0 (some (sa + 133))) 1 (some (sa + 147))) 2 (some (sa + 161)))), (sa + 2, aR (gC G 6) (16) (va_up (va_up (fun _ => none) 0 (some (sa + 232))) 1 (some (sa + 242)))), (sa + 3, aI (gC G 0) (3) (fun _ => 0)), (sa + 130, aI (gC G 0) (8) (fun _ => 0)), (sa + 131, aI (gC G 1) (8) (fun _ => 0)), (sa + 132, aR (gC G 5) (3) (va_up (va_up (va_up (fun _ => none) 0 (some (sa + 175))) 1 (some (sa + 194))) 2 (some (sa + 213))))] ++ T_23) from (List.mem_append_right _ (hmT_23 _ (List.mem_of_getElem? (i := 0) rfl))))
                            refine va_astq hx hb hK hW.1 hW.2.1 hW.2.2 2 6 qk iLed (r := (R_Led, T_Led, 6)) (n := 16) (f := va_up (va_up (fun _ => none) 0 (some (sa + 232))) 1 (some (sa + 242))) rfl rfl hqk rfl (vp_in_nI (n := 2) (by decide) (by decide)) d_PC_init_164 (fun H locs h1 h2 h3 => ?_)
                            rw [show (2 : Int32).toNatClampNeg = 2 by decide] at h1 h2
                            have hW : WW G zs.heap ([(sa, .inr (iPC, [.ref (sa + 1), .ref (sa + 132), .ref (sa + 2), .int (2), .ref (sa + 3), .ref (sa + 4), .ref (sa + 130), .ref (sa + 131), .int (0)])), (sa + 1, aR (gC G 4) (3) (va_up (va_up (va_up (fun _ => none) 0 (some (sa + 133))) 1 (some (sa + 147))) 2 (some (sa + 161)))), (sa + 2, aR (gC G 6) (16) (va_up (va_up (va_up (fun _ => none) 0 (some (sa + 232))) 1 (some (sa + 242))) 2 (some (sa + 252)))), (sa + 3, aI (gC G 0) (3) (fun _ => 0)), (sa + 130, aI (gC G 0) (8) (fun _ => 0)), (sa + 131, aI (gC G 1) (8) (fun _ => 0)), (sa + 132, aR (gC G 5) (3) (va_up (va_up (va_up (fun _ => none) 0 (some (sa + 175))) 1 (some (sa + 194))) 2 (some (sa + 213))))] ++ T_23) H locs := ⟨h1, h2, h3⟩
                            refine lv_iinc (v := 3) (lv' := [(3, .int (3)), (2, .int (3)), (0, .ref sa), (1, .int (f))]) hx hb d_PC_init_165 hl (k := 0) rfl (by decide) (by decide) rfl (fun ls hl => ?_)
                            refine lv_goto (tgt := 145) hx hb d_PC_init_168 (by decide) ?_
                            refine lv_iload_n hx hb d_PC_init_145 rfl (lv_at hl 0 rfl) ?_
                            refine lv_bipush (v := 16) hx hb d_PC_init_146 (by decide) ?_
                            refine lv_icmp_ge (tgt := 171) hx hb d_PC_init_148 (by decide) (fun c_24 => ?_) (fun c_24 => ?_)
                            · exact absurd c_24 (by decide)
                            · skip
                              refine lv_aload_n hx hb d_PC_init_151 rfl (lv_at hl 2 rfl) ?_
                              refine va_get (v := .ref (sa + 2)) hx hb hts i_PC hown hK hW.1 0 rfl rfl 2 (by decide) (hts _ kw_195) (fun _ h => h) rfl d_PC_init_152 ?_
                              refine lv_iload_n hx hb d_PC_init_155 rfl (lv_at hl 0 rfl) ?_
                              refine W_sz (fun hzu => ?_)
                              have hzl := (va_P_mem.mp hW.1 _ (show (sa + 261, _) ∈ ([(sa, .inr (iPC, [.ref (sa + 1), .ref (sa + 132), .ref (sa + 2), .int (2), .ref (sa + 3), .ref (sa + 4), .ref (sa + 130), .ref (sa + 131), .int (0)])), (sa + 1, aR (gC G 4) (3) (va_up (va_up (va_up (fun _ => none) 0 (some (sa + 133))) 1 (some (sa + 147))) 2 (some (sa + 161)))), (sa + 2, aR (gC G 6) (16) (va_up (va_up (va_up (fun _ => none) 0 (some (sa + 232))) 1 (some (sa + 242))) 2 (some (sa + 252)))), (sa + 3, aI (gC G 0) (3) (fun _ => 0)), (sa + 130, aI (gC G 0) (8) (fun _ => 0)), (sa + 131, aI (gC G 1) (8) (fun _ => 0)), (sa + 132, aR (gC G 5) (3) (va_up (va_up (va_up (fun _ => none) 0 (some (sa + 175))) 1 (some (sa + 194))) 2 (some (sa + 213))))] ++ T_23) from (List.mem_append_right _ (hmT_23 _ (List.mem_of_getElem? (i := 9) rfl))))).lt
                              have hz : Array.size H = sa + 262 := sz_eq hzu hz0 hzl rfl rfl
                              have hlt0 := WW_lt hW
                              rw [hz] at hlt0
                              refine h_new (G := G) (fs := [.int (0), .int (0), .int (0), .null, .null, .null]) hx hb hts i_Led t_Led t_Led_ok hown kw_549 kw_564 kw_156 hE hW.2.2 hbs (ci := iLed) rfl df_Led (Nat.le_of_ble_eq_true rfl) (Nat.le_of_ble_eq_true rfl) d_PC_init_156 (fun H ha9 hz9 hk9 hS9 => ?_)
                              have hW := WW_keep hW hk9 hS9
                              rw [hz] at ha9 hz9 ⊢
                              refine lv_dup hx hb d_PC_init_159 rfl ?_
                              refine lv_iload_n hx hb d_PC_init_160 rfl (lv_at hl 1 rfl) ?_
                              obtain ⟨hP1, hD1⟩ := WW_one ha9
                              have hgs : gbase G ≤ sa + 262 := gs_le hbs hz0 (by decide)
                              refine h_cv (G := G) (h_runI (G := G) (G' := gB G (sa + 262)) (I := fun Hz => Hz = H) hx hb hml hown hts hE hW.2.2 hgs rfl (sz_le hz9) rfl (h_LedI3 l (gB G (sa + 262)) H (sa + 262) hz9 hP1 hD1) kw_567 kw_566 rfl kw_156 kw_565 rfl rfl hd_Led_init ⟨Nat.le_of_ble_eq_true rfl, Nat.le_of_ble_eq_true rfl⟩ (As := [.int (3)]) (rest := [.ref (sa + 262), .int (3), .ref (sa + 2)]) rfl hl.1 rfl (Nat.le_of_ble_eq_true rfl) d_PC_init_161 ⟨Nat.le_of_ble_eq_true rfl, Nat.le_of_ble_eq_true rfl⟩) hW.2.2 hgs (fun H9 locs hJ hq9 hk9 hS9 => ?_)
                              obtain ⟨hJ1, hJ2, hJ3⟩ := hJ
                              have hW := WW_block hW hlt0 hgs hk9 hJ1 hJ2 hS9
                              generalize H9 = H at *
                              obtain ⟨T_25, hT_25⟩ : ∃ t9 : va_W, t9 = T_23 ++ wLedI3 G (sa + 262) := ⟨_, rfl⟩
                              have hmT_25 : ∀ q ∈ wLedI3 G (sa + 262), q ∈ T_25 := fun q hq => by rw [hT_25]; exact List.mem_append_right _ hq
                              have hW : WW G zs.heap ([(sa, .inr (iPC, [.ref (sa + 1), .ref (sa + 132), .ref (sa + 2), .int (2), .ref (sa + 3), .ref (sa + 4), .ref (sa + 130), .ref (sa + 131), .int (0)])), (sa + 1, aR (gC G 4) (3) (va_up (va_up (va_up (fun _ => none) 0 (some (sa + 133))) 1 (some (sa + 147))) 2 (some (sa + 161)))), (sa + 2, aR (gC G 6) (16) (va_up (va_up (va_up (fun _ => none) 0 (some (sa + 232))) 1 (some (sa + 242))) 2 (some (sa + 252)))), (sa + 3, aI (gC G 0) (3) (fun _ => 0)), (sa + 130, aI (gC G 0) (8) (fun _ => 0)), (sa + 131, aI (gC G 1) (8) (fun _ => 0)), (sa + 132, aR (gC G 5) (3) (va_up (va_up (va_up (fun _ => none) 0 (some (sa + 175))) 1 (some (sa + 194))) 2 (some (sa + 213))))] ++ T_25) H locs := by rw [hT_25, ← List.append_assoc]; exact hW
                              obtain ⟨qk, hqk⟩ := List.getElem?_of_mem (show (sa + 262, _) ∈ ([(sa, .inr (iPC, [.ref (sa + 1), .ref (sa + 132), .ref (sa + 2), .int (2), .ref (sa + 3), .ref (sa + 4), .ref (sa + 130), .ref (sa + 131), .int (0)])), (sa + 1, aR (gC G 4) (3) (va_up (va_up (va_up (fun _ => none) 0 (some (sa + 133))) 1 (some (sa + 147))) 2 (some (sa + 161)))), (sa + 2, aR (gC G 6) (16) (va_up (va_up (va_up (fun _ => none) 0 (some (sa + 232))) 1 (some (sa + 242))) 2 (some (sa + 252)))), (sa + 3, aI (gC G 0) (3) (fun _ => 0)), (sa + 130, aI (gC G 0) (8) (fun _ => 0)), (sa + 131, aI (gC G 1) (8) (fun _ => 0)), (sa + 132, aR (gC G 5) (3) (va_up (va_up (va_up (fun _ => none) 0 (some (sa + 175))) 1 (some (sa + 194))) 2 (some (sa + 213))))] ++ T_25) from (List.mem_append_right _ (hmT_25 _ (List.mem_of_getElem? (i := 0) rfl))))
                              refine va_astq hx hb hK hW.1 hW.2.1 hW.2.2 2 6 qk iLed (r := (R_Led, T_Led, 6)) (n := 16) (f := va_up (va_up (va_up (fun _ => none) 0 (some (sa + 232))) 1 (some (sa + 242))) 2 (some (sa + 252))) rfl rfl hqk rfl (vp_in_nI (n := 3) (by decide) (by decide)) d_PC_init_164 (fun H locs h1 h2 h3 => ?_)
                              rw [show (3 : Int32).toNatClampNeg = 3 by decide] at h1 h2
                              have hW : WW G zs.heap ([(sa, .inr (iPC, [.ref (sa + 1), .ref (sa + 132), .ref (sa + 2), .int (2), .ref (sa + 3), .ref (sa + 4), .ref (sa + 130), .ref (sa + 131), .int (0)])), (sa + 1, aR (gC G 4) (3) (va_up (va_up (va_up (fun _ => none) 0 (some (sa + 133))) 1 (some (sa + 147))) 2 (some (sa + 161)))), (sa + 2, aR (gC G 6) (16) (va_up (va_up (va_up (va_up (fun _ => none) 0 (some (sa + 232))) 1 (some (sa + 242))) 2 (some (sa + 252))) 3 (some (sa + 262)))), (sa + 3, aI (gC G 0) (3) (fun _ => 0)), (sa + 130, aI (gC G 0) (8) (fun _ => 0)), (sa + 131, aI (gC G 1) (8) (fun _ => 0)), (sa + 132, aR (gC G 5) (3) (va_up (va_up (va_up (fun _ => none) 0 (some (sa + 175))) 1 (some (sa + 194))) 2 (some (sa + 213))))] ++ T_25) H locs := ⟨h1, h2, h3⟩
                              refine lv_iinc (v := 4) (lv' := [(3, .int (4)), (2, .int (3)), (0, .ref sa), (1, .int (f))]) hx hb d_PC_init_165 hl (k := 0) rfl (by decide) (by decide) rfl (fun ls hl => ?_)
                              refine lv_goto (tgt := 145) hx hb d_PC_init_168 (by decide) ?_
                              refine lv_iload_n hx hb d_PC_init_145 rfl (lv_at hl 0 rfl) ?_
                              refine lv_bipush (v := 16) hx hb d_PC_init_146 (by decide) ?_
                              refine lv_icmp_ge (tgt := 171) hx hb d_PC_init_148 (by decide) (fun c_26 => ?_) (fun c_26 => ?_)
                              · exact absurd c_26 (by decide)
                              · skip
                                refine lv_aload_n hx hb d_PC_init_151 rfl (lv_at hl 2 rfl) ?_
                                refine va_get (v := .ref (sa + 2)) hx hb hts i_PC hown hK hW.1 0 rfl rfl 2 (by decide) (hts _ kw_195) (fun _ h => h) rfl d_PC_init_152 ?_
                                refine lv_iload_n hx hb d_PC_init_155 rfl (lv_at hl 0 rfl) ?_
                                refine W_sz (fun hzu => ?_)
                                have hzl := (va_P_mem.mp hW.1 _ (show (sa + 271, _) ∈ ([(sa, .inr (iPC, [.ref (sa + 1), .ref (sa + 132), .ref (sa + 2), .int (2), .ref (sa + 3), .ref (sa + 4), .ref (sa + 130), .ref (sa + 131), .int (0)])), (sa + 1, aR (gC G 4) (3) (va_up (va_up (va_up (fun _ => none) 0 (some (sa + 133))) 1 (some (sa + 147))) 2 (some (sa + 161)))), (sa + 2, aR (gC G 6) (16) (va_up (va_up (va_up (va_up (fun _ => none) 0 (some (sa + 232))) 1 (some (sa + 242))) 2 (some (sa + 252))) 3 (some (sa + 262)))), (sa + 3, aI (gC G 0) (3) (fun _ => 0)), (sa + 130, aI (gC G 0) (8) (fun _ => 0)), (sa + 131, aI (gC G 1) (8) (fun _ => 0)), (sa + 132, aR (gC G 5) (3) (va_up (va_up (va_up (fun _ => none) 0 (some (sa + 175))) 1 (some (sa + 194))) 2 (some (sa + 213))))] ++ T_25) from (List.mem_append_right _ (hmT_25 _ (List.mem_of_getElem? (i := 9) rfl))))).lt
                                have hz : Array.size H = sa + 272 := sz_eq hzu hz0 hzl rfl rfl
                                have hlt0 := WW_lt hW
                                rw [hz] at hlt0
                                refine h_new (G := G) (fs := [.int (0), .int (0), .int (0), .null, .null, .null]) hx hb hts i_Led t_Led t_Led_ok hown kw_549 kw_564 kw_156 hE hW.2.2 hbs (ci := iLed) rfl df_Led (Nat.le_of_ble_eq_true rfl) (Nat.le_of_ble_eq_true rfl) d_PC_init_156 (fun H ha9 hz9 hk9 hS9 => ?_)
                                have hW := WW_keep hW hk9 hS9
                                rw [hz] at ha9 hz9 ⊢
                                refine lv_dup hx hb d_PC_init_159 rfl ?_
                                refine lv_iload_n hx hb d_PC_init_160 rfl (lv_at hl 1 rfl) ?_
                                obtain ⟨hP1, hD1⟩ := WW_one ha9
                                have hgs : gbase G ≤ sa + 272 := gs_le hbs hz0 (by decide)
                                refine h_cv (G := G) (h_runI (G := G) (G' := gB G (sa + 272)) (I := fun Hz => Hz = H) hx hb hml hown hts hE hW.2.2 hgs rfl (sz_le hz9) rfl (h_LedI3 l (gB G (sa + 272)) H (sa + 272) hz9 hP1 hD1) kw_567 kw_566 rfl kw_156 kw_565 rfl rfl hd_Led_init ⟨Nat.le_of_ble_eq_true rfl, Nat.le_of_ble_eq_true rfl⟩ (As := [.int (3)]) (rest := [.ref (sa + 272), .int (4), .ref (sa + 2)]) rfl hl.1 rfl (Nat.le_of_ble_eq_true rfl) d_PC_init_161 ⟨Nat.le_of_ble_eq_true rfl, Nat.le_of_ble_eq_true rfl⟩) hW.2.2 hgs (fun H9 locs hJ hq9 hk9 hS9 => ?_)
                                obtain ⟨hJ1, hJ2, hJ3⟩ := hJ
                                have hW := WW_block hW hlt0 hgs hk9 hJ1 hJ2 hS9
                                generalize H9 = H at *
                                obtain ⟨T_27, hT_27⟩ : ∃ t9 : va_W, t9 = T_25 ++ wLedI3 G (sa + 272) := ⟨_, rfl⟩
                                have hmT_27 : ∀ q ∈ wLedI3 G (sa + 272), q ∈ T_27 := fun q hq => by rw [hT_27]; exact List.mem_append_right _ hq
                                have hW : WW G zs.heap ([(sa, .inr (iPC, [.ref (sa + 1), .ref (sa + 132), .ref (sa + 2), .int (2), .ref (sa + 3), .ref (sa + 4), .ref (sa + 130), .ref (sa + 131), .int (0)])), (sa + 1, aR (gC G 4) (3) (va_up (va_up (va_up (fun _ => none) 0 (some (sa + 133))) 1 (some (sa + 147))) 2 (some (sa + 161)))), (sa + 2, aR (gC G 6) (16) (va_up (va_up (va_up (va_up (fun _ => none) 0 (some (sa + 232))) 1 (some (sa + 242))) 2 (some (sa + 252))) 3 (some (sa + 262)))), (sa + 3, aI (gC G 0) (3) (fun _ => 0)), (sa + 130, aI (gC G 0) (8) (fun _ => 0)), (sa + 131, aI (gC G 1) (8) (fun _ => 0)), (sa + 132, aR (gC G 5) (3) (va_up (va_up (va_up (fun _ => none) 0 (some (sa + 175))) 1 (some (sa + 194))) 2 (some (sa + 213))))] ++ T_27) H locs := by rw [hT_27, ← List.append_assoc]; exact hW
                                obtain ⟨qk, hqk⟩ := List.getElem?_of_mem (show (sa + 272, _) ∈ ([(sa, .inr (iPC, [.ref (sa + 1), .ref (sa + 132), .ref (sa + 2), .int (2), .ref (sa + 3), .ref (sa + 4), .ref (sa + 130), .ref (sa + 131), .int (0)])), (sa + 1, aR (gC G 4) (3) (va_up (va_up (va_up (fun _ => none) 0 (some (sa + 133))) 1 (some (sa + 147))) 2 (some (sa + 161)))), (sa + 2, aR (gC G 6) (16) (va_up (va_up (va_up (va_up (fun _ => none) 0 (some (sa + 232))) 1 (some (sa + 242))) 2 (some (sa + 252))) 3 (some (sa + 262)))), (sa + 3, aI (gC G 0) (3) (fun _ => 0)), (sa + 130, aI (gC G 0) (8) (fun _ => 0)), (sa + 131, aI (gC G 1) (8) (fun _ => 0)), (sa + 132, aR (gC G 5) (3) (va_up (va_up (va_up (fun _ => none) 0 (some (sa + 175))) 1 (some (sa + 194))) 2 (some (sa + 213))))] ++ T_27) from (List.mem_append_right _ (hmT_27 _ (List.mem_of_getElem? (i := 0) rfl))))
                                refine va_astq hx hb hK hW.1 hW.2.1 hW.2.2 2 6 qk iLed (r := (R_Led, T_Led, 6)) (n := 16) (f := va_up (va_up (va_up (va_up (fun _ => none) 0 (some (sa + 232))) 1 (some (sa + 242))) 2 (some (sa + 252))) 3 (some (sa + 262))) rfl rfl hqk rfl (vp_in_nI (n := 4) (by decide) (by decide)) d_PC_init_164 (fun H locs h1 h2 h3 => ?_)
                                rw [show (4 : Int32).toNatClampNeg = 4 by decide] at h1 h2
                                have hW : WW G zs.heap ([(sa, .inr (iPC, [.ref (sa + 1), .ref (sa + 132), .ref (sa + 2), .int (2), .ref (sa + 3), .ref (sa + 4), .ref (sa + 130), .ref (sa + 131), .int (0)])), (sa + 1, aR (gC G 4) (3) (va_up (va_up (va_up (fun _ => none) 0 (some (sa + 133))) 1 (some (sa + 147))) 2 (some (sa + 161)))), (sa + 2, aR (gC G 6) (16) (va_up (va_up (va_up (va_up (va_up (fun _ => none) 0 (some (sa + 232))) 1 (some (sa + 242))) 2 (some (sa + 252))) 3 (some (sa + 262))) 4 (some (sa + 272)))), (sa + 3, aI (gC G 0) (3) (fun _ => 0)), (sa + 130, aI (gC G 0) (8) (fun _ => 0)), (sa + 131, aI (gC G 1) (8) (fun _ => 0)), (sa + 132, aR (gC G 5) (3) (va_up (va_up (va_up (fun _ => none) 0 (some (sa + 175))) 1 (some (sa + 194))) 2 (some (sa + 213))))] ++ T_27) H locs := ⟨h1, h2, h3⟩
                                refine lv_iinc (v := 5) (lv' := [(3, .int (5)), (2, .int (3)), (0, .ref sa), (1, .int (f))]) hx hb d_PC_init_165 hl (k := 0) rfl (by decide) (by decide) rfl (fun ls hl => ?_)
                                refine lv_goto (tgt := 145) hx hb d_PC_init_168 (by decide) ?_
                                refine lv_iload_n hx hb d_PC_init_145 rfl (lv_at hl 0 rfl) ?_
                                refine lv_bipush (v := 16) hx hb d_PC_init_146 (by decide) ?_
                                refine lv_icmp_ge (tgt := 171) hx hb d_PC_init_148 (by decide) (fun c_28 => ?_) (fun c_28 => ?_)
                                · exact absurd c_28 (by decide)
                                · skip
                                  refine lv_aload_n hx hb d_PC_init_151 rfl (lv_at hl 2 rfl) ?_
                                  refine va_get (v := .ref (sa + 2)) hx hb hts i_PC hown hK hW.1 0 rfl rfl 2 (by decide) (hts _ kw_195) (fun _ h => h) rfl d_PC_init_152 ?_
                                  refine lv_iload_n hx hb d_PC_init_155 rfl (lv_at hl 0 rfl) ?_
                                  refine W_sz (fun hzu => ?_)
                                  have hzl := (va_P_mem.mp hW.1 _ (show (sa + 281, _) ∈ ([(sa, .inr (iPC, [.ref (sa + 1), .ref (sa + 132), .ref (sa + 2), .int (2), .ref (sa + 3), .ref (sa + 4), .ref (sa + 130), .ref (sa + 131), .int (0)])), (sa + 1, aR (gC G 4) (3) (va_up (va_up (va_up (fun _ => none) 0 (some (sa + 133))) 1 (some (sa + 147))) 2 (some (sa + 161)))), (sa + 2, aR (gC G 6) (16) (va_up (va_up (va_up (va_up (va_up (fun _ => none) 0 (some (sa + 232))) 1 (some (sa + 242))) 2 (some (sa + 252))) 3 (some (sa + 262))) 4 (some (sa + 272)))), (sa + 3, aI (gC G 0) (3) (fun _ => 0)), (sa + 130, aI (gC G 0) (8) (fun _ => 0)), (sa + 131, aI (gC G 1) (8) (fun _ => 0)), (sa + 132, aR (gC G 5) (3) (va_up (va_up (va_up (fun _ => none) 0 (some (sa + 175))) 1 (some (sa + 194))) 2 (some (sa + 213))))] ++ T_27) from (List.mem_append_right _ (hmT_27 _ (List.mem_of_getElem? (i := 9) rfl))))).lt
                                  have hz : Array.size H = sa + 282 := sz_eq hzu hz0 hzl rfl rfl
                                  have hlt0 := WW_lt hW
                                  rw [hz] at hlt0
                                  refine h_new (G := G) (fs := [.int (0), .int (0), .int (0), .null, .null, .null]) hx hb hts i_Led t_Led t_Led_ok hown kw_549 kw_564 kw_156 hE hW.2.2 hbs (ci := iLed) rfl df_Led (Nat.le_of_ble_eq_true rfl) (Nat.le_of_ble_eq_true rfl) d_PC_init_156 (fun H ha9 hz9 hk9 hS9 => ?_)
                                  have hW := WW_keep hW hk9 hS9
                                  rw [hz] at ha9 hz9 ⊢
                                  refine lv_dup hx hb d_PC_init_159 rfl ?_
                                  refine lv_iload_n hx hb d_PC_init_160 rfl (lv_at hl 1 rfl) ?_
                                  obtain ⟨hP1, hD1⟩ := WW_one ha9
                                  have hgs : gbase G ≤ sa + 282 := gs_le hbs hz0 (by decide)
                                  refine h_cv (G := G) (h_runI (G := G) (G' := gB G (sa + 282)) (I := fun Hz => Hz = H) hx hb hml hown hts hE hW.2.2 hgs rfl (sz_le hz9) rfl (h_LedI3 l (gB G (sa + 282)) H (sa + 282) hz9 hP1 hD1) kw_567 kw_566 rfl kw_156 kw_565 rfl rfl hd_Led_init ⟨Nat.le_of_ble_eq_true rfl, Nat.le_of_ble_eq_true rfl⟩ (As := [.int (3)]) (rest := [.ref (sa + 282), .int (5), .ref (sa + 2)]) rfl hl.1 rfl (Nat.le_of_ble_eq_true rfl) d_PC_init_161 ⟨Nat.le_of_ble_eq_true rfl, Nat.le_of_ble_eq_true rfl⟩) hW.2.2 hgs (fun H9 locs hJ hq9 hk9 hS9 => ?_)
                                  obtain ⟨hJ1, hJ2, hJ3⟩ := hJ
                                  have hW := WW_block hW hlt0 hgs hk9 hJ1 hJ2 hS9
                                  generalize H9 = H at *
                                  obtain ⟨T_29, hT_29⟩ : ∃ t9 : va_W, t9 = T_27 ++ wLedI3 G (sa + 282) := ⟨_, rfl⟩
                                  have hmT_29 : ∀ q ∈ wLedI3 G (sa + 282), q ∈ T_29 := fun q hq => by rw [hT_29]; exact List.mem_append_right _ hq
                                  have hW : WW G zs.heap ([(sa, .inr (iPC, [.ref (sa + 1), .ref (sa + 132), .ref (sa + 2), .int (2), .ref (sa + 3), .ref (sa + 4), .ref (sa + 130), .ref (sa + 131), .int (0)])), (sa + 1, aR (gC G 4) (3) (va_up (va_up (va_up (fun _ => none) 0 (some (sa + 133))) 1 (some (sa + 147))) 2 (some (sa + 161)))), (sa + 2, aR (gC G 6) (16) (va_up (va_up (va_up (va_up (va_up (fun _ => none) 0 (some (sa + 232))) 1 (some (sa + 242))) 2 (some (sa + 252))) 3 (some (sa + 262))) 4 (some (sa + 272)))), (sa + 3, aI (gC G 0) (3) (fun _ => 0)), (sa + 130, aI (gC G 0) (8) (fun _ => 0)), (sa + 131, aI (gC G 1) (8) (fun _ => 0)), (sa + 132, aR (gC G 5) (3) (va_up (va_up (va_up (fun _ => none) 0 (some (sa + 175))) 1 (some (sa + 194))) 2 (some (sa + 213))))] ++ T_29) H locs := by rw [hT_29, ← List.append_assoc]; exact hW
                                  obtain ⟨qk, hqk⟩ := List.getElem?_of_mem (show (sa + 282, _) ∈ ([(sa, .inr (iPC, [.ref (sa + 1), .ref (sa + 132), .ref (sa + 2), .int (2), .ref (sa + 3), .ref (sa + 4), .ref (sa + 130), .ref (sa + 131), .int (0)])), (sa + 1, aR (gC G 4) (3) (va_up (va_up (va_up (fun _ => none) 0 (some (sa + 133))) 1 (some (sa + 147))) 2 (some (sa + 161)))), (sa + 2, aR (gC G 6) (16) (va_up (va_up (va_up (va_up (va_up (fun _ => none) 0 (some (sa + 232))) 1 (some (sa + 242))) 2 (some (sa + 252))) 3 (some (sa + 262))) 4 (some (sa + 272)))), (sa + 3, aI (gC G 0) (3) (fun _ => 0)), (sa + 130, aI (gC G 0) (8) (fun _ => 0)), (sa + 131, aI (gC G 1) (8) (fun _ => 0)), (sa + 132, aR (gC G 5) (3) (va_up (va_up (va_up (fun _ => none) 0 (some (sa + 175))) 1 (some (sa + 194))) 2 (some (sa + 213))))] ++ T_29) from (List.mem_append_right _ (hmT_29 _ (List.mem_of_getElem? (i := 0) rfl))))
                                  refine va_astq hx hb hK hW.1 hW.2.1 hW.2.2 2 6 qk iLed (r := (R_Led, T_Led, 6)) (n := 16) (f := va_up (va_up (va_up (va_up (va_up (fun _ => none) 0 (some (sa + 232))) 1 (some (sa + 242))) 2 (some (sa + 252))) 3 (some (sa + 262))) 4 (some (sa + 272))) rfl rfl hqk rfl (vp_in_nI (n := 5) (by decide) (by decide)) d_PC_init_164 (fun H locs h1 h2 h3 => ?_)
                                  rw [show (5 : Int32).toNatClampNeg = 5 by decide] at h1 h2
                                  have hW : WW G zs.heap ([(sa, .inr (iPC, [.ref (sa + 1), .ref (sa + 132), .ref (sa + 2), .int (2), .ref (sa + 3), .ref (sa + 4), .ref (sa + 130), .ref (sa + 131), .int (0)])), (sa + 1, aR (gC G 4) (3) (va_up (va_up (va_up (fun _ => none) 0 (some (sa + 133))) 1 (some (sa + 147))) 2 (some (sa + 161)))), (sa + 2, aR (gC G 6) (16) (va_up (va_up (va_up (va_up (va_up (va_up (fun _ => none) 0 (some (sa + 232))) 1 (some (sa + 242))) 2 (some (sa + 252))) 3 (some (sa + 262))) 4 (some (sa + 272))) 5 (some (sa + 282)))), (sa + 3, aI (gC G 0) (3) (fun _ => 0)), (sa + 130, aI (gC G 0) (8) (fun _ => 0)), (sa + 131, aI (gC G 1) (8) (fun _ => 0)), (sa + 132, aR (gC G 5) (3) (va_up (va_up (va_up (fun _ => none) 0 (some (sa + 175))) 1 (some (sa + 194))) 2 (some (sa + 213))))] ++ T_29) H locs := ⟨h1, h2, h3⟩
                                  refine lv_iinc (v := 6) (lv' := [(3, .int (6)), (2, .int (3)), (0, .ref sa), (1, .int (f))]) hx hb d_PC_init_165 hl (k := 0) rfl (by decide) (by decide) rfl (fun ls hl => ?_)
                                  refine lv_goto (tgt := 145) hx hb d_PC_init_168 (by decide) ?_
                                  refine lv_iload_n hx hb d_PC_init_145 rfl (lv_at hl 0 rfl) ?_
                                  refine lv_bipush (v := 16) hx hb d_PC_init_146 (by decide) ?_
                                  refine lv_icmp_ge (tgt := 171) hx hb d_PC_init_148 (by decide) (fun c_30 => ?_) (fun c_30 => ?_)
                                  · exact absurd c_30 (by decide)
                                  · skip
                                    refine lv_aload_n hx hb d_PC_init_151 rfl (lv_at hl 2 rfl) ?_
                                    refine va_get (v := .ref (sa + 2)) hx hb hts i_PC hown hK hW.1 0 rfl rfl 2 (by decide) (hts _ kw_195) (fun _ h => h) rfl d_PC_init_152 ?_
                                    refine lv_iload_n hx hb d_PC_init_155 rfl (lv_at hl 0 rfl) ?_
                                    refine W_sz (fun hzu => ?_)
                                    have hzl := (va_P_mem.mp hW.1 _ (show (sa + 291, _) ∈ ([(sa, .inr (iPC, [.ref (sa + 1), .ref (sa + 132), .ref (sa + 2), .int (2), .ref (sa + 3), .ref (sa + 4), .ref (sa + 130), .ref (sa + 131), .int (0)])), (sa + 1, aR (gC G 4) (3) (va_up (va_up (va_up (fun _ => none) 0 (some (sa + 133))) 1 (some (sa + 147))) 2 (some (sa + 161)))), (sa + 2, aR (gC G 6) (16) (va_up (va_up (va_up (va_up (va_up (va_up (fun _ => none) 0 (some (sa + 232))) 1 (some (sa + 242))) 2 (some (sa + 252))) 3 (some (sa + 262))) 4 (some (sa + 272))) 5 (some (sa + 282)))), (sa + 3, aI (gC G 0) (3) (fun _ => 0)), (sa + 130, aI (gC G 0) (8) (fun _ => 0)), (sa + 131, aI (gC G 1) (8) (fun _ => 0)), (sa + 132, aR (gC G 5) (3) (va_up (va_up (va_up (fun _ => none) 0 (some (sa + 175))) 1 (some (sa + 194))) 2 (some (sa + 213))))] ++ T_29) from (List.mem_append_right _ (hmT_29 _ (List.mem_of_getElem? (i := 9) rfl))))).lt
                                    have hz : Array.size H = sa + 292 := sz_eq hzu hz0 hzl rfl rfl
                                    have hlt0 := WW_lt hW
                                    rw [hz] at hlt0
                                    refine h_new (G := G) (fs := [.int (0), .int (0), .int (0), .null, .null, .null]) hx hb hts i_Led t_Led t_Led_ok hown kw_549 kw_564 kw_156 hE hW.2.2 hbs (ci := iLed) rfl df_Led (Nat.le_of_ble_eq_true rfl) (Nat.le_of_ble_eq_true rfl) d_PC_init_156 (fun H ha9 hz9 hk9 hS9 => ?_)
                                    have hW := WW_keep hW hk9 hS9
                                    rw [hz] at ha9 hz9 ⊢
                                    refine lv_dup hx hb d_PC_init_159 rfl ?_
                                    refine lv_iload_n hx hb d_PC_init_160 rfl (lv_at hl 1 rfl) ?_
                                    obtain ⟨hP1, hD1⟩ := WW_one ha9
                                    have hgs : gbase G ≤ sa + 292 := gs_le hbs hz0 (by decide)
                                    refine h_cv (G := G) (h_runI (G := G) (G' := gB G (sa + 292)) (I := fun Hz => Hz = H) hx hb hml hown hts hE hW.2.2 hgs rfl (sz_le hz9) rfl (h_LedI3 l (gB G (sa + 292)) H (sa + 292) hz9 hP1 hD1) kw_567 kw_566 rfl kw_156 kw_565 rfl rfl hd_Led_init ⟨Nat.le_of_ble_eq_true rfl, Nat.le_of_ble_eq_true rfl⟩ (As := [.int (3)]) (rest := [.ref (sa + 292), .int (6), .ref (sa + 2)]) rfl hl.1 rfl (Nat.le_of_ble_eq_true rfl) d_PC_init_161 ⟨Nat.le_of_ble_eq_true rfl, Nat.le_of_ble_eq_true rfl⟩) hW.2.2 hgs (fun H9 locs hJ hq9 hk9 hS9 => ?_)
                                    obtain ⟨hJ1, hJ2, hJ3⟩ := hJ
                                    have hW := WW_block hW hlt0 hgs hk9 hJ1 hJ2 hS9
                                    generalize H9 = H at *
                                    obtain ⟨T_31, hT_31⟩ : ∃ t9 : va_W, t9 = T_29 ++ wLedI3 G (sa + 292) := ⟨_, rfl⟩
                                    have hmT_31 : ∀ q ∈ wLedI3 G (sa + 292), q ∈ T_31 := fun q hq => by rw [hT_31]; exact List.mem_append_right _ hq
                                    have hW : WW G zs.heap ([(sa, .inr (iPC, [.ref (sa + 1), .ref (sa + 132), .ref (sa + 2), .int (2), .ref (sa + 3), .ref (sa + 4), .ref (sa + 130), .ref (sa + 131), .int (0)])), (sa + 1, aR (gC G 4) (3) (va_up (va_up (va_up (fun _ => none) 0 (some (sa + 133))) 1 (some (sa + 147))) 2 (some (sa + 161)))), (sa + 2, aR (gC G 6) (16) (va_up (va_up (va_up (va_up (va_up (va_up (fun _ => none) 0 (some (sa + 232))) 1 (some (sa + 242))) 2 (some (sa + 252))) 3 (some (sa + 262))) 4 (some (sa + 272))) 5 (some (sa + 282)))), (sa + 3, aI (gC G 0) (3) (fun _ => 0)), (sa + 130, aI (gC G 0) (8) (fun _ => 0)), (sa + 131, aI (gC G 1) (8) (fun _ => 0)), (sa + 132, aR (gC G 5) (3) (va_up (va_up (va_up (fun _ => none) 0 (some (sa + 175))) 1 (some (sa + 194))) 2 (some (sa + 213))))] ++ T_31) H locs := by rw [hT_31, ← List.append_assoc]; exact hW
                                    obtain ⟨qk, hqk⟩ := List.getElem?_of_mem (show (sa + 292, _) ∈ ([(sa, .inr (iPC, [.ref (sa + 1), .ref (sa + 132), .ref (sa + 2), .int (2), .ref (sa + 3), .ref (sa + 4), .ref (sa + 130), .ref (sa + 131), .int (0)])), (sa + 1, aR (gC G 4) (3) (va_up (va_up (va_up (fun _ => none) 0 (some (sa + 133))) 1 (some (sa + 147))) 2 (some (sa + 161)))), (sa + 2, aR (gC G 6) (16) (va_up (va_up (va_up (va_up (va_up (va_up (fun _ => none) 0 (some (sa + 232))) 1 (some (sa + 242))) 2 (some (sa + 252))) 3 (some (sa + 262))) 4 (some (sa + 272))) 5 (some (sa + 282)))), (sa + 3, aI (gC G 0) (3) (fun _ => 0)), (sa + 130, aI (gC G 0) (8) (fun _ => 0)), (sa + 131, aI (gC G 1) (8) (fun _ => 0)), (sa + 132, aR (gC G 5) (3) (va_up (va_up (va_up (fun _ => none) 0 (some (sa + 175))) 1 (some (sa + 194))) 2 (some (sa + 213))))] ++ T_31) from (List.mem_append_right _ (hmT_31 _ (List.mem_of_getElem? (i := 0) rfl))))
                                    refine va_astq hx hb hK hW.1 hW.2.1 hW.2.2 2 6 qk iLed (r := (R_Led, T_Led, 6)) (n := 16) (f := va_up (va_up (va_up (va_up (va_up (va_up (fun _ => none) 0 (some (sa + 232))) 1 (some (sa + 242))) 2 (some (sa + 252))) 3 (some (sa + 262))) 4 (some (sa + 272))) 5 (some (sa + 282))) rfl rfl hqk rfl (vp_in_nI (n := 6) (by decide) (by decide)) d_PC_init_164 (fun H locs h1 h2 h3 => ?_)
                                    rw [show (6 : Int32).toNatClampNeg = 6 by decide] at h1 h2
                                    have hW : WW G zs.heap ([(sa, .inr (iPC, [.ref (sa + 1), .ref (sa + 132), .ref (sa + 2), .int (2), .ref (sa + 3), .ref (sa + 4), .ref (sa + 130), .ref (sa + 131), .int (0)])), (sa + 1, aR (gC G 4) (3) (va_up (va_up (va_up (fun _ => none) 0 (some (sa + 133))) 1 (some (sa + 147))) 2 (some (sa + 161)))), (sa + 2, aR (gC G 6) (16) (va_up (va_up (va_up (va_up (va_up (va_up (va_up (fun _ => none) 0 (some (sa + 232))) 1 (some (sa + 242))) 2 (some (sa + 252))) 3 (some (sa + 262))) 4 (some (sa + 272))) 5 (some (sa + 282))) 6 (some (sa + 292)))), (sa + 3, aI (gC G 0) (3) (fun _ => 0)), (sa + 130, aI (gC G 0) (8) (fun _ => 0)), (sa + 131, aI (gC G 1) (8) (fun _ => 0)), (sa + 132, aR (gC G 5) (3) (va_up (va_up (va_up (fun _ => none) 0 (some (sa + 175))) 1 (some (sa + 194))) 2 (some (sa + 213))))] ++ T_31) H locs := ⟨h1, h2, h3⟩
                                    refine lv_iinc (v := 7) (lv' := [(3, .int (7)), (2, .int (3)), (0, .ref sa), (1, .int (f))]) hx hb d_PC_init_165 hl (k := 0) rfl (by decide) (by decide) rfl (fun ls hl => ?_)
                                    refine lv_goto (tgt := 145) hx hb d_PC_init_168 (by decide) ?_
                                    refine lv_iload_n hx hb d_PC_init_145 rfl (lv_at hl 0 rfl) ?_
                                    refine lv_bipush (v := 16) hx hb d_PC_init_146 (by decide) ?_
                                    refine lv_icmp_ge (tgt := 171) hx hb d_PC_init_148 (by decide) (fun c_32 => ?_) (fun c_32 => ?_)
                                    · exact absurd c_32 (by decide)
                                    · skip
                                      refine lv_aload_n hx hb d_PC_init_151 rfl (lv_at hl 2 rfl) ?_
                                      refine va_get (v := .ref (sa + 2)) hx hb hts i_PC hown hK hW.1 0 rfl rfl 2 (by decide) (hts _ kw_195) (fun _ h => h) rfl d_PC_init_152 ?_
                                      refine lv_iload_n hx hb d_PC_init_155 rfl (lv_at hl 0 rfl) ?_
                                      refine W_sz (fun hzu => ?_)
                                      have hzl := (va_P_mem.mp hW.1 _ (show (sa + 301, _) ∈ ([(sa, .inr (iPC, [.ref (sa + 1), .ref (sa + 132), .ref (sa + 2), .int (2), .ref (sa + 3), .ref (sa + 4), .ref (sa + 130), .ref (sa + 131), .int (0)])), (sa + 1, aR (gC G 4) (3) (va_up (va_up (va_up (fun _ => none) 0 (some (sa + 133))) 1 (some (sa + 147))) 2 (some (sa + 161)))), (sa + 2, aR (gC G 6) (16) (va_up (va_up (va_up (va_up (va_up (va_up (va_up (fun _ => none) 0 (some (sa + 232))) 1 (some (sa + 242))) 2 (some (sa + 252))) 3 (some (sa + 262))) 4 (some (sa + 272))) 5 (some (sa + 282))) 6 (some (sa + 292)))), (sa + 3, aI (gC G 0) (3) (fun _ => 0)), (sa + 130, aI (gC G 0) (8) (fun _ => 0)), (sa + 131, aI (gC G 1) (8) (fun _ => 0)), (sa + 132, aR (gC G 5) (3) (va_up (va_up (va_up (fun _ => none) 0 (some (sa + 175))) 1 (some (sa + 194))) 2 (some (sa + 213))))] ++ T_31) from (List.mem_append_right _ (hmT_31 _ (List.mem_of_getElem? (i := 9) rfl))))).lt
                                      have hz : Array.size H = sa + 302 := sz_eq hzu hz0 hzl rfl rfl
                                      have hlt0 := WW_lt hW
                                      rw [hz] at hlt0
                                      refine h_new (G := G) (fs := [.int (0), .int (0), .int (0), .null, .null, .null]) hx hb hts i_Led t_Led t_Led_ok hown kw_549 kw_564 kw_156 hE hW.2.2 hbs (ci := iLed) rfl df_Led (Nat.le_of_ble_eq_true rfl) (Nat.le_of_ble_eq_true rfl) d_PC_init_156 (fun H ha9 hz9 hk9 hS9 => ?_)
                                      have hW := WW_keep hW hk9 hS9
                                      rw [hz] at ha9 hz9 ⊢
                                      refine lv_dup hx hb d_PC_init_159 rfl ?_
                                      refine lv_iload_n hx hb d_PC_init_160 rfl (lv_at hl 1 rfl) ?_
                                      obtain ⟨hP1, hD1⟩ := WW_one ha9
                                      have hgs : gbase G ≤ sa + 302 := gs_le hbs hz0 (by decide)
                                      refine h_cv (G := G) (h_runI (G := G) (G' := gB G (sa + 302)) (I := fun Hz => Hz = H) hx hb hml hown hts hE hW.2.2 hgs rfl (sz_le hz9) rfl (h_LedI3 l (gB G (sa + 302)) H (sa + 302) hz9 hP1 hD1) kw_567 kw_566 rfl kw_156 kw_565 rfl rfl hd_Led_init ⟨Nat.le_of_ble_eq_true rfl, Nat.le_of_ble_eq_true rfl⟩ (As := [.int (3)]) (rest := [.ref (sa + 302), .int (7), .ref (sa + 2)]) rfl hl.1 rfl (Nat.le_of_ble_eq_true rfl) d_PC_init_161 ⟨Nat.le_of_ble_eq_true rfl, Nat.le_of_ble_eq_true rfl⟩) hW.2.2 hgs (fun H9 locs hJ hq9 hk9 hS9 => ?_)
                                      obtain ⟨hJ1, hJ2, hJ3⟩ := hJ
                                      have hW := WW_block hW hlt0 hgs hk9 hJ1 hJ2 hS9
                                      generalize H9 = H at *
                                      obtain ⟨T_33, hT_33⟩ : ∃ t9 : va_W, t9 = T_31 ++ wLedI3 G (sa + 302) := ⟨_, rfl⟩
                                      have hmT_33 : ∀ q ∈ wLedI3 G (sa + 302), q ∈ T_33 := fun q hq => by rw [hT_33]; exact List.mem_append_right _ hq
                                      have hW : WW G zs.heap ([(sa, .inr (iPC, [.ref (sa + 1), .ref (sa + 132), .ref (sa + 2), .int (2), .ref (sa + 3), .ref (sa + 4), .ref (sa + 130), .ref (sa + 131), .int (0)])), (sa + 1, aR (gC G 4) (3) (va_up (va_up (va_up (fun _ => none) 0 (some (sa + 133))) 1 (some (sa + 147))) 2 (some (sa + 161)))), (sa + 2, aR (gC G 6) (16) (va_up (va_up (va_up (va_up (va_up (va_up (va_up (fun _ => none) 0 (some (sa + 232))) 1 (some (sa + 242))) 2 (some (sa + 252))) 3 (some (sa + 262))) 4 (some (sa + 272))) 5 (some (sa + 282))) 6 (some (sa + 292)))), (sa + 3, aI (gC G 0) (3) (fun _ => 0)), (sa + 130, aI (gC G 0) (8) (fun _ => 0)), (sa + 131, aI (gC G 1) (8) (fun _ => 0)), (sa + 132, aR (gC G 5) (3) (va_up (va_up (va_up (fun _ => none) 0 (some (sa + 175))) 1 (some (sa + 194))) 2 (some (sa + 213))))] ++ T_33) H locs := by rw [hT_33, ← List.append_assoc]; exact hW
                                      obtain ⟨qk, hqk⟩ := List.getElem?_of_mem (show (sa + 302, _) ∈ ([(sa, .inr (iPC, [.ref (sa + 1), .ref (sa + 132), .ref (sa + 2), .int (2), .ref (sa + 3), .ref (sa + 4), .ref (sa + 130), .ref (sa + 131), .int (0)])), (sa + 1, aR (gC G 4) (3) (va_up (va_up (va_up (fun _ => none) 0 (some (sa + 133))) 1 (some (sa + 147))) 2 (some (sa + 161)))), (sa + 2, aR (gC G 6) (16) (va_up (va_up (va_up (va_up (va_up (va_up (va_up (fun _ => none) 0 (some (sa + 232))) 1 (some (sa + 242))) 2 (some (sa + 252))) 3 (some (sa + 262))) 4 (some (sa + 272))) 5 (some (sa + 282))) 6 (some (sa + 292)))), (sa + 3, aI (gC G 0) (3) (fun _ => 0)), (sa + 130, aI (gC G 0) (8) (fun _ => 0)), (sa + 131, aI (gC G 1) (8) (fun _ => 0)), (sa + 132, aR (gC G 5) (3) (va_up (va_up (va_up (fun _ => none) 0 (some (sa + 175))) 1 (some (sa + 194))) 2 (some (sa + 213))))] ++ T_33) from (List.mem_append_right _ (hmT_33 _ (List.mem_of_getElem? (i := 0) rfl))))
                                      refine va_astq hx hb hK hW.1 hW.2.1 hW.2.2 2 6 qk iLed (r := (R_Led, T_Led, 6)) (n := 16) (f := va_up (va_up (va_up (va_up (va_up (va_up (va_up (fun _ => none) 0 (some (sa + 232))) 1 (some (sa + 242))) 2 (some (sa + 252))) 3 (some (sa + 262))) 4 (some (sa + 272))) 5 (some (sa + 282))) 6 (some (sa + 292))) rfl rfl hqk rfl (vp_in_nI (n := 7) (by decide) (by decide)) d_PC_init_164 (fun H locs h1 h2 h3 => ?_)
                                      rw [show (7 : Int32).toNatClampNeg = 7 by decide] at h1 h2
                                      have hW : WW G zs.heap ([(sa, .inr (iPC, [.ref (sa + 1), .ref (sa + 132), .ref (sa + 2), .int (2), .ref (sa + 3), .ref (sa + 4), .ref (sa + 130), .ref (sa + 131), .int (0)])), (sa + 1, aR (gC G 4) (3) (va_up (va_up (va_up (fun _ => none) 0 (some (sa + 133))) 1 (some (sa + 147))) 2 (some (sa + 161)))), (sa + 2, aR (gC G 6) (16) (va_up (va_up (va_up (va_up (va_up (va_up (va_up (va_up (fun _ => none) 0 (some (sa + 232))) 1 (some (sa + 242))) 2 (some (sa + 252))) 3 (some (sa + 262))) 4 (some (sa + 272))) 5 (some (sa + 282))) 6 (some (sa + 292))) 7 (some (sa + 302)))), (sa + 3, aI (gC G 0) (3) (fun _ => 0)), (sa + 130, aI (gC G 0) (8) (fun _ => 0)), (sa + 131, aI (gC G 1) (8) (fun _ => 0)), (sa + 132, aR (gC G 5) (3) (va_up (va_up (va_up (fun _ => none) 0 (some (sa + 175))) 1 (some (sa + 194))) 2 (some (sa + 213))))] ++ T_33) H locs := ⟨h1, h2, h3⟩
                                      refine lv_iinc (v := 8) (lv' := [(3, .int (8)), (2, .int (3)), (0, .ref sa), (1, .int (f))]) hx hb d_PC_init_165 hl (k := 0) rfl (by decide) (by decide) rfl (fun ls hl => ?_)
                                      refine lv_goto (tgt := 145) hx hb d_PC_init_168 (by decide) ?_
                                      refine lv_iload_n hx hb d_PC_init_145 rfl (lv_at hl 0 rfl) ?_
                                      refine lv_bipush (v := 16) hx hb d_PC_init_146 (by decide) ?_
                                      refine lv_icmp_ge (tgt := 171) hx hb d_PC_init_148 (by decide) (fun c_34 => ?_) (fun c_34 => ?_)
                                      · exact absurd c_34 (by decide)
                                      · skip
                                        refine lv_aload_n hx hb d_PC_init_151 rfl (lv_at hl 2 rfl) ?_
                                        refine va_get (v := .ref (sa + 2)) hx hb hts i_PC hown hK hW.1 0 rfl rfl 2 (by decide) (hts _ kw_195) (fun _ h => h) rfl d_PC_init_152 ?_
                                        refine lv_iload_n hx hb d_PC_init_155 rfl (lv_at hl 0 rfl) ?_
                                        refine W_sz (fun hzu => ?_)
                                        have hzl := (va_P_mem.mp hW.1 _ (show (sa + 311, _) ∈ ([(sa, .inr (iPC, [.ref (sa + 1), .ref (sa + 132), .ref (sa + 2), .int (2), .ref (sa + 3), .ref (sa + 4), .ref (sa + 130), .ref (sa + 131), .int (0)])), (sa + 1, aR (gC G 4) (3) (va_up (va_up (va_up (fun _ => none) 0 (some (sa + 133))) 1 (some (sa + 147))) 2 (some (sa + 161)))), (sa + 2, aR (gC G 6) (16) (va_up (va_up (va_up (va_up (va_up (va_up (va_up (va_up (fun _ => none) 0 (some (sa + 232))) 1 (some (sa + 242))) 2 (some (sa + 252))) 3 (some (sa + 262))) 4 (some (sa + 272))) 5 (some (sa + 282))) 6 (some (sa + 292))) 7 (some (sa + 302)))), (sa + 3, aI (gC G 0) (3) (fun _ => 0)), (sa + 130, aI (gC G 0) (8) (fun _ => 0)), (sa + 131, aI (gC G 1) (8) (fun _ => 0)), (sa + 132, aR (gC G 5) (3) (va_up (va_up (va_up (fun _ => none) 0 (some (sa + 175))) 1 (some (sa + 194))) 2 (some (sa + 213))))] ++ T_33) from (List.mem_append_right _ (hmT_33 _ (List.mem_of_getElem? (i := 9) rfl))))).lt
                                        have hz : Array.size H = sa + 312 := sz_eq hzu hz0 hzl rfl rfl
                                        have hlt0 := WW_lt hW
                                        rw [hz] at hlt0
                                        refine h_new (G := G) (fs := [.int (0), .int (0), .int (0), .null, .null, .null]) hx hb hts i_Led t_Led t_Led_ok hown kw_549 kw_564 kw_156 hE hW.2.2 hbs (ci := iLed) rfl df_Led (Nat.le_of_ble_eq_true rfl) (Nat.le_of_ble_eq_true rfl) d_PC_init_156 (fun H ha9 hz9 hk9 hS9 => ?_)
                                        have hW := WW_keep hW hk9 hS9
                                        rw [hz] at ha9 hz9 ⊢
                                        refine lv_dup hx hb d_PC_init_159 rfl ?_
                                        refine lv_iload_n hx hb d_PC_init_160 rfl (lv_at hl 1 rfl) ?_
                                        obtain ⟨hP1, hD1⟩ := WW_one ha9
                                        have hgs : gbase G ≤ sa + 312 := gs_le hbs hz0 (by decide)
                                        refine h_cv (G := G) (h_runI (G := G) (G' := gB G (sa + 312)) (I := fun Hz => Hz = H) hx hb hml hown hts hE hW.2.2 hgs rfl (sz_le hz9) rfl (h_LedI3 l (gB G (sa + 312)) H (sa + 312) hz9 hP1 hD1) kw_567 kw_566 rfl kw_156 kw_565 rfl rfl hd_Led_init ⟨Nat.le_of_ble_eq_true rfl, Nat.le_of_ble_eq_true rfl⟩ (As := [.int (3)]) (rest := [.ref (sa + 312), .int (8), .ref (sa + 2)]) rfl hl.1 rfl (Nat.le_of_ble_eq_true rfl) d_PC_init_161 ⟨Nat.le_of_ble_eq_true rfl, Nat.le_of_ble_eq_true rfl⟩) hW.2.2 hgs (fun H9 locs hJ hq9 hk9 hS9 => ?_)
                                        obtain ⟨hJ1, hJ2, hJ3⟩ := hJ
                                        have hW := WW_block hW hlt0 hgs hk9 hJ1 hJ2 hS9
                                        generalize H9 = H at *
                                        obtain ⟨T_35, hT_35⟩ : ∃ t9 : va_W, t9 = T_33 ++ wLedI3 G (sa + 312) := ⟨_, rfl⟩
                                        have hmT_35 : ∀ q ∈ wLedI3 G (sa + 312), q ∈ T_35 := fun q hq => by rw [hT_35]; exact List.mem_append_right _ hq
                                        have hW : WW G zs.heap ([(sa, .inr (iPC, [.ref (sa + 1), .ref (sa + 132), .ref (sa + 2), .int (2), .ref (sa + 3), .ref (sa + 4), .ref (sa + 130), .ref (sa + 131), .int (0)])), (sa + 1, aR (gC G 4) (3) (va_up (va_up (va_up (fun _ => none) 0 (some (sa + 133))) 1 (some (sa + 147))) 2 (some (sa + 161)))), (sa + 2, aR (gC G 6) (16) (va_up (va_up (va_up (va_up (va_up (va_up (va_up (va_up (fun _ => none) 0 (some (sa + 232))) 1 (some (sa + 242))) 2 (some (sa + 252))) 3 (some (sa + 262))) 4 (some (sa + 272))) 5 (some (sa + 282))) 6 (some (sa + 292))) 7 (some (sa + 302)))), (sa + 3, aI (gC G 0) (3) (fun _ => 0)), (sa + 130, aI (gC G 0) (8) (fun _ => 0)), (sa + 131, aI (gC G 1) (8) (fun _ => 0)), (sa + 132, aR (gC G 5) (3) (va_up (va_up (va_up (fun _ => none) 0 (some (sa + 175))) 1 (some (sa + 194))) 2 (some (sa + 213))))] ++ T_35) H locs := by rw [hT_35, ← List.append_assoc]; exact hW
                                        obtain ⟨qk, hqk⟩ := List.getElem?_of_mem (show (sa + 312, _) ∈ ([(sa, .inr (iPC, [.ref (sa + 1), .ref (sa + 132), .ref (sa + 2), .int (2), .ref (sa + 3), .ref (sa + 4), .ref (sa + 130), .ref (sa + 131), .int (0)])), (sa + 1, aR (gC G 4) (3) (va_up (va_up (va_up (fun _ => none) 0 (some (sa + 133))) 1 (some (sa + 147))) 2 (some (sa + 161)))), (sa + 2, aR (gC G 6) (16) (va_up (va_up (va_up (va_up (va_up (va_up (va_up (va_up (fun _ => none) 0 (some (sa + 232))) 1 (some (sa + 242))) 2 (some (sa + 252))) 3 (some (sa + 262))) 4 (some (sa + 272))) 5 (some (sa + 282))) 6 (some (sa + 292))) 7 (some (sa + 302)))), (sa + 3, aI (gC G 0) (3) (fun _ => 0)), (sa + 130, aI (gC G 0) (8) (fun _ => 0)), (sa + 131, aI (gC G 1) (8) (fun _ => 0)), (sa + 132, aR (gC G 5) (3) (va_up (va_up (va_up (fun _ => none) 0 (some (sa + 175))) 1 (some (sa + 194))) 2 (some (sa + 213))))] ++ T_35) from (List.mem_append_right _ (hmT_35 _ (List.mem_of_getElem? (i := 0) rfl))))
                                        refine va_astq hx hb hK hW.1 hW.2.1 hW.2.2 2 6 qk iLed (r := (R_Led, T_Led, 6)) (n := 16) (f := va_up (va_up (va_up (va_up (va_up (va_up (va_up (va_up (fun _ => none) 0 (some (sa + 232))) 1 (some (sa + 242))) 2 (some (sa + 252))) 3 (some (sa + 262))) 4 (some (sa + 272))) 5 (some (sa + 282))) 6 (some (sa + 292))) 7 (some (sa + 302))) rfl rfl hqk rfl (vp_in_nI (n := 8) (by decide) (by decide)) d_PC_init_164 (fun H locs h1 h2 h3 => ?_)
                                        rw [show (8 : Int32).toNatClampNeg = 8 by decide] at h1 h2
                                        have hW : WW G zs.heap ([(sa, .inr (iPC, [.ref (sa + 1), .ref (sa + 132), .ref (sa + 2), .int (2), .ref (sa + 3), .ref (sa + 4), .ref (sa + 130), .ref (sa + 131), .int (0)])), (sa + 1, aR (gC G 4) (3) (va_up (va_up (va_up (fun _ => none) 0 (some (sa + 133))) 1 (some (sa + 147))) 2 (some (sa + 161)))), (sa + 2, aR (gC G 6) (16) (va_up (va_up (va_up (va_up (va_up (va_up (va_up (va_up (va_up (fun _ => none) 0 (some (sa + 232))) 1 (some (sa + 242))) 2 (some (sa + 252))) 3 (some (sa + 262))) 4 (some (sa + 272))) 5 (some (sa + 282))) 6 (some (sa + 292))) 7 (some (sa + 302))) 8 (some (sa + 312)))), (sa + 3, aI (gC G 0) (3) (fun _ => 0)), (sa + 130, aI (gC G 0) (8) (fun _ => 0)), (sa + 131, aI (gC G 1) (8) (fun _ => 0)), (sa + 132, aR (gC G 5) (3) (va_up (va_up (va_up (fun _ => none) 0 (some (sa + 175))) 1 (some (sa + 194))) 2 (some (sa + 213))))] ++ T_35) H locs := ⟨h1, h2, h3⟩
                                        refine lv_iinc (v := 9) (lv' := [(3, .int (9)), (2, .int (3)), (0, .ref sa), (1, .int (f))]) hx hb d_PC_init_165 hl (k := 0) rfl (by decide) (by decide) rfl (fun ls hl => ?_)
                                        refine lv_goto (tgt := 145) hx hb d_PC_init_168 (by decide) ?_
                                        refine lv_iload_n hx hb d_PC_init_145 rfl (lv_at hl 0 rfl) ?_
                                        refine lv_bipush (v := 16) hx hb d_PC_init_146 (by decide) ?_
                                        refine lv_icmp_ge (tgt := 171) hx hb d_PC_init_148 (by decide) (fun c_36 => ?_) (fun c_36 => ?_)
                                        · exact absurd c_36 (by decide)
                                        · skip
                                          refine lv_aload_n hx hb d_PC_init_151 rfl (lv_at hl 2 rfl) ?_
                                          refine va_get (v := .ref (sa + 2)) hx hb hts i_PC hown hK hW.1 0 rfl rfl 2 (by decide) (hts _ kw_195) (fun _ h => h) rfl d_PC_init_152 ?_
                                          refine lv_iload_n hx hb d_PC_init_155 rfl (lv_at hl 0 rfl) ?_
                                          refine W_sz (fun hzu => ?_)
                                          have hzl := (va_P_mem.mp hW.1 _ (show (sa + 321, _) ∈ ([(sa, .inr (iPC, [.ref (sa + 1), .ref (sa + 132), .ref (sa + 2), .int (2), .ref (sa + 3), .ref (sa + 4), .ref (sa + 130), .ref (sa + 131), .int (0)])), (sa + 1, aR (gC G 4) (3) (va_up (va_up (va_up (fun _ => none) 0 (some (sa + 133))) 1 (some (sa + 147))) 2 (some (sa + 161)))), (sa + 2, aR (gC G 6) (16) (va_up (va_up (va_up (va_up (va_up (va_up (va_up (va_up (va_up (fun _ => none) 0 (some (sa + 232))) 1 (some (sa + 242))) 2 (some (sa + 252))) 3 (some (sa + 262))) 4 (some (sa + 272))) 5 (some (sa + 282))) 6 (some (sa + 292))) 7 (some (sa + 302))) 8 (some (sa + 312)))), (sa + 3, aI (gC G 0) (3) (fun _ => 0)), (sa + 130, aI (gC G 0) (8) (fun _ => 0)), (sa + 131, aI (gC G 1) (8) (fun _ => 0)), (sa + 132, aR (gC G 5) (3) (va_up (va_up (va_up (fun _ => none) 0 (some (sa + 175))) 1 (some (sa + 194))) 2 (some (sa + 213))))] ++ T_35) from (List.mem_append_right _ (hmT_35 _ (List.mem_of_getElem? (i := 9) rfl))))).lt
                                          have hz : Array.size H = sa + 322 := sz_eq hzu hz0 hzl rfl rfl
                                          have hlt0 := WW_lt hW
                                          rw [hz] at hlt0
                                          refine h_new (G := G) (fs := [.int (0), .int (0), .int (0), .null, .null, .null]) hx hb hts i_Led t_Led t_Led_ok hown kw_549 kw_564 kw_156 hE hW.2.2 hbs (ci := iLed) rfl df_Led (Nat.le_of_ble_eq_true rfl) (Nat.le_of_ble_eq_true rfl) d_PC_init_156 (fun H ha9 hz9 hk9 hS9 => ?_)
                                          have hW := WW_keep hW hk9 hS9
                                          rw [hz] at ha9 hz9 ⊢
                                          refine lv_dup hx hb d_PC_init_159 rfl ?_
                                          refine lv_iload_n hx hb d_PC_init_160 rfl (lv_at hl 1 rfl) ?_
                                          obtain ⟨hP1, hD1⟩ := WW_one ha9
                                          have hgs : gbase G ≤ sa + 322 := gs_le hbs hz0 (by decide)
                                          refine h_cv (G := G) (h_runI (G := G) (G' := gB G (sa + 322)) (I := fun Hz => Hz = H) hx hb hml hown hts hE hW.2.2 hgs rfl (sz_le hz9) rfl (h_LedI3 l (gB G (sa + 322)) H (sa + 322) hz9 hP1 hD1) kw_567 kw_566 rfl kw_156 kw_565 rfl rfl hd_Led_init ⟨Nat.le_of_ble_eq_true rfl, Nat.le_of_ble_eq_true rfl⟩ (As := [.int (3)]) (rest := [.ref (sa + 322), .int (9), .ref (sa + 2)]) rfl hl.1 rfl (Nat.le_of_ble_eq_true rfl) d_PC_init_161 ⟨Nat.le_of_ble_eq_true rfl, Nat.le_of_ble_eq_true rfl⟩) hW.2.2 hgs (fun H9 locs hJ hq9 hk9 hS9 => ?_)
                                          obtain ⟨hJ1, hJ2, hJ3⟩ := hJ
                                          have hW := WW_block hW hlt0 hgs hk9 hJ1 hJ2 hS9
                                          generalize H9 = H at *
                                          obtain ⟨T_37, hT_37⟩ : ∃ t9 : va_W, t9 = T_35 ++ wLedI3 G (sa + 322) := ⟨_, rfl⟩
                                          have hmT_37 : ∀ q ∈ wLedI3 G (sa + 322), q ∈ T_37 := fun q hq => by rw [hT_37]; exact List.mem_append_right _ hq
                                          have hW : WW G zs.heap ([(sa, .inr (iPC, [.ref (sa + 1), .ref (sa + 132), .ref (sa + 2), .int (2), .ref (sa + 3), .ref (sa + 4), .ref (sa + 130), .ref (sa + 131), .int (0)])), (sa + 1, aR (gC G 4) (3) (va_up (va_up (va_up (fun _ => none) 0 (some (sa + 133))) 1 (some (sa + 147))) 2 (some (sa + 161)))), (sa + 2, aR (gC G 6) (16) (va_up (va_up (va_up (va_up (va_up (va_up (va_up (va_up (va_up (fun _ => none) 0 (some (sa + 232))) 1 (some (sa + 242))) 2 (some (sa + 252))) 3 (some (sa + 262))) 4 (some (sa + 272))) 5 (some (sa + 282))) 6 (some (sa + 292))) 7 (some (sa + 302))) 8 (some (sa + 312)))), (sa + 3, aI (gC G 0) (3) (fun _ => 0)), (sa + 130, aI (gC G 0) (8) (fun _ => 0)), (sa + 131, aI (gC G 1) (8) (fun _ => 0)), (sa + 132, aR (gC G 5) (3) (va_up (va_up (va_up (fun _ => none) 0 (some (sa + 175))) 1 (some (sa + 194))) 2 (some (sa + 213))))] ++ T_37) H locs := by rw [hT_37, ← List.append_assoc]; exact hW
                                          obtain ⟨qk, hqk⟩ := List.getElem?_of_mem (show (sa + 322, _) ∈ ([(sa, .inr (iPC, [.ref (sa + 1), .ref (sa + 132), .ref (sa + 2), .int (2), .ref (sa + 3), .ref (sa + 4), .ref (sa + 130), .ref (sa + 131), .int (0)])), (sa + 1, aR (gC G 4) (3) (va_up (va_up (va_up (fun _ => none) 0 (some (sa + 133))) 1 (some (sa + 147))) 2 (some (sa + 161)))), (sa + 2, aR (gC G 6) (16) (va_up (va_up (va_up (va_up (va_up (va_up (va_up (va_up (va_up (fun _ => none) 0 (some (sa + 232))) 1 (some (sa + 242))) 2 (some (sa + 252))) 3 (some (sa + 262))) 4 (some (sa + 272))) 5 (some (sa + 282))) 6 (some (sa + 292))) 7 (some (sa + 302))) 8 (some (sa + 312)))), (sa + 3, aI (gC G 0) (3) (fun _ => 0)), (sa + 130, aI (gC G 0) (8) (fun _ => 0)), (sa + 131, aI (gC G 1) (8) (fun _ => 0)), (sa + 132, aR (gC G 5) (3) (va_up (va_up (va_up (fun _ => none) 0 (some (sa + 175))) 1 (some (sa + 194))) 2 (some (sa + 213))))] ++ T_37) from (List.mem_append_right _ (hmT_37 _ (List.mem_of_getElem? (i := 0) rfl))))
                                          refine va_astq hx hb hK hW.1 hW.2.1 hW.2.2 2 6 qk iLed (r := (R_Led, T_Led, 6)) (n := 16) (f := va_up (va_up (va_up (va_up (va_up (va_up (va_up (va_up (va_up (fun _ => none) 0 (some (sa + 232))) 1 (some (sa + 242))) 2 (some (sa + 252))) 3 (some (sa + 262))) 4 (some (sa + 272))) 5 (some (sa + 282))) 6 (some (sa + 292))) 7 (some (sa + 302))) 8 (some (sa + 312))) rfl rfl hqk rfl (vp_in_nI (n := 9) (by decide) (by decide)) d_PC_init_164 (fun H locs h1 h2 h3 => ?_)
                                          rw [show (9 : Int32).toNatClampNeg = 9 by decide] at h1 h2
                                          have hW : WW G zs.heap ([(sa, .inr (iPC, [.ref (sa + 1), .ref (sa + 132), .ref (sa + 2), .int (2), .ref (sa + 3), .ref (sa + 4), .ref (sa + 130), .ref (sa + 131), .int (0)])), (sa + 1, aR (gC G 4) (3) (va_up (va_up (va_up (fun _ => none) 0 (some (sa + 133))) 1 (some (sa + 147))) 2 (some (sa + 161)))), (sa + 2, aR (gC G 6) (16) (va_up (va_up (va_up (va_up (va_up (va_up (va_up (va_up (va_up (va_up (fun _ => none) 0 (some (sa + 232))) 1 (some (sa + 242))) 2 (some (sa + 252))) 3 (some (sa + 262))) 4 (some (sa + 272))) 5 (some (sa + 282))) 6 (some (sa + 292))) 7 (some (sa + 302))) 8 (some (sa + 312))) 9 (some (sa + 322)))), (sa + 3, aI (gC G 0) (3) (fun _ => 0)), (sa + 130, aI (gC G 0) (8) (fun _ => 0)), (sa + 131, aI (gC G 1) (8) (fun _ => 0)), (sa + 132, aR (gC G 5) (3) (va_up (va_up (va_up (fun _ => none) 0 (some (sa + 175))) 1 (some (sa + 194))) 2 (some (sa + 213))))] ++ T_37) H locs := ⟨h1, h2, h3⟩
                                          refine lv_iinc (v := 10) (lv' := [(3, .int (10)), (2, .int (3)), (0, .ref sa), (1, .int (f))]) hx hb d_PC_init_165 hl (k := 0) rfl (by decide) (by decide) rfl (fun ls hl => ?_)
                                          refine lv_goto (tgt := 145) hx hb d_PC_init_168 (by decide) ?_
                                          refine lv_iload_n hx hb d_PC_init_145 rfl (lv_at hl 0 rfl) ?_
                                          refine lv_bipush (v := 16) hx hb d_PC_init_146 (by decide) ?_
                                          refine lv_icmp_ge (tgt := 171) hx hb d_PC_init_148 (by decide) (fun c_38 => ?_) (fun c_38 => ?_)
                                          · exact absurd c_38 (by decide)
                                          · skip
                                            refine lv_aload_n hx hb d_PC_init_151 rfl (lv_at hl 2 rfl) ?_
                                            refine va_get (v := .ref (sa + 2)) hx hb hts i_PC hown hK hW.1 0 rfl rfl 2 (by decide) (hts _ kw_195) (fun _ h => h) rfl d_PC_init_152 ?_
                                            refine lv_iload_n hx hb d_PC_init_155 rfl (lv_at hl 0 rfl) ?_
                                            refine W_sz (fun hzu => ?_)
                                            have hzl := (va_P_mem.mp hW.1 _ (show (sa + 331, _) ∈ ([(sa, .inr (iPC, [.ref (sa + 1), .ref (sa + 132), .ref (sa + 2), .int (2), .ref (sa + 3), .ref (sa + 4), .ref (sa + 130), .ref (sa + 131), .int (0)])), (sa + 1, aR (gC G 4) (3) (va_up (va_up (va_up (fun _ => none) 0 (some (sa + 133))) 1 (some (sa + 147))) 2 (some (sa + 161)))), (sa + 2, aR (gC G 6) (16) (va_up (va_up (va_up (va_up (va_up (va_up (va_up (va_up (va_up (va_up (fun _ => none) 0 (some (sa + 232))) 1 (some (sa + 242))) 2 (some (sa + 252))) 3 (some (sa + 262))) 4 (some (sa + 272))) 5 (some (sa + 282))) 6 (some (sa + 292))) 7 (some (sa + 302))) 8 (some (sa + 312))) 9 (some (sa + 322)))), (sa + 3, aI (gC G 0) (3) (fun _ => 0)), (sa + 130, aI (gC G 0) (8) (fun _ => 0)), (sa + 131, aI (gC G 1) (8) (fun _ => 0)), (sa + 132, aR (gC G 5) (3) (va_up (va_up (va_up (fun _ => none) 0 (some (sa + 175))) 1 (some (sa + 194))) 2 (some (sa + 213))))] ++ T_37) from (List.mem_append_right _ (hmT_37 _ (List.mem_of_getElem? (i := 9) rfl))))).lt
                                            have hz : Array.size H = sa + 332 := sz_eq hzu hz0 hzl rfl rfl
                                            have hlt0 := WW_lt hW
                                            rw [hz] at hlt0
                                            refine h_new (G := G) (fs := [.int (0), .int (0), .int (0), .null, .null, .null]) hx hb hts i_Led t_Led t_Led_ok hown kw_549 kw_564 kw_156 hE hW.2.2 hbs (ci := iLed) rfl df_Led (Nat.le_of_ble_eq_true rfl) (Nat.le_of_ble_eq_true rfl) d_PC_init_156 (fun H ha9 hz9 hk9 hS9 => ?_)
                                            have hW := WW_keep hW hk9 hS9
                                            rw [hz] at ha9 hz9 ⊢
                                            refine lv_dup hx hb d_PC_init_159 rfl ?_
                                            refine lv_iload_n hx hb d_PC_init_160 rfl (lv_at hl 1 rfl) ?_
                                            obtain ⟨hP1, hD1⟩ := WW_one ha9
                                            have hgs : gbase G ≤ sa + 332 := gs_le hbs hz0 (by decide)
                                            refine h_cv (G := G) (h_runI (G := G) (G' := gB G (sa + 332)) (I := fun Hz => Hz = H) hx hb hml hown hts hE hW.2.2 hgs rfl (sz_le hz9) rfl (h_LedI3 l (gB G (sa + 332)) H (sa + 332) hz9 hP1 hD1) kw_567 kw_566 rfl kw_156 kw_565 rfl rfl hd_Led_init ⟨Nat.le_of_ble_eq_true rfl, Nat.le_of_ble_eq_true rfl⟩ (As := [.int (3)]) (rest := [.ref (sa + 332), .int (10), .ref (sa + 2)]) rfl hl.1 rfl (Nat.le_of_ble_eq_true rfl) d_PC_init_161 ⟨Nat.le_of_ble_eq_true rfl, Nat.le_of_ble_eq_true rfl⟩) hW.2.2 hgs (fun H9 locs hJ hq9 hk9 hS9 => ?_)
                                            obtain ⟨hJ1, hJ2, hJ3⟩ := hJ
                                            have hW := WW_block hW hlt0 hgs hk9 hJ1 hJ2 hS9
                                            generalize H9 = H at *
                                            obtain ⟨T_39, hT_39⟩ : ∃ t9 : va_W, t9 = T_37 ++ wLedI3 G (sa + 332) := ⟨_, rfl⟩
                                            have hmT_39 : ∀ q ∈ wLedI3 G (sa + 332), q ∈ T_39 := fun q hq => by rw [hT_39]; exact List.mem_append_right _ hq
                                            have hW : WW G zs.heap ([(sa, .inr (iPC, [.ref (sa + 1), .ref (sa + 132), .ref (sa + 2), .int (2), .ref (sa + 3), .ref (sa + 4), .ref (sa + 130), .ref (sa + 131), .int (0)])), (sa + 1, aR (gC G 4) (3) (va_up (va_up (va_up (fun _ => none) 0 (some (sa + 133))) 1 (some (sa + 147))) 2 (some (sa + 161)))), (sa + 2, aR (gC G 6) (16) (va_up (va_up (va_up (va_up (va_up (va_up (va_up (va_up (va_up (va_up (fun _ => none) 0 (some (sa + 232))) 1 (some (sa + 242))) 2 (some (sa + 252))) 3 (some (sa + 262))) 4 (some (sa + 272))) 5 (some (sa + 282))) 6 (some (sa + 292))) 7 (some (sa + 302))) 8 (some (sa + 312))) 9 (some (sa + 322)))), (sa + 3, aI (gC G 0) (3) (fun _ => 0)), (sa + 130, aI (gC G 0) (8) (fun _ => 0)), (sa + 131, aI (gC G 1) (8) (fun _ => 0)), (sa + 132, aR (gC G 5) (3) (va_up (va_up (va_up (fun _ => none) 0 (some (sa + 175))) 1 (some (sa + 194))) 2 (some (sa + 213))))] ++ T_39) H locs := by rw [hT_39, ← List.append_assoc]; exact hW
                                            obtain ⟨qk, hqk⟩ := List.getElem?_of_mem (show (sa + 332, _) ∈ ([(sa, .inr (iPC, [.ref (sa + 1), .ref (sa + 132), .ref (sa + 2), .int (2), .ref (sa + 3), .ref (sa + 4), .ref (sa + 130), .ref (sa + 131), .int (0)])), (sa + 1, aR (gC G 4) (3) (va_up (va_up (va_up (fun _ => none) 0 (some (sa + 133))) 1 (some (sa + 147))) 2 (some (sa + 161)))), (sa + 2, aR (gC G 6) (16) (va_up (va_up (va_up (va_up (va_up (va_up (va_up (va_up (va_up (va_up (fun _ => none) 0 (some (sa + 232))) 1 (some (sa + 242))) 2 (some (sa + 252))) 3 (some (sa + 262))) 4 (some (sa + 272))) 5 (some (sa + 282))) 6 (some (sa + 292))) 7 (some (sa + 302))) 8 (some (sa + 312))) 9 (some (sa + 322)))), (sa + 3, aI (gC G 0) (3) (fun _ => 0)), (sa + 130, aI (gC G 0) (8) (fun _ => 0)), (sa + 131, aI (gC G 1) (8) (fun _ => 0)), (sa + 132, aR (gC G 5) (3) (va_up (va_up (va_up (fun _ => none) 0 (some (sa + 175))) 1 (some (sa + 194))) 2 (some (sa + 213))))] ++ T_39) from (List.mem_append_right _ (hmT_39 _ (List.mem_of_getElem? (i := 0) rfl))))
                                            refine va_astq hx hb hK hW.1 hW.2.1 hW.2.2 2 6 qk iLed (r := (R_Led, T_Led, 6)) (n := 16) (f := va_up (va_up (va_up (va_up (va_up (va_up (va_up (va_up (va_up (va_up (fun _ => none) 0 (some (sa + 232))) 1 (some (sa + 242))) 2 (some (sa + 252))) 3 (some (sa + 262))) 4 (some (sa + 272))) 5 (some (sa + 282))) 6 (some (sa + 292))) 7 (some (sa + 302))) 8 (some (sa + 312))) 9 (some (sa + 322))) rfl rfl hqk rfl (vp_in_nI (n := 10) (by decide) (by decide)) d_PC_init_164 (fun H locs h1 h2 h3 => ?_)
                                            rw [show (10 : Int32).toNatClampNeg = 10 by decide] at h1 h2
                                            have hW : WW G zs.heap ([(sa, .inr (iPC, [.ref (sa + 1), .ref (sa + 132), .ref (sa + 2), .int (2), .ref (sa + 3), .ref (sa + 4), .ref (sa + 130), .ref (sa + 131), .int (0)])), (sa + 1, aR (gC G 4) (3) (va_up (va_up (va_up (fun _ => none) 0 (some (sa + 133))) 1 (some (sa + 147))) 2 (some (sa + 161)))), (sa + 2, aR (gC G 6) (16) (va_up (va_up (va_up (va_up (va_up (va_up (va_up (va_up (va_up (va_up (va_up (fun _ => none) 0 (some (sa + 232))) 1 (some (sa + 242))) 2 (some (sa + 252))) 3 (some (sa + 262))) 4 (some (sa + 272))) 5 (some (sa + 282))) 6 (some (sa + 292))) 7 (some (sa + 302))) 8 (some (sa + 312))) 9 (some (sa + 322))) 10 (some (sa + 332)))), (sa + 3, aI (gC G 0) (3) (fun _ => 0)), (sa + 130, aI (gC G 0) (8) (fun _ => 0)), (sa + 131, aI (gC G 1) (8) (fun _ => 0)), (sa + 132, aR (gC G 5) (3) (va_up (va_up (va_up (fun _ => none) 0 (some (sa + 175))) 1 (some (sa + 194))) 2 (some (sa + 213))))] ++ T_39) H locs := ⟨h1, h2, h3⟩
                                            refine lv_iinc (v := 11) (lv' := [(3, .int (11)), (2, .int (3)), (0, .ref sa), (1, .int (f))]) hx hb d_PC_init_165 hl (k := 0) rfl (by decide) (by decide) rfl (fun ls hl => ?_)
                                            refine lv_goto (tgt := 145) hx hb d_PC_init_168 (by decide) ?_
                                            refine lv_iload_n hx hb d_PC_init_145 rfl (lv_at hl 0 rfl) ?_
                                            refine lv_bipush (v := 16) hx hb d_PC_init_146 (by decide) ?_
                                            refine lv_icmp_ge (tgt := 171) hx hb d_PC_init_148 (by decide) (fun c_40 => ?_) (fun c_40 => ?_)
                                            · exact absurd c_40 (by decide)
                                            · skip
                                              refine lv_aload_n hx hb d_PC_init_151 rfl (lv_at hl 2 rfl) ?_
                                              refine va_get (v := .ref (sa + 2)) hx hb hts i_PC hown hK hW.1 0 rfl rfl 2 (by decide) (hts _ kw_195) (fun _ h => h) rfl d_PC_init_152 ?_
                                              refine lv_iload_n hx hb d_PC_init_155 rfl (lv_at hl 0 rfl) ?_
                                              refine W_sz (fun hzu => ?_)
                                              have hzl := (va_P_mem.mp hW.1 _ (show (sa + 341, _) ∈ ([(sa, .inr (iPC, [.ref (sa + 1), .ref (sa + 132), .ref (sa + 2), .int (2), .ref (sa + 3), .ref (sa + 4), .ref (sa + 130), .ref (sa + 131), .int (0)])), (sa + 1, aR (gC G 4) (3) (va_up (va_up (va_up (fun _ => none) 0 (some (sa + 133))) 1 (some (sa + 147))) 2 (some (sa + 161)))), (sa + 2, aR (gC G 6) (16) (va_up (va_up (va_up (va_up (va_up (va_up (va_up (va_up (va_up (va_up (va_up (fun _ => none) 0 (some (sa + 232))) 1 (some (sa + 242))) 2 (some (sa + 252))) 3 (some (sa + 262))) 4 (some (sa + 272))) 5 (some (sa + 282))) 6 (some (sa + 292))) 7 (some (sa + 302))) 8 (some (sa + 312))) 9 (some (sa + 322))) 10 (some (sa + 332)))), (sa + 3, aI (gC G 0) (3) (fun _ => 0)), (sa + 130, aI (gC G 0) (8) (fun _ => 0)), (sa + 131, aI (gC G 1) (8) (fun _ => 0)), (sa + 132, aR (gC G 5) (3) (va_up (va_up (va_up (fun _ => none) 0 (some (sa + 175))) 1 (some (sa + 194))) 2 (some (sa + 213))))] ++ T_39) from (List.mem_append_right _ (hmT_39 _ (List.mem_of_getElem? (i := 9) rfl))))).lt
                                              have hz : Array.size H = sa + 342 := sz_eq hzu hz0 hzl rfl rfl
                                              have hlt0 := WW_lt hW
                                              rw [hz] at hlt0
                                              refine h_new (G := G) (fs := [.int (0), .int (0), .int (0), .null, .null, .null]) hx hb hts i_Led t_Led t_Led_ok hown kw_549 kw_564 kw_156 hE hW.2.2 hbs (ci := iLed) rfl df_Led (Nat.le_of_ble_eq_true rfl) (Nat.le_of_ble_eq_true rfl) d_PC_init_156 (fun H ha9 hz9 hk9 hS9 => ?_)
                                              have hW := WW_keep hW hk9 hS9
                                              rw [hz] at ha9 hz9 ⊢
                                              refine lv_dup hx hb d_PC_init_159 rfl ?_
                                              refine lv_iload_n hx hb d_PC_init_160 rfl (lv_at hl 1 rfl) ?_
                                              obtain ⟨hP1, hD1⟩ := WW_one ha9
                                              have hgs : gbase G ≤ sa + 342 := gs_le hbs hz0 (by decide)
                                              refine h_cv (G := G) (h_runI (G := G) (G' := gB G (sa + 342)) (I := fun Hz => Hz = H) hx hb hml hown hts hE hW.2.2 hgs rfl (sz_le hz9) rfl (h_LedI3 l (gB G (sa + 342)) H (sa + 342) hz9 hP1 hD1) kw_567 kw_566 rfl kw_156 kw_565 rfl rfl hd_Led_init ⟨Nat.le_of_ble_eq_true rfl, Nat.le_of_ble_eq_true rfl⟩ (As := [.int (3)]) (rest := [.ref (sa + 342), .int (11), .ref (sa + 2)]) rfl hl.1 rfl (Nat.le_of_ble_eq_true rfl) d_PC_init_161 ⟨Nat.le_of_ble_eq_true rfl, Nat.le_of_ble_eq_true rfl⟩) hW.2.2 hgs (fun H9 locs hJ hq9 hk9 hS9 => ?_)
                                              obtain ⟨hJ1, hJ2, hJ3⟩ := hJ
                                              have hW := WW_block hW hlt0 hgs hk9 hJ1 hJ2 hS9
                                              generalize H9 = H at *
                                              obtain ⟨T_41, hT_41⟩ : ∃ t9 : va_W, t9 = T_39 ++ wLedI3 G (sa + 342) := ⟨_, rfl⟩
                                              have hmT_41 : ∀ q ∈ wLedI3 G (sa + 342), q ∈ T_41 := fun q hq => by rw [hT_41]; exact List.mem_append_right _ hq
                                              have hW : WW G zs.heap ([(sa, .inr (iPC, [.ref (sa + 1), .ref (sa + 132), .ref (sa + 2), .int (2), .ref (sa + 3), .ref (sa + 4), .ref (sa + 130), .ref (sa + 131), .int (0)])), (sa + 1, aR (gC G 4) (3) (va_up (va_up (va_up (fun _ => none) 0 (some (sa + 133))) 1 (some (sa + 147))) 2 (some (sa + 161)))), (sa + 2, aR (gC G 6) (16) (va_up (va_up (va_up (va_up (va_up (va_up (va_up (va_up (va_up (va_up (va_up (fun _ => none) 0 (some (sa + 232))) 1 (some (sa + 242))) 2 (some (sa + 252))) 3 (some (sa + 262))) 4 (some (sa + 272))) 5 (some (sa + 282))) 6 (some (sa + 292))) 7 (some (sa + 302))) 8 (some (sa + 312))) 9 (some (sa + 322))) 10 (some (sa + 332)))), (sa + 3, aI (gC G 0) (3) (fun _ => 0)), (sa + 130, aI (gC G 0) (8) (fun _ => 0)), (sa + 131, aI (gC G 1) (8) (fun _ => 0)), (sa + 132, aR (gC G 5) (3) (va_up (va_up (va_up (fun _ => none) 0 (some (sa + 175))) 1 (some (sa + 194))) 2 (some (sa + 213))))] ++ T_41) H locs := by rw [hT_41, ← List.append_assoc]; exact hW
                                              obtain ⟨qk, hqk⟩ := List.getElem?_of_mem (show (sa + 342, _) ∈ ([(sa, .inr (iPC, [.ref (sa + 1), .ref (sa + 132), .ref (sa + 2), .int (2), .ref (sa + 3), .ref (sa + 4), .ref (sa + 130), .ref (sa + 131), .int (0)])), (sa + 1, aR (gC G 4) (3) (va_up (va_up (va_up (fun _ => none) 0 (some (sa + 133))) 1 (some (sa + 147))) 2 (some (sa + 161)))), (sa + 2, aR (gC G 6) (16) (va_up (va_up (va_up (va_up (va_up (va_up (va_up (va_up (va_up (va_up (va_up (fun _ => none) 0 (some (sa + 232))) 1 (some (sa + 242))) 2 (some (sa + 252))) 3 (some (sa + 262))) 4 (some (sa + 272))) 5 (some (sa + 282))) 6 (some (sa + 292))) 7 (some (sa + 302))) 8 (some (sa + 312))) 9 (some (sa + 322))) 10 (some (sa + 332)))), (sa + 3, aI (gC G 0) (3) (fun _ => 0)), (sa + 130, aI (gC G 0) (8) (fun _ => 0)), (sa + 131, aI (gC G 1) (8) (fun _ => 0)), (sa + 132, aR (gC G 5) (3) (va_up (va_up (va_up (fun _ => none) 0 (some (sa + 175))) 1 (some (sa + 194))) 2 (some (sa + 213))))] ++ T_41) from (List.mem_append_right _ (hmT_41 _ (List.mem_of_getElem? (i := 0) rfl))))
                                              refine va_astq hx hb hK hW.1 hW.2.1 hW.2.2 2 6 qk iLed (r := (R_Led, T_Led, 6)) (n := 16) (f := va_up (va_up (va_up (va_up (va_up (va_up (va_up (va_up (va_up (va_up (va_up (fun _ => none) 0 (some (sa + 232))) 1 (some (sa + 242))) 2 (some (sa + 252))) 3 (some (sa + 262))) 4 (some (sa + 272))) 5 (some (sa + 282))) 6 (some (sa + 292))) 7 (some (sa + 302))) 8 (some (sa + 312))) 9 (some (sa + 322))) 10 (some (sa + 332))) rfl rfl hqk rfl (vp_in_nI (n := 11) (by decide) (by decide)) d_PC_init_164 (fun H locs h1 h2 h3 => ?_)
                                              rw [show (11 : Int32).toNatClampNeg = 11 by decide] at h1 h2
                                              have hW : WW G zs.heap ([(sa, .inr (iPC, [.ref (sa + 1), .ref (sa + 132), .ref (sa + 2), .int (2), .ref (sa + 3), .ref (sa + 4), .ref (sa + 130), .ref (sa + 131), .int (0)])), (sa + 1, aR (gC G 4) (3) (va_up (va_up (va_up (fun _ => none) 0 (some (sa + 133))) 1 (some (sa + 147))) 2 (some (sa + 161)))), (sa + 2, aR (gC G 6) (16) (va_up (va_up (va_up (va_up (va_up (va_up (va_up (va_up (va_up (va_up (va_up (va_up (fun _ => none) 0 (some (sa + 232))) 1 (some (sa + 242))) 2 (some (sa + 252))) 3 (some (sa + 262))) 4 (some (sa + 272))) 5 (some (sa + 282))) 6 (some (sa + 292))) 7 (some (sa + 302))) 8 (some (sa + 312))) 9 (some (sa + 322))) 10 (some (sa + 332))) 11 (some (sa + 342)))), (sa + 3, aI (gC G 0) (3) (fun _ => 0)), (sa + 130, aI (gC G 0) (8) (fun _ => 0)), (sa + 131, aI (gC G 1) (8) (fun _ => 0)), (sa + 132, aR (gC G 5) (3) (va_up (va_up (va_up (fun _ => none) 0 (some (sa + 175))) 1 (some (sa + 194))) 2 (some (sa + 213))))] ++ T_41) H locs := ⟨h1, h2, h3⟩
                                              refine lv_iinc (v := 12) (lv' := [(3, .int (12)), (2, .int (3)), (0, .ref sa), (1, .int (f))]) hx hb d_PC_init_165 hl (k := 0) rfl (by decide) (by decide) rfl (fun ls hl => ?_)
                                              refine lv_goto (tgt := 145) hx hb d_PC_init_168 (by decide) ?_
                                              refine lv_iload_n hx hb d_PC_init_145 rfl (lv_at hl 0 rfl) ?_
                                              refine lv_bipush (v := 16) hx hb d_PC_init_146 (by decide) ?_
                                              refine lv_icmp_ge (tgt := 171) hx hb d_PC_init_148 (by decide) (fun c_42 => ?_) (fun c_42 => ?_)
                                              · exact absurd c_42 (by decide)
                                              · skip
                                                refine lv_aload_n hx hb d_PC_init_151 rfl (lv_at hl 2 rfl) ?_
                                                refine va_get (v := .ref (sa + 2)) hx hb hts i_PC hown hK hW.1 0 rfl rfl 2 (by decide) (hts _ kw_195) (fun _ h => h) rfl d_PC_init_152 ?_
                                                refine lv_iload_n hx hb d_PC_init_155 rfl (lv_at hl 0 rfl) ?_
                                                refine W_sz (fun hzu => ?_)
                                                have hzl := (va_P_mem.mp hW.1 _ (show (sa + 351, _) ∈ ([(sa, .inr (iPC, [.ref (sa + 1), .ref (sa + 132), .ref (sa + 2), .int (2), .ref (sa + 3), .ref (sa + 4), .ref (sa + 130), .ref (sa + 131), .int (0)])), (sa + 1, aR (gC G 4) (3) (va_up (va_up (va_up (fun _ => none) 0 (some (sa + 133))) 1 (some (sa + 147))) 2 (some (sa + 161)))), (sa + 2, aR (gC G 6) (16) (va_up (va_up (va_up (va_up (va_up (va_up (va_up (va_up (va_up (va_up (va_up (va_up (fun _ => none) 0 (some (sa + 232))) 1 (some (sa + 242))) 2 (some (sa + 252))) 3 (some (sa + 262))) 4 (some (sa + 272))) 5 (some (sa + 282))) 6 (some (sa + 292))) 7 (some (sa + 302))) 8 (some (sa + 312))) 9 (some (sa + 322))) 10 (some (sa + 332))) 11 (some (sa + 342)))), (sa + 3, aI (gC G 0) (3) (fun _ => 0)), (sa + 130, aI (gC G 0) (8) (fun _ => 0)), (sa + 131, aI (gC G 1) (8) (fun _ => 0)), (sa + 132, aR (gC G 5) (3) (va_up (va_up (va_up (fun _ => none) 0 (some (sa + 175))) 1 (some (sa + 194))) 2 (some (sa + 213))))] ++ T_41) from (List.mem_append_right _ (hmT_41 _ (List.mem_of_getElem? (i := 9) rfl))))).lt
                                                have hz : Array.size H = sa + 352 := sz_eq hzu hz0 hzl rfl rfl
                                                have hlt0 := WW_lt hW
                                                rw [hz] at hlt0
                                                refine h_new (G := G) (fs := [.int (0), .int (0), .int (0), .null, .null, .null]) hx hb hts i_Led t_Led t_Led_ok hown kw_549 kw_564 kw_156 hE hW.2.2 hbs (ci := iLed) rfl df_Led (Nat.le_of_ble_eq_true rfl) (Nat.le_of_ble_eq_true rfl) d_PC_init_156 (fun H ha9 hz9 hk9 hS9 => ?_)
                                                have hW := WW_keep hW hk9 hS9
                                                rw [hz] at ha9 hz9 ⊢
                                                refine lv_dup hx hb d_PC_init_159 rfl ?_
                                                refine lv_iload_n hx hb d_PC_init_160 rfl (lv_at hl 1 rfl) ?_
                                                obtain ⟨hP1, hD1⟩ := WW_one ha9
                                                have hgs : gbase G ≤ sa + 352 := gs_le hbs hz0 (by decide)
                                                refine h_cv (G := G) (h_runI (G := G) (G' := gB G (sa + 352)) (I := fun Hz => Hz = H) hx hb hml hown hts hE hW.2.2 hgs rfl (sz_le hz9) rfl (h_LedI3 l (gB G (sa + 352)) H (sa + 352) hz9 hP1 hD1) kw_567 kw_566 rfl kw_156 kw_565 rfl rfl hd_Led_init ⟨Nat.le_of_ble_eq_true rfl, Nat.le_of_ble_eq_true rfl⟩ (As := [.int (3)]) (rest := [.ref (sa + 352), .int (12), .ref (sa + 2)]) rfl hl.1 rfl (Nat.le_of_ble_eq_true rfl) d_PC_init_161 ⟨Nat.le_of_ble_eq_true rfl, Nat.le_of_ble_eq_true rfl⟩) hW.2.2 hgs (fun H9 locs hJ hq9 hk9 hS9 => ?_)
                                                obtain ⟨hJ1, hJ2, hJ3⟩ := hJ
                                                have hW := WW_block hW hlt0 hgs hk9 hJ1 hJ2 hS9
                                                generalize H9 = H at *
                                                obtain ⟨T_43, hT_43⟩ : ∃ t9 : va_W, t9 = T_41 ++ wLedI3 G (sa + 352) := ⟨_, rfl⟩
                                                have hmT_43 : ∀ q ∈ wLedI3 G (sa + 352), q ∈ T_43 := fun q hq => by rw [hT_43]; exact List.mem_append_right _ hq
                                                have hW : WW G zs.heap ([(sa, .inr (iPC, [.ref (sa + 1), .ref (sa + 132), .ref (sa + 2), .int (2), .ref (sa + 3), .ref (sa + 4), .ref (sa + 130), .ref (sa + 131), .int (0)])), (sa + 1, aR (gC G 4) (3) (va_up (va_up (va_up (fun _ => none) 0 (some (sa + 133))) 1 (some (sa + 147))) 2 (some (sa + 161)))), (sa + 2, aR (gC G 6) (16) (va_up (va_up (va_up (va_up (va_up (va_up (va_up (va_up (va_up (va_up (va_up (va_up (fun _ => none) 0 (some (sa + 232))) 1 (some (sa + 242))) 2 (some (sa + 252))) 3 (some (sa + 262))) 4 (some (sa + 272))) 5 (some (sa + 282))) 6 (some (sa + 292))) 7 (some (sa + 302))) 8 (some (sa + 312))) 9 (some (sa + 322))) 10 (some (sa + 332))) 11 (some (sa + 342)))), (sa + 3, aI (gC G 0) (3) (fun _ => 0)), (sa + 130, aI (gC G 0) (8) (fun _ => 0)), (sa + 131, aI (gC G 1) (8) (fun _ => 0)), (sa + 132, aR (gC G 5) (3) (va_up (va_up (va_up (fun _ => none) 0 (some (sa + 175))) 1 (some (sa + 194))) 2 (some (sa + 213))))] ++ T_43) H locs := by rw [hT_43, ← List.append_assoc]; exact hW
                                                obtain ⟨qk, hqk⟩ := List.getElem?_of_mem (show (sa + 352, _) ∈ ([(sa, .inr (iPC, [.ref (sa + 1), .ref (sa + 132), .ref (sa + 2), .int (2), .ref (sa + 3), .ref (sa + 4), .ref (sa + 130), .ref (sa + 131), .int (0)])), (sa + 1, aR (gC G 4) (3) (va_up (va_up (va_up (fun _ => none) 0 (some (sa + 133))) 1 (some (sa + 147))) 2 (some (sa + 161)))), (sa + 2, aR (gC G 6) (16) (va_up (va_up (va_up (va_up (va_up (va_up (va_up (va_up (va_up (va_up (va_up (va_up (fun _ => none) 0 (some (sa + 232))) 1 (some (sa + 242))) 2 (some (sa + 252))) 3 (some (sa + 262))) 4 (some (sa + 272))) 5 (some (sa + 282))) 6 (some (sa + 292))) 7 (some (sa + 302))) 8 (some (sa + 312))) 9 (some (sa + 322))) 10 (some (sa + 332))) 11 (some (sa + 342)))), (sa + 3, aI (gC G 0) (3) (fun _ => 0)), (sa + 130, aI (gC G 0) (8) (fun _ => 0)), (sa + 131, aI (gC G 1) (8) (fun _ => 0)), (sa + 132, aR (gC G 5) (3) (va_up (va_up (va_up (fun _ => none) 0 (some (sa + 175))) 1 (some (sa + 194))) 2 (some (sa + 213))))] ++ T_43) from (List.mem_append_right _ (hmT_43 _ (List.mem_of_getElem? (i := 0) rfl))))
                                                refine va_astq hx hb hK hW.1 hW.2.1 hW.2.2 2 6 qk iLed (r := (R_Led, T_Led, 6)) (n := 16) (f := va_up (va_up (va_up (va_up (va_up (va_up (va_up (va_up (va_up (va_up (va_up (va_up (fun _ => none) 0 (some (sa + 232))) 1 (some (sa + 242))) 2 (some (sa + 252))) 3 (some (sa + 262))) 4 (some (sa + 272))) 5 (some (sa + 282))) 6 (some (sa + 292))) 7 (some (sa + 302))) 8 (some (sa + 312))) 9 (some (sa + 322))) 10 (some (sa + 332))) 11 (some (sa + 342))) rfl rfl hqk rfl (vp_in_nI (n := 12) (by decide) (by decide)) d_PC_init_164 (fun H locs h1 h2 h3 => ?_)
                                                rw [show (12 : Int32).toNatClampNeg = 12 by decide] at h1 h2
                                                have hW : WW G zs.heap ([(sa, .inr (iPC, [.ref (sa + 1), .ref (sa + 132), .ref (sa + 2), .int (2), .ref (sa + 3), .ref (sa + 4), .ref (sa + 130), .ref (sa + 131), .int (0)])), (sa + 1, aR (gC G 4) (3) (va_up (va_up (va_up (fun _ => none) 0 (some (sa + 133))) 1 (some (sa + 147))) 2 (some (sa + 161)))), (sa + 2, aR (gC G 6) (16) (va_up (va_up (va_up (va_up (va_up (va_up (va_up (va_up (va_up (va_up (va_up (va_up (va_up (fun _ => none) 0 (some (sa + 232))) 1 (some (sa + 242))) 2 (some (sa + 252))) 3 (some (sa + 262))) 4 (some (sa + 272))) 5 (some (sa + 282))) 6 (some (sa + 292))) 7 (some (sa + 302))) 8 (some (sa + 312))) 9 (some (sa + 322))) 10 (some (sa + 332))) 11 (some (sa + 342))) 12 (some (sa + 352)))), (sa + 3, aI (gC G 0) (3) (fun _ => 0)), (sa + 130, aI (gC G 0) (8) (fun _ => 0)), (sa + 131, aI (gC G 1) (8) (fun _ => 0)), (sa + 132, aR (gC G 5) (3) (va_up (va_up (va_up (fun _ => none) 0 (some (sa + 175))) 1 (some (sa + 194))) 2 (some (sa + 213))))] ++ T_43) H locs := ⟨h1, h2, h3⟩
                                                refine lv_iinc (v := 13) (lv' := [(3, .int (13)), (2, .int (3)), (0, .ref sa), (1, .int (f))]) hx hb d_PC_init_165 hl (k := 0) rfl (by decide) (by decide) rfl (fun ls hl => ?_)
                                                refine lv_goto (tgt := 145) hx hb d_PC_init_168 (by decide) ?_
                                                refine lv_iload_n hx hb d_PC_init_145 rfl (lv_at hl 0 rfl) ?_
                                                refine lv_bipush (v := 16) hx hb d_PC_init_146 (by decide) ?_
                                                refine lv_icmp_ge (tgt := 171) hx hb d_PC_init_148 (by decide) (fun c_44 => ?_) (fun c_44 => ?_)
                                                · exact absurd c_44 (by decide)
                                                · skip
                                                  refine lv_aload_n hx hb d_PC_init_151 rfl (lv_at hl 2 rfl) ?_
                                                  refine va_get (v := .ref (sa + 2)) hx hb hts i_PC hown hK hW.1 0 rfl rfl 2 (by decide) (hts _ kw_195) (fun _ h => h) rfl d_PC_init_152 ?_
                                                  refine lv_iload_n hx hb d_PC_init_155 rfl (lv_at hl 0 rfl) ?_
                                                  refine W_sz (fun hzu => ?_)
                                                  have hzl := (va_P_mem.mp hW.1 _ (show (sa + 361, _) ∈ ([(sa, .inr (iPC, [.ref (sa + 1), .ref (sa + 132), .ref (sa + 2), .int (2), .ref (sa + 3), .ref (sa + 4), .ref (sa + 130), .ref (sa + 131), .int (0)])), (sa + 1, aR (gC G 4) (3) (va_up (va_up (va_up (fun _ => none) 0 (some (sa + 133))) 1 (some (sa + 147))) 2 (some (sa + 161)))), (sa + 2, aR (gC G 6) (16) (va_up (va_up (va_up (va_up (va_up (va_up (va_up (va_up (va_up (va_up (va_up (va_up (va_up (fun _ => none) 0 (some (sa + 232))) 1 (some (sa + 242))) 2 (some (sa + 252))) 3 (some (sa + 262))) 4 (some (sa + 272))) 5 (some (sa + 282))) 6 (some (sa + 292))) 7 (some (sa + 302))) 8 (some (sa + 312))) 9 (some (sa + 322))) 10 (some (sa + 332))) 11 (some (sa + 342))) 12 (some (sa + 352)))), (sa + 3, aI (gC G 0) (3) (fun _ => 0)), (sa + 130, aI (gC G 0) (8) (fun _ => 0)), (sa + 131, aI (gC G 1) (8) (fun _ => 0)), (sa + 132, aR (gC G 5) (3) (va_up (va_up (va_up (fun _ => none) 0 (some (sa + 175))) 1 (some (sa + 194))) 2 (some (sa + 213))))] ++ T_43) from (List.mem_append_right _ (hmT_43 _ (List.mem_of_getElem? (i := 9) rfl))))).lt
                                                  have hz : Array.size H = sa + 362 := sz_eq hzu hz0 hzl rfl rfl
                                                  have hlt0 := WW_lt hW
                                                  rw [hz] at hlt0
                                                  refine h_new (G := G) (fs := [.int (0), .int (0), .int (0), .null, .null, .null]) hx hb hts i_Led t_Led t_Led_ok hown kw_549 kw_564 kw_156 hE hW.2.2 hbs (ci := iLed) rfl df_Led (Nat.le_of_ble_eq_true rfl) (Nat.le_of_ble_eq_true rfl) d_PC_init_156 (fun H ha9 hz9 hk9 hS9 => ?_)
                                                  have hW := WW_keep hW hk9 hS9
                                                  rw [hz] at ha9 hz9 ⊢
                                                  refine lv_dup hx hb d_PC_init_159 rfl ?_
                                                  refine lv_iload_n hx hb d_PC_init_160 rfl (lv_at hl 1 rfl) ?_
                                                  obtain ⟨hP1, hD1⟩ := WW_one ha9
                                                  have hgs : gbase G ≤ sa + 362 := gs_le hbs hz0 (by decide)
                                                  refine h_cv (G := G) (h_runI (G := G) (G' := gB G (sa + 362)) (I := fun Hz => Hz = H) hx hb hml hown hts hE hW.2.2 hgs rfl (sz_le hz9) rfl (h_LedI3 l (gB G (sa + 362)) H (sa + 362) hz9 hP1 hD1) kw_567 kw_566 rfl kw_156 kw_565 rfl rfl hd_Led_init ⟨Nat.le_of_ble_eq_true rfl, Nat.le_of_ble_eq_true rfl⟩ (As := [.int (3)]) (rest := [.ref (sa + 362), .int (13), .ref (sa + 2)]) rfl hl.1 rfl (Nat.le_of_ble_eq_true rfl) d_PC_init_161 ⟨Nat.le_of_ble_eq_true rfl, Nat.le_of_ble_eq_true rfl⟩) hW.2.2 hgs (fun H9 locs hJ hq9 hk9 hS9 => ?_)
                                                  obtain ⟨hJ1, hJ2, hJ3⟩ := hJ
                                                  have hW := WW_block hW hlt0 hgs hk9 hJ1 hJ2 hS9
                                                  generalize H9 = H at *
                                                  obtain ⟨T_45, hT_45⟩ : ∃ t9 : va_W, t9 = T_43 ++ wLedI3 G (sa + 362) := ⟨_, rfl⟩
                                                  have hmT_45 : ∀ q ∈ wLedI3 G (sa + 362), q ∈ T_45 := fun q hq => by rw [hT_45]; exact List.mem_append_right _ hq
                                                  have hW : WW G zs.heap ([(sa, .inr (iPC, [.ref (sa + 1), .ref (sa + 132), .ref (sa + 2), .int (2), .ref (sa + 3), .ref (sa + 4), .ref (sa + 130), .ref (sa + 131), .int (0)])), (sa + 1, aR (gC G 4) (3) (va_up (va_up (va_up (fun _ => none) 0 (some (sa + 133))) 1 (some (sa + 147))) 2 (some (sa + 161)))), (sa + 2, aR (gC G 6) (16) (va_up (va_up (va_up (va_up (va_up (va_up (va_up (va_up (va_up (va_up (va_up (va_up (va_up (fun _ => none) 0 (some (sa + 232))) 1 (some (sa + 242))) 2 (some (sa + 252))) 3 (some (sa + 262))) 4 (some (sa + 272))) 5 (some (sa + 282))) 6 (some (sa + 292))) 7 (some (sa + 302))) 8 (some (sa + 312))) 9 (some (sa + 322))) 10 (some (sa + 332))) 11 (some (sa + 342))) 12 (some (sa + 352)))), (sa + 3, aI (gC G 0) (3) (fun _ => 0)), (sa + 130, aI (gC G 0) (8) (fun _ => 0)), (sa + 131, aI (gC G 1) (8) (fun _ => 0)), (sa + 132, aR (gC G 5) (3) (va_up (va_up (va_up (fun _ => none) 0 (some (sa + 175))) 1 (some (sa + 194))) 2 (some (sa + 213))))] ++ T_45) H locs := by rw [hT_45, ← List.append_assoc]; exact hW
                                                  obtain ⟨qk, hqk⟩ := List.getElem?_of_mem (show (sa + 362, _) ∈ ([(sa, .inr (iPC, [.ref (sa + 1), .ref (sa + 132), .ref (sa + 2), .int (2), .ref (sa + 3), .ref (sa + 4), .ref (sa + 130), .ref (sa + 131), .int (0)])), (sa + 1, aR (gC G 4) (3) (va_up (va_up (va_up (fun _ => none) 0 (some (sa + 133))) 1 (some (sa + 147))) 2 (some (sa + 161)))), (sa + 2, aR (gC G 6) (16) (va_up (va_up (va_up (va_up (va_up (va_up (va_up (va_up (va_up (va_up (va_up (va_up (va_up (fun _ => none) 0 (some (sa + 232))) 1 (some (sa + 242))) 2 (some (sa + 252))) 3 (some (sa + 262))) 4 (some (sa + 272))) 5 (some (sa + 282))) 6 (some (sa + 292))) 7 (some (sa + 302))) 8 (some (sa + 312))) 9 (some (sa + 322))) 10 (some (sa + 332))) 11 (some (sa + 342))) 12 (some (sa + 352)))), (sa + 3, aI (gC G 0) (3) (fun _ => 0)), (sa + 130, aI (gC G 0) (8) (fun _ => 0)), (sa + 131, aI (gC G 1) (8) (fun _ => 0)), (sa + 132, aR (gC G 5) (3) (va_up (va_up (va_up (fun _ => none) 0 (some (sa + 175))) 1 (some (sa + 194))) 2 (some (sa + 213))))] ++ T_45) from (List.mem_append_right _ (hmT_45 _ (List.mem_of_getElem? (i := 0) rfl))))
                                                  refine va_astq hx hb hK hW.1 hW.2.1 hW.2.2 2 6 qk iLed (r := (R_Led, T_Led, 6)) (n := 16) (f := va_up (va_up (va_up (va_up (va_up (va_up (va_up (va_up (va_up (va_up (va_up (va_up (va_up (fun _ => none) 0 (some (sa + 232))) 1 (some (sa + 242))) 2 (some (sa + 252))) 3 (some (sa + 262))) 4 (some (sa + 272))) 5 (some (sa + 282))) 6 (some (sa + 292))) 7 (some (sa + 302))) 8 (some (sa + 312))) 9 (some (sa + 322))) 10 (some (sa + 332))) 11 (some (sa + 342))) 12 (some (sa + 352))) rfl rfl hqk rfl (vp_in_nI (n := 13) (by decide) (by decide)) d_PC_init_164 (fun H locs h1 h2 h3 => ?_)
                                                  rw [show (13 : Int32).toNatClampNeg = 13 by decide] at h1 h2
                                                  have hW : WW G zs.heap ([(sa, .inr (iPC, [.ref (sa + 1), .ref (sa + 132), .ref (sa + 2), .int (2), .ref (sa + 3), .ref (sa + 4), .ref (sa + 130), .ref (sa + 131), .int (0)])), (sa + 1, aR (gC G 4) (3) (va_up (va_up (va_up (fun _ => none) 0 (some (sa + 133))) 1 (some (sa + 147))) 2 (some (sa + 161)))), (sa + 2, aR (gC G 6) (16) (va_up (va_up (va_up (va_up (va_up (va_up (va_up (va_up (va_up (va_up (va_up (va_up (va_up (va_up (fun _ => none) 0 (some (sa + 232))) 1 (some (sa + 242))) 2 (some (sa + 252))) 3 (some (sa + 262))) 4 (some (sa + 272))) 5 (some (sa + 282))) 6 (some (sa + 292))) 7 (some (sa + 302))) 8 (some (sa + 312))) 9 (some (sa + 322))) 10 (some (sa + 332))) 11 (some (sa + 342))) 12 (some (sa + 352))) 13 (some (sa + 362)))), (sa + 3, aI (gC G 0) (3) (fun _ => 0)), (sa + 130, aI (gC G 0) (8) (fun _ => 0)), (sa + 131, aI (gC G 1) (8) (fun _ => 0)), (sa + 132, aR (gC G 5) (3) (va_up (va_up (va_up (fun _ => none) 0 (some (sa + 175))) 1 (some (sa + 194))) 2 (some (sa + 213))))] ++ T_45) H locs := ⟨h1, h2, h3⟩
                                                  refine lv_iinc (v := 14) (lv' := [(3, .int (14)), (2, .int (3)), (0, .ref sa), (1, .int (f))]) hx hb d_PC_init_165 hl (k := 0) rfl (by decide) (by decide) rfl (fun ls hl => ?_)
                                                  refine lv_goto (tgt := 145) hx hb d_PC_init_168 (by decide) ?_
                                                  refine lv_iload_n hx hb d_PC_init_145 rfl (lv_at hl 0 rfl) ?_
                                                  refine lv_bipush (v := 16) hx hb d_PC_init_146 (by decide) ?_
                                                  refine lv_icmp_ge (tgt := 171) hx hb d_PC_init_148 (by decide) (fun c_46 => ?_) (fun c_46 => ?_)
                                                  · exact absurd c_46 (by decide)
                                                  · skip
                                                    refine lv_aload_n hx hb d_PC_init_151 rfl (lv_at hl 2 rfl) ?_
                                                    refine va_get (v := .ref (sa + 2)) hx hb hts i_PC hown hK hW.1 0 rfl rfl 2 (by decide) (hts _ kw_195) (fun _ h => h) rfl d_PC_init_152 ?_
                                                    refine lv_iload_n hx hb d_PC_init_155 rfl (lv_at hl 0 rfl) ?_
                                                    refine W_sz (fun hzu => ?_)
                                                    have hzl := (va_P_mem.mp hW.1 _ (show (sa + 371, _) ∈ ([(sa, .inr (iPC, [.ref (sa + 1), .ref (sa + 132), .ref (sa + 2), .int (2), .ref (sa + 3), .ref (sa + 4), .ref (sa + 130), .ref (sa + 131), .int (0)])), (sa + 1, aR (gC G 4) (3) (va_up (va_up (va_up (fun _ => none) 0 (some (sa + 133))) 1 (some (sa + 147))) 2 (some (sa + 161)))), (sa + 2, aR (gC G 6) (16) (va_up (va_up (va_up (va_up (va_up (va_up (va_up (va_up (va_up (va_up (va_up (va_up (va_up (va_up (fun _ => none) 0 (some (sa + 232))) 1 (some (sa + 242))) 2 (some (sa + 252))) 3 (some (sa + 262))) 4 (some (sa + 272))) 5 (some (sa + 282))) 6 (some (sa + 292))) 7 (some (sa + 302))) 8 (some (sa + 312))) 9 (some (sa + 322))) 10 (some (sa + 332))) 11 (some (sa + 342))) 12 (some (sa + 352))) 13 (some (sa + 362)))), (sa + 3, aI (gC G 0) (3) (fun _ => 0)), (sa + 130, aI (gC G 0) (8) (fun _ => 0)), (sa + 131, aI (gC G 1) (8) (fun _ => 0)), (sa + 132, aR (gC G 5) (3) (va_up (va_up (va_up (fun _ => none) 0 (some (sa + 175))) 1 (some (sa + 194))) 2 (some (sa + 213))))] ++ T_45) from (List.mem_append_right _ (hmT_45 _ (List.mem_of_getElem? (i := 9) rfl))))).lt
                                                    have hz : Array.size H = sa + 372 := sz_eq hzu hz0 hzl rfl rfl
                                                    have hlt0 := WW_lt hW
                                                    rw [hz] at hlt0
                                                    refine h_new (G := G) (fs := [.int (0), .int (0), .int (0), .null, .null, .null]) hx hb hts i_Led t_Led t_Led_ok hown kw_549 kw_564 kw_156 hE hW.2.2 hbs (ci := iLed) rfl df_Led (Nat.le_of_ble_eq_true rfl) (Nat.le_of_ble_eq_true rfl) d_PC_init_156 (fun H ha9 hz9 hk9 hS9 => ?_)
                                                    have hW := WW_keep hW hk9 hS9
                                                    rw [hz] at ha9 hz9 ⊢
                                                    refine lv_dup hx hb d_PC_init_159 rfl ?_
                                                    refine lv_iload_n hx hb d_PC_init_160 rfl (lv_at hl 1 rfl) ?_
                                                    obtain ⟨hP1, hD1⟩ := WW_one ha9
                                                    have hgs : gbase G ≤ sa + 372 := gs_le hbs hz0 (by decide)
                                                    refine h_cv (G := G) (h_runI (G := G) (G' := gB G (sa + 372)) (I := fun Hz => Hz = H) hx hb hml hown hts hE hW.2.2 hgs rfl (sz_le hz9) rfl (h_LedI3 l (gB G (sa + 372)) H (sa + 372) hz9 hP1 hD1) kw_567 kw_566 rfl kw_156 kw_565 rfl rfl hd_Led_init ⟨Nat.le_of_ble_eq_true rfl, Nat.le_of_ble_eq_true rfl⟩ (As := [.int (3)]) (rest := [.ref (sa + 372), .int (14), .ref (sa + 2)]) rfl hl.1 rfl (Nat.le_of_ble_eq_true rfl) d_PC_init_161 ⟨Nat.le_of_ble_eq_true rfl, Nat.le_of_ble_eq_true rfl⟩) hW.2.2 hgs (fun H9 locs hJ hq9 hk9 hS9 => ?_)
                                                    obtain ⟨hJ1, hJ2, hJ3⟩ := hJ
                                                    have hW := WW_block hW hlt0 hgs hk9 hJ1 hJ2 hS9
                                                    generalize H9 = H at *
                                                    obtain ⟨T_47, hT_47⟩ : ∃ t9 : va_W, t9 = T_45 ++ wLedI3 G (sa + 372) := ⟨_, rfl⟩
                                                    have hmT_47 : ∀ q ∈ wLedI3 G (sa + 372), q ∈ T_47 := fun q hq => by rw [hT_47]; exact List.mem_append_right _ hq
                                                    have hW : WW G zs.heap ([(sa, .inr (iPC, [.ref (sa + 1), .ref (sa + 132), .ref (sa + 2), .int (2), .ref (sa + 3), .ref (sa + 4), .ref (sa + 130), .ref (sa + 131), .int (0)])), (sa + 1, aR (gC G 4) (3) (va_up (va_up (va_up (fun _ => none) 0 (some (sa + 133))) 1 (some (sa + 147))) 2 (some (sa + 161)))), (sa + 2, aR (gC G 6) (16) (va_up (va_up (va_up (va_up (va_up (va_up (va_up (va_up (va_up (va_up (va_up (va_up (va_up (va_up (fun _ => none) 0 (some (sa + 232))) 1 (some (sa + 242))) 2 (some (sa + 252))) 3 (some (sa + 262))) 4 (some (sa + 272))) 5 (some (sa + 282))) 6 (some (sa + 292))) 7 (some (sa + 302))) 8 (some (sa + 312))) 9 (some (sa + 322))) 10 (some (sa + 332))) 11 (some (sa + 342))) 12 (some (sa + 352))) 13 (some (sa + 362)))), (sa + 3, aI (gC G 0) (3) (fun _ => 0)), (sa + 130, aI (gC G 0) (8) (fun _ => 0)), (sa + 131, aI (gC G 1) (8) (fun _ => 0)), (sa + 132, aR (gC G 5) (3) (va_up (va_up (va_up (fun _ => none) 0 (some (sa + 175))) 1 (some (sa + 194))) 2 (some (sa + 213))))] ++ T_47) H locs := by rw [hT_47, ← List.append_assoc]; exact hW
                                                    obtain ⟨qk, hqk⟩ := List.getElem?_of_mem (show (sa + 372, _) ∈ ([(sa, .inr (iPC, [.ref (sa + 1), .ref (sa + 132), .ref (sa + 2), .int (2), .ref (sa + 3), .ref (sa + 4), .ref (sa + 130), .ref (sa + 131), .int (0)])), (sa + 1, aR (gC G 4) (3) (va_up (va_up (va_up (fun _ => none) 0 (some (sa + 133))) 1 (some (sa + 147))) 2 (some (sa + 161)))), (sa + 2, aR (gC G 6) (16) (va_up (va_up (va_up (va_up (va_up (va_up (va_up (va_up (va_up (va_up (va_up (va_up (va_up (va_up (fun _ => none) 0 (some (sa + 232))) 1 (some (sa + 242))) 2 (some (sa + 252))) 3 (some (sa + 262))) 4 (some (sa + 272))) 5 (some (sa + 282))) 6 (some (sa + 292))) 7 (some (sa + 302))) 8 (some (sa + 312))) 9 (some (sa + 322))) 10 (some (sa + 332))) 11 (some (sa + 342))) 12 (some (sa + 352))) 13 (some (sa + 362)))), (sa + 3, aI (gC G 0) (3) (fun _ => 0)), (sa + 130, aI (gC G 0) (8) (fun _ => 0)), (sa + 131, aI (gC G 1) (8) (fun _ => 0)), (sa + 132, aR (gC G 5) (3) (va_up (va_up (va_up (fun _ => none) 0 (some (sa + 175))) 1 (some (sa + 194))) 2 (some (sa + 213))))] ++ T_47) from (List.mem_append_right _ (hmT_47 _ (List.mem_of_getElem? (i := 0) rfl))))
                                                    refine va_astq hx hb hK hW.1 hW.2.1 hW.2.2 2 6 qk iLed (r := (R_Led, T_Led, 6)) (n := 16) (f := va_up (va_up (va_up (va_up (va_up (va_up (va_up (va_up (va_up (va_up (va_up (va_up (va_up (va_up (fun _ => none) 0 (some (sa + 232))) 1 (some (sa + 242))) 2 (some (sa + 252))) 3 (some (sa + 262))) 4 (some (sa + 272))) 5 (some (sa + 282))) 6 (some (sa + 292))) 7 (some (sa + 302))) 8 (some (sa + 312))) 9 (some (sa + 322))) 10 (some (sa + 332))) 11 (some (sa + 342))) 12 (some (sa + 352))) 13 (some (sa + 362))) rfl rfl hqk rfl (vp_in_nI (n := 14) (by decide) (by decide)) d_PC_init_164 (fun H locs h1 h2 h3 => ?_)
                                                    rw [show (14 : Int32).toNatClampNeg = 14 by decide] at h1 h2
                                                    have hW : WW G zs.heap ([(sa, .inr (iPC, [.ref (sa + 1), .ref (sa + 132), .ref (sa + 2), .int (2), .ref (sa + 3), .ref (sa + 4), .ref (sa + 130), .ref (sa + 131), .int (0)])), (sa + 1, aR (gC G 4) (3) (va_up (va_up (va_up (fun _ => none) 0 (some (sa + 133))) 1 (some (sa + 147))) 2 (some (sa + 161)))), (sa + 2, aR (gC G 6) (16) (va_up (va_up (va_up (va_up (va_up (va_up (va_up (va_up (va_up (va_up (va_up (va_up (va_up (va_up (va_up (fun _ => none) 0 (some (sa + 232))) 1 (some (sa + 242))) 2 (some (sa + 252))) 3 (some (sa + 262))) 4 (some (sa + 272))) 5 (some (sa + 282))) 6 (some (sa + 292))) 7 (some (sa + 302))) 8 (some (sa + 312))) 9 (some (sa + 322))) 10 (some (sa + 332))) 11 (some (sa + 342))) 12 (some (sa + 352))) 13 (some (sa + 362))) 14 (some (sa + 372)))), (sa + 3, aI (gC G 0) (3) (fun _ => 0)), (sa + 130, aI (gC G 0) (8) (fun _ => 0)), (sa + 131, aI (gC G 1) (8) (fun _ => 0)), (sa + 132, aR (gC G 5) (3) (va_up (va_up (va_up (fun _ => none) 0 (some (sa + 175))) 1 (some (sa + 194))) 2 (some (sa + 213))))] ++ T_47) H locs := ⟨h1, h2, h3⟩
                                                    refine lv_iinc (v := 15) (lv' := [(3, .int (15)), (2, .int (3)), (0, .ref sa), (1, .int (f))]) hx hb d_PC_init_165 hl (k := 0) rfl (by decide) (by decide) rfl (fun ls hl => ?_)
                                                    refine lv_goto (tgt := 145) hx hb d_PC_init_168 (by decide) ?_
                                                    refine lv_iload_n hx hb d_PC_init_145 rfl (lv_at hl 0 rfl) ?_
                                                    refine lv_bipush (v := 16) hx hb d_PC_init_146 (by decide) ?_
                                                    refine lv_icmp_ge (tgt := 171) hx hb d_PC_init_148 (by decide) (fun c_48 => ?_) (fun c_48 => ?_)
                                                    · exact absurd c_48 (by decide)
                                                    · skip
                                                      refine lv_aload_n hx hb d_PC_init_151 rfl (lv_at hl 2 rfl) ?_
                                                      refine va_get (v := .ref (sa + 2)) hx hb hts i_PC hown hK hW.1 0 rfl rfl 2 (by decide) (hts _ kw_195) (fun _ h => h) rfl d_PC_init_152 ?_
                                                      refine lv_iload_n hx hb d_PC_init_155 rfl (lv_at hl 0 rfl) ?_
                                                      refine W_sz (fun hzu => ?_)
                                                      have hzl := (va_P_mem.mp hW.1 _ (show (sa + 381, _) ∈ ([(sa, .inr (iPC, [.ref (sa + 1), .ref (sa + 132), .ref (sa + 2), .int (2), .ref (sa + 3), .ref (sa + 4), .ref (sa + 130), .ref (sa + 131), .int (0)])), (sa + 1, aR (gC G 4) (3) (va_up (va_up (va_up (fun _ => none) 0 (some (sa + 133))) 1 (some (sa + 147))) 2 (some (sa + 161)))), (sa + 2, aR (gC G 6) (16) (va_up (va_up (va_up (va_up (va_up (va_up (va_up (va_up (va_up (va_up (va_up (va_up (va_up (va_up (va_up (fun _ => none) 0 (some (sa + 232))) 1 (some (sa + 242))) 2 (some (sa + 252))) 3 (some (sa + 262))) 4 (some (sa + 272))) 5 (some (sa + 282))) 6 (some (sa + 292))) 7 (some (sa + 302))) 8 (some (sa + 312))) 9 (some (sa + 322))) 10 (some (sa + 332))) 11 (some (sa + 342))) 12 (some (sa + 352))) 13 (some (sa + 362))) 14 (some (sa + 372)))), (sa + 3, aI (gC G 0) (3) (fun _ => 0)), (sa + 130, aI (gC G 0) (8) (fun _ => 0)), (sa + 131, aI (gC G 1) (8) (fun _ => 0)), (sa + 132, aR (gC G 5) (3) (va_up (va_up (va_up (fun _ => none) 0 (some (sa + 175))) 1 (some (sa + 194))) 2 (some (sa + 213))))] ++ T_47) from (List.mem_append_right _ (hmT_47 _ (List.mem_of_getElem? (i := 9) rfl))))).lt
                                                      have hz : Array.size H = sa + 382 := sz_eq hzu hz0 hzl rfl rfl
                                                      have hlt0 := WW_lt hW
                                                      rw [hz] at hlt0
                                                      refine h_new (G := G) (fs := [.int (0), .int (0), .int (0), .null, .null, .null]) hx hb hts i_Led t_Led t_Led_ok hown kw_549 kw_564 kw_156 hE hW.2.2 hbs (ci := iLed) rfl df_Led (Nat.le_of_ble_eq_true rfl) (Nat.le_of_ble_eq_true rfl) d_PC_init_156 (fun H ha9 hz9 hk9 hS9 => ?_)
                                                      have hW := WW_keep hW hk9 hS9
                                                      rw [hz] at ha9 hz9 ⊢
                                                      refine lv_dup hx hb d_PC_init_159 rfl ?_
                                                      refine lv_iload_n hx hb d_PC_init_160 rfl (lv_at hl 1 rfl) ?_
                                                      obtain ⟨hP1, hD1⟩ := WW_one ha9
                                                      have hgs : gbase G ≤ sa + 382 := gs_le hbs hz0 (by decide)
                                                      refine h_cv (G := G) (h_runI (G := G) (G' := gB G (sa + 382)) (I := fun Hz => Hz = H) hx hb hml hown hts hE hW.2.2 hgs rfl (sz_le hz9) rfl (h_LedI3 l (gB G (sa + 382)) H (sa + 382) hz9 hP1 hD1) kw_567 kw_566 rfl kw_156 kw_565 rfl rfl hd_Led_init ⟨Nat.le_of_ble_eq_true rfl, Nat.le_of_ble_eq_true rfl⟩ (As := [.int (3)]) (rest := [.ref (sa + 382), .int (15), .ref (sa + 2)]) rfl hl.1 rfl (Nat.le_of_ble_eq_true rfl) d_PC_init_161 ⟨Nat.le_of_ble_eq_true rfl, Nat.le_of_ble_eq_true rfl⟩) hW.2.2 hgs (fun H9 locs hJ hq9 hk9 hS9 => ?_)
                                                      obtain ⟨hJ1, hJ2, hJ3⟩ := hJ
                                                      have hW := WW_block hW hlt0 hgs hk9 hJ1 hJ2 hS9
                                                      generalize H9 = H at *
                                                      obtain ⟨T_49, hT_49⟩ : ∃ t9 : va_W, t9 = T_47 ++ wLedI3 G (sa + 382) := ⟨_, rfl⟩
                                                      have hmT_49 : ∀ q ∈ wLedI3 G (sa + 382), q ∈ T_49 := fun q hq => by rw [hT_49]; exact List.mem_append_right _ hq
                                                      have hW : WW G zs.heap ([(sa, .inr (iPC, [.ref (sa + 1), .ref (sa + 132), .ref (sa + 2), .int (2), .ref (sa + 3), .ref (sa + 4), .ref (sa + 130), .ref (sa + 131), .int (0)])), (sa + 1, aR (gC G 4) (3) (va_up (va_up (va_up (fun _ => none) 0 (some (sa + 133))) 1 (some (sa + 147))) 2 (some (sa + 161)))), (sa + 2, aR (gC G 6) (16) (va_up (va_up (va_up (va_up (va_up (va_up (va_up (va_up (va_up (va_up (va_up (va_up (va_up (va_up (va_up (fun _ => none) 0 (some (sa + 232))) 1 (some (sa + 242))) 2 (some (sa + 252))) 3 (some (sa + 262))) 4 (some (sa + 272))) 5 (some (sa + 282))) 6 (some (sa + 292))) 7 (some (sa + 302))) 8 (some (sa + 312))) 9 (some (sa + 322))) 10 (some (sa + 332))) 11 (some (sa + 342))) 12 (some (sa + 352))) 13 (some (sa + 362))) 14 (some (sa + 372)))), (sa + 3, aI (gC G 0) (3) (fun _ => 0)), (sa + 130, aI (gC G 0) (8) (fun _ => 0)), (sa + 131, aI (gC G 1) (8) (fun _ => 0)), (sa + 132, aR (gC G 5) (3) (va_up (va_up (va_up (fun _ => none) 0 (some (sa + 175))) 1 (some (sa + 194))) 2 (some (sa + 213))))] ++ T_49) H locs := by rw [hT_49, ← List.append_assoc]; exact hW
                                                      obtain ⟨qk, hqk⟩ := List.getElem?_of_mem (show (sa + 382, _) ∈ ([(sa, .inr (iPC, [.ref (sa + 1), .ref (sa + 132), .ref (sa + 2), .int (2), .ref (sa + 3), .ref (sa + 4), .ref (sa + 130), .ref (sa + 131), .int (0)])), (sa + 1, aR (gC G 4) (3) (va_up (va_up (va_up (fun _ => none) 0 (some (sa + 133))) 1 (some (sa + 147))) 2 (some (sa + 161)))), (sa + 2, aR (gC G 6) (16) (va_up (va_up (va_up (va_up (va_up (va_up (va_up (va_up (va_up (va_up (va_up (va_up (va_up (va_up (va_up (fun _ => none) 0 (some (sa + 232))) 1 (some (sa + 242))) 2 (some (sa + 252))) 3 (some (sa + 262))) 4 (some (sa + 272))) 5 (some (sa + 282))) 6 (some (sa + 292))) 7 (some (sa + 302))) 8 (some (sa + 312))) 9 (some (sa + 322))) 10 (some (sa + 332))) 11 (some (sa + 342))) 12 (some (sa + 352))) 13 (some (sa + 362))) 14 (some (sa + 372)))), (sa + 3, aI (gC G 0) (3) (fun _ => 0)), (sa + 130, aI (gC G 0) (8) (fun _ => 0)), (sa + 131, aI (gC G 1) (8) (fun _ => 0)), (sa + 132, aR (gC G 5) (3) (va_up (va_up (va_up (fun _ => none) 0 (some (sa + 175))) 1 (some (sa + 194))) 2 (some (sa + 213))))] ++ T_49) from (List.mem_append_right _ (hmT_49 _ (List.mem_of_getElem? (i := 0) rfl))))
                                                      refine va_astq hx hb hK hW.1 hW.2.1 hW.2.2 2 6 qk iLed (r := (R_Led, T_Led, 6)) (n := 16) (f := va_up (va_up (va_up (va_up (va_up (va_up (va_up (va_up (va_up (va_up (va_up (va_up (va_up (va_up (va_up (fun _ => none) 0 (some (sa + 232))) 1 (some (sa + 242))) 2 (some (sa + 252))) 3 (some (sa + 262))) 4 (some (sa + 272))) 5 (some (sa + 282))) 6 (some (sa + 292))) 7 (some (sa + 302))) 8 (some (sa + 312))) 9 (some (sa + 322))) 10 (some (sa + 332))) 11 (some (sa + 342))) 12 (some (sa + 352))) 13 (some (sa + 362))) 14 (some (sa + 372))) rfl rfl hqk rfl (vp_in_nI (n := 15) (by decide) (by decide)) d_PC_init_164 (fun H locs h1 h2 h3 => ?_)
                                                      rw [show (15 : Int32).toNatClampNeg = 15 by decide] at h1 h2
                                                      have hW : WW G zs.heap ([(sa, .inr (iPC, [.ref (sa + 1), .ref (sa + 132), .ref (sa + 2), .int (2), .ref (sa + 3), .ref (sa + 4), .ref (sa + 130), .ref (sa + 131), .int (0)])), (sa + 1, aR (gC G 4) (3) (va_up (va_up (va_up (fun _ => none) 0 (some (sa + 133))) 1 (some (sa + 147))) 2 (some (sa + 161)))), (sa + 2, aR (gC G 6) (16) (va_up (va_up (va_up (va_up (va_up (va_up (va_up (va_up (va_up (va_up (va_up (va_up (va_up (va_up (va_up (va_up (fun _ => none) 0 (some (sa + 232))) 1 (some (sa + 242))) 2 (some (sa + 252))) 3 (some (sa + 262))) 4 (some (sa + 272))) 5 (some (sa + 282))) 6 (some (sa + 292))) 7 (some (sa + 302))) 8 (some (sa + 312))) 9 (some (sa + 322))) 10 (some (sa + 332))) 11 (some (sa + 342))) 12 (some (sa + 352))) 13 (some (sa + 362))) 14 (some (sa + 372))) 15 (some (sa + 382)))), (sa + 3, aI (gC G 0) (3) (fun _ => 0)), (sa + 130, aI (gC G 0) (8) (fun _ => 0)), (sa + 131, aI (gC G 1) (8) (fun _ => 0)), (sa + 132, aR (gC G 5) (3) (va_up (va_up (va_up (fun _ => none) 0 (some (sa + 175))) 1 (some (sa + 194))) 2 (some (sa + 213))))] ++ T_49) H locs := ⟨h1, h2, h3⟩
                                                      refine lv_iinc (v := 16) (lv' := [(3, .int (16)), (2, .int (3)), (0, .ref sa), (1, .int (f))]) hx hb d_PC_init_165 hl (k := 0) rfl (by decide) (by decide) rfl (fun ls hl => ?_)
                                                      refine lv_goto (tgt := 145) hx hb d_PC_init_168 (by decide) ?_
                                                      refine lv_iload_n hx hb d_PC_init_145 rfl (lv_at hl 0 rfl) ?_
                                                      refine lv_bipush (v := 16) hx hb d_PC_init_146 (by decide) ?_
                                                      refine lv_icmp_ge (tgt := 171) hx hb d_PC_init_148 (by decide) (fun c_50 => ?_) (fun c_50 => ?_)
                                                      · skip
                                                        refine lv_aload_n hx hb d_PC_init_171 rfl (lv_at hl 2 rfl) ?_
                                                        refine va_get (v := .ref (sa + 3)) hx hb hts i_PC hown hK hW.1 0 rfl rfl 4 (by decide) (hts _ kw_286) (fun _ h => h) rfl d_PC_init_172 ?_
                                                        refine lv_iconst (v := 0) hx hb d_PC_init_175 (by decide) ?_
                                                        refine lv_bipush (v := 7) hx hb d_PC_init_176 (by decide) ?_
                                                        refine va_iast hx hb hK hW.1 hW.2.1 hW.2.2 3 0 rfl rfl (vp_in_nI (n := 0) (by decide) (by decide)) d_PC_init_178 (fun H locs h1 h2 h3 => ?_)
                                                        rw [show (0 : Int32).toNatClampNeg = 0 by decide] at h1 h2
                                                        have hW : WW G zs.heap ([(sa, .inr (iPC, [.ref (sa + 1), .ref (sa + 132), .ref (sa + 2), .int (2), .ref (sa + 3), .ref (sa + 4), .ref (sa + 130), .ref (sa + 131), .int (0)])), (sa + 1, aR (gC G 4) (3) (va_up (va_up (va_up (fun _ => none) 0 (some (sa + 133))) 1 (some (sa + 147))) 2 (some (sa + 161)))), (sa + 2, aR (gC G 6) (16) (va_up (va_up (va_up (va_up (va_up (va_up (va_up (va_up (va_up (va_up (va_up (va_up (va_up (va_up (va_up (va_up (fun _ => none) 0 (some (sa + 232))) 1 (some (sa + 242))) 2 (some (sa + 252))) 3 (some (sa + 262))) 4 (some (sa + 272))) 5 (some (sa + 282))) 6 (some (sa + 292))) 7 (some (sa + 302))) 8 (some (sa + 312))) 9 (some (sa + 322))) 10 (some (sa + 332))) 11 (some (sa + 342))) 12 (some (sa + 352))) 13 (some (sa + 362))) 14 (some (sa + 372))) 15 (some (sa + 382)))), (sa + 3, aI (gC G 0) (3) (upd (fun _ => 0) 0 (7))), (sa + 130, aI (gC G 0) (8) (fun _ => 0)), (sa + 131, aI (gC G 1) (8) (fun _ => 0)), (sa + 132, aR (gC G 5) (3) (va_up (va_up (va_up (fun _ => none) 0 (some (sa + 175))) 1 (some (sa + 194))) 2 (some (sa + 213))))] ++ T_49) H locs := ⟨h1, h2, h3⟩
                                                        refine lv_aload_n hx hb d_PC_init_179 rfl (lv_at hl 2 rfl) ?_
                                                        refine va_get (v := .ref (sa + 3)) hx hb hts i_PC hown hK hW.1 0 rfl rfl 4 (by decide) (hts _ kw_286) (fun _ h => h) rfl d_PC_init_180 ?_
                                                        refine lv_iconst (v := 1) hx hb d_PC_init_183 (by decide) ?_
                                                        refine lv_iconst (v := 1) hx hb d_PC_init_184 (by decide) ?_
                                                        refine lv_iload_n hx hb d_PC_init_185 rfl (lv_at hl 1 rfl) ?_
                                                        refine lv_ishl hx hb d_PC_init_186 ?_
                                                        refine lv_iconst (v := 1) hx hb d_PC_init_187 (by decide) ?_
                                                        refine lv_isub hx hb d_PC_init_188 ?_
                                                        refine e_top (v := 7) (by decide) ?_
                                                        refine va_iast hx hb hK hW.1 hW.2.1 hW.2.2 3 0 rfl rfl (vp_in_nI (n := 1) (by decide) (by decide)) d_PC_init_189 (fun H locs h1 h2 h3 => ?_)
                                                        rw [show (1 : Int32).toNatClampNeg = 1 by decide] at h1 h2
                                                        have hW : WW G zs.heap ([(sa, .inr (iPC, [.ref (sa + 1), .ref (sa + 132), .ref (sa + 2), .int (2), .ref (sa + 3), .ref (sa + 4), .ref (sa + 130), .ref (sa + 131), .int (0)])), (sa + 1, aR (gC G 4) (3) (va_up (va_up (va_up (fun _ => none) 0 (some (sa + 133))) 1 (some (sa + 147))) 2 (some (sa + 161)))), (sa + 2, aR (gC G 6) (16) (va_up (va_up (va_up (va_up (va_up (va_up (va_up (va_up (va_up (va_up (va_up (va_up (va_up (va_up (va_up (va_up (fun _ => none) 0 (some (sa + 232))) 1 (some (sa + 242))) 2 (some (sa + 252))) 3 (some (sa + 262))) 4 (some (sa + 272))) 5 (some (sa + 282))) 6 (some (sa + 292))) 7 (some (sa + 302))) 8 (some (sa + 312))) 9 (some (sa + 322))) 10 (some (sa + 332))) 11 (some (sa + 342))) 12 (some (sa + 352))) 13 (some (sa + 362))) 14 (some (sa + 372))) 15 (some (sa + 382)))), (sa + 3, aI (gC G 0) (3) (upd (upd (fun _ => 0) 0 (7)) 1 (7))), (sa + 130, aI (gC G 0) (8) (fun _ => 0)), (sa + 131, aI (gC G 1) (8) (fun _ => 0)), (sa + 132, aR (gC G 5) (3) (va_up (va_up (va_up (fun _ => none) 0 (some (sa + 175))) 1 (some (sa + 194))) 2 (some (sa + 213))))] ++ T_49) H locs := ⟨h1, h2, h3⟩
                                                        refine lv_aload_n hx hb d_PC_init_190 rfl (lv_at hl 2 rfl) ?_
                                                        refine va_get (v := .ref (sa + 3)) hx hb hts i_PC hown hK hW.1 0 rfl rfl 4 (by decide) (hts _ kw_286) (fun _ h => h) rfl d_PC_init_191 ?_
                                                        refine lv_iconst (v := 2) hx hb d_PC_init_194 (by decide) ?_
                                                        refine lv_iconst (v := 3) hx hb d_PC_init_195 (by decide) ?_
                                                        refine va_iast hx hb hK hW.1 hW.2.1 hW.2.2 3 0 rfl rfl (vp_in_nI (n := 2) (by decide) (by decide)) d_PC_init_196 (fun H locs h1 h2 h3 => ?_)
                                                        rw [show (2 : Int32).toNatClampNeg = 2 by decide] at h1 h2
                                                        have hW : WW G zs.heap ([(sa, .inr (iPC, [.ref (sa + 1), .ref (sa + 132), .ref (sa + 2), .int (2), .ref (sa + 3), .ref (sa + 4), .ref (sa + 130), .ref (sa + 131), .int (0)])), (sa + 1, aR (gC G 4) (3) (va_up (va_up (va_up (fun _ => none) 0 (some (sa + 133))) 1 (some (sa + 147))) 2 (some (sa + 161)))), (sa + 2, aR (gC G 6) (16) (va_up (va_up (va_up (va_up (va_up (va_up (va_up (va_up (va_up (va_up (va_up (va_up (va_up (va_up (va_up (va_up (fun _ => none) 0 (some (sa + 232))) 1 (some (sa + 242))) 2 (some (sa + 252))) 3 (some (sa + 262))) 4 (some (sa + 272))) 5 (some (sa + 282))) 6 (some (sa + 292))) 7 (some (sa + 302))) 8 (some (sa + 312))) 9 (some (sa + 322))) 10 (some (sa + 332))) 11 (some (sa + 342))) 12 (some (sa + 352))) 13 (some (sa + 362))) 14 (some (sa + 372))) 15 (some (sa + 382)))), (sa + 3, aI (gC G 0) (3) (upd (upd (upd (fun _ => 0) 0 (7)) 1 (7)) 2 (3))), (sa + 130, aI (gC G 0) (8) (fun _ => 0)), (sa + 131, aI (gC G 1) (8) (fun _ => 0)), (sa + 132, aR (gC G 5) (3) (va_up (va_up (va_up (fun _ => none) 0 (some (sa + 175))) 1 (some (sa + 194))) 2 (some (sa + 213))))] ++ T_49) H locs := ⟨h1, h2, h3⟩
                                                        refine W_sz (fun hzu => ?_)
                                                        have hzl := (va_P_mem.mp hW.1 _ (show (sa + 391, _) ∈ ([(sa, .inr (iPC, [.ref (sa + 1), .ref (sa + 132), .ref (sa + 2), .int (2), .ref (sa + 3), .ref (sa + 4), .ref (sa + 130), .ref (sa + 131), .int (0)])), (sa + 1, aR (gC G 4) (3) (va_up (va_up (va_up (fun _ => none) 0 (some (sa + 133))) 1 (some (sa + 147))) 2 (some (sa + 161)))), (sa + 2, aR (gC G 6) (16) (va_up (va_up (va_up (va_up (va_up (va_up (va_up (va_up (va_up (va_up (va_up (va_up (va_up (va_up (va_up (va_up (fun _ => none) 0 (some (sa + 232))) 1 (some (sa + 242))) 2 (some (sa + 252))) 3 (some (sa + 262))) 4 (some (sa + 272))) 5 (some (sa + 282))) 6 (some (sa + 292))) 7 (some (sa + 302))) 8 (some (sa + 312))) 9 (some (sa + 322))) 10 (some (sa + 332))) 11 (some (sa + 342))) 12 (some (sa + 352))) 13 (some (sa + 362))) 14 (some (sa + 372))) 15 (some (sa + 382)))), (sa + 3, aI (gC G 0) (3) (upd (upd (upd (fun _ => 0) 0 (7)) 1 (7)) 2 (3))), (sa + 130, aI (gC G 0) (8) (fun _ => 0)), (sa + 131, aI (gC G 1) (8) (fun _ => 0)), (sa + 132, aR (gC G 5) (3) (va_up (va_up (va_up (fun _ => none) 0 (some (sa + 175))) 1 (some (sa + 194))) 2 (some (sa + 213))))] ++ T_49) from (List.mem_append_right _ (hmT_49 _ (List.mem_of_getElem? (i := 9) rfl))))).lt
                                                        have hz : Array.size H = sa + 392 := sz_eq hzu hz0 hzl rfl rfl
                                                        rw [hT_49, hT_47, hT_45, hT_43, hT_41, hT_39, hT_37, hT_35, hT_33, hT_31, hT_29, hT_27, hT_25, hT_23, hT_21, hT_19, hT_16, hT_14, hT_12, hT_9, hT_7, hT_5, hT_1] at hW
                                                        exact h_vret hx hb hr hlk hW.2.2 ⟨hW.1, bs_D hW.2.1 (ls_PCI3 G sa), hz⟩ (Nat.le_of_ble_eq_true rfl) (Nat.le_of_ble_eq_true rfl) d_PC_init_197
                                                      · exact absurd c_50 (by decide)
                    · exact absurd c_17 (by decide)
            · exact absurd c_10 (by decide)
    · skip
      exact absurd c_3 hf
  · skip
    exact absurd c_2 hf
