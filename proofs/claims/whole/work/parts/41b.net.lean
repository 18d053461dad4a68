theorem kw_542 : .methodLink R_Net 3 Lib.objectInit ∈ WS := List.mem_filter.mpr ⟨List.mem_append_right _ (List.mem_of_getElem? (i := 44) (by decide +kernel)), by decide +kernel⟩
theorem kw_543 : .classLink R_Net 9 R_Msg ∈ WS := List.mem_filter.mpr ⟨List.mem_append_right _ (List.mem_of_getElem? (i := 45) (by decide +kernel)), by decide +kernel⟩
theorem kw_544 : .instantiable R_Msg 8 ∈ WS := List.mem_filter.mpr ⟨List.mem_append_right _ (List.mem_of_getElem? (i := 47) (by decide +kernel)), by decide +kernel⟩
theorem kw_545 : .code y_Msg_init b_Msg_init 1 none ∈ WS := List.mem_filter.mpr ⟨List.mem_append_right _ (List.mem_of_getElem? (i := 50) (by decide +kernel)), by decide +kernel⟩
theorem kw_546 : .instanceMethod y_Msg_init ∈ WS := List.mem_filter.mpr ⟨List.mem_append_right _ (List.mem_of_getElem? (i := 49) (by decide +kernel)), by decide +kernel⟩
theorem hd_Msg_init : y_Msg_init.cls ≠ "java/lang/invoke/MethodHandle" ∧ y_Msg_init.cls ≠ "java/lang/invoke/VarHandle" ∧ (parseMethodDescriptor y_Msg_init.desc).map (fun d => d.parameters.length) = some 0 := by decide +kernel
set_option maxHeartbeats 4000000 in
set_option maxRecDepth 100000 in
theorem h_NetI (l : Launch) (G : GT) (Hx : Heap) (sa : Nat) (hz0 : Array.size Hx = sa + 1) (hP : va_P G.1 gcl [(sa, .inr (iNet, [.null, .int (0), .int (0), .null, .null]))] Hx) (hD : va_D (gAb G) [(sa, .inr (iNet, [.null, .int (0), .int (0), .null, .null]))]) : Met l y_Net_init (.code y_Net_init b_Net_init 2 none :: WS) { frames := 2, cells := 125, slots := 742, locals := 50 } (hPre G [.ref sa] (fun H9 => H9 = Hx)) (hQv G (fun H9 => va_P G.1 gcl (wNetI G sa) H9 ∧ va_D (fun q => sa ≤ q) (wNetI G sa) ∧ Array.size H9 = sa + 126)) 125 742 (gAb G) := by
  refine h_startI (own := R_Net) (by decide +kernel) rfl (Nat.le_of_ble_eq_true rfl) ?_
  intro p e zs zm below meth zc ls hini C hI hl
  subst hI
  obtain ⟨hx, hb, hr, hml, hown, hts, hlk, hE, hbs⟩ := C
  have hK := hE.1
  have hl : lv_has ls 2 [(0, .ref sa)] := hl
  obtain ⟨locs, hlocs⟩ : ∃ l9 : List Loc, l9 = [] := ⟨_, rfl⟩
  rw [← hlocs]
  have hW : WW G zs.heap [(sa, .inr (iNet, [.null, .int (0), .int (0), .null, .null]))] zs.heap locs := ⟨hP, hD, by rw [hlocs]; exact va_S.rf⟩
  refine lv_aload_n hx hb d_Net_init_0 rfl (lv_at hl 0 rfl) ?_
  refine h_oinit hx hb hown (hts _ kw_542) (hts _ kw_89) (hts _ kw_90) (by rw [hml]; exact hl.1) d_Net_init_1 (Nat.le_of_ble_eq_true rfl) (Nat.le_of_ble_eq_true rfl) ?_
  refine lv_aload_n hx hb d_Net_init_4 rfl (lv_at hl 0 rfl) ?_
  refine lv_bipush (v := 60) hx hb d_Net_init_5 (by decide) ?_
  refine W_sz (fun hzu => ?_)
  have hzl := (va_P_mem.mp hW.1 _ (List.mem_of_getElem? (i := 0) rfl)).lt
  have hz : Array.size zs.heap = sa + 1 := sz_eq hzu hz0 hzl rfl rfl
  refine h_anew (G := G) (C := R_Msg) (t0 := 7) (N' := 60) hx hb hts hown kw_543 (List.mem_of_getElem? (i := 3) rfl) (List.mem_of_getElem? (i := 7) rfl) hE hW.2.2 (by decide) (by decide) (by decide) (Nat.le_of_ble_eq_true rfl) (Nat.le_of_ble_eq_true rfl) d_Net_init_7 (fun H ha9 hz9 hk9 hS9 => ?_)
  rw [hz] at ha9 ⊢
  have hW := WW_push2 hW hbs hz ha9 hk9 hS9
  have hW : WW G zs.heap [(sa, .inr (iNet, [.null, .int (0), .int (0), .null, .null])), (sa + 1, aR (gC G 7) (60) (fun _ => none))] H locs := hW
  refine va_putF hx hb hts i_Net t_Net t_Net_ok n_Net hown hK hW.1 hW.2.1 hW.2.2 0 rfl rfl 0 (by decide) (hts _ kw_170) (fun _ h => h) rfl hini rfl (t_Net_ok 0 (by decide)) rfl rfl (Nat.le_of_ble_eq_true rfl) d_Net_init_10 (fun H locs h1 h2 h3 => ?_)
  have hW : WW G zs.heap [(sa, .inr (iNet, [.ref (sa + 1), .int (0), .int (0), .null, .null])), (sa + 1, aR (gC G 7) (60) (fun _ => none))] H locs := ⟨h1, h2, h3⟩
  refine lv_aload_n hx hb d_Net_init_13 rfl (lv_at hl 0 rfl) ?_
  refine lv_iconst (v := 0) hx hb d_Net_init_14 (by decide) ?_
  refine va_put hx hb hts i_Net t_Net t_Net_ok n_Net hown hK hW.1 hW.2.1 hW.2.2 0 rfl rfl 1 (by decide) (hts _ kw_169) (fun _ h => h) rfl (t_Net_ok 1 (by decide)) rfl rfl (Nat.le_of_ble_eq_true rfl) d_Net_init_15 (fun H locs h1 h2 h3 => ?_)
  have hW : WW G zs.heap [(sa, .inr (iNet, [.ref (sa + 1), .int (0), .int (0), .null, .null])), (sa + 1, aR (gC G 7) (60) (fun _ => none))] H locs := ⟨h1, h2, h3⟩
  refine lv_aload_n hx hb d_Net_init_18 rfl (lv_at hl 0 rfl) ?_
  refine lv_iconst (v := 0) hx hb d_Net_init_19 (by decide) ?_
  refine va_put hx hb hts i_Net t_Net t_Net_ok n_Net hown hK hW.1 hW.2.1 hW.2.2 0 rfl rfl 2 (by decide) (hts _ kw_175) (fun _ h => h) rfl (t_Net_ok 2 (by decide)) rfl rfl (Nat.le_of_ble_eq_true rfl) d_Net_init_20 (fun H locs h1 h2 h3 => ?_)
  have hW : WW G zs.heap [(sa, .inr (iNet, [.ref (sa + 1), .int (0), .int (0), .null, .null])), (sa + 1, aR (gC G 7) (60) (fun _ => none))] H locs := ⟨h1, h2, h3⟩
  refine lv_aload_n hx hb d_Net_init_23 rfl (lv_at hl 0 rfl) ?_
  refine W_sz (fun hzu => ?_)
  have hzl := (va_P_mem.mp hW.1 _ (List.mem_of_getElem? (i := 1) rfl)).lt
  have hz : Array.size H = sa + 2 := sz_eq hzu hz0 hzl rfl rfl
  have hlt0 := WW_lt hW
  rw [hz] at hlt0
  refine h_new (G := G) (fs := [.int (0), .int (0), .int (0), .int (0), .int (0), .int (0), .int (0), .null]) hx hb hts i_Msg t_Msg t_Msg_ok hown kw_543 kw_544 kw_115 hE hW.2.2 hbs (ci := iMsg) rfl df_Msg (Nat.le_of_ble_eq_true rfl) (Nat.le_of_ble_eq_true rfl) d_Net_init_24 (fun H ha9 hz9 hk9 hS9 => ?_)
  have hW := WW_keep hW hk9 hS9
  rw [hz] at ha9 hz9 ⊢
  refine lv_dup hx hb d_Net_init_27 rfl ?_
  obtain ⟨hP1, hD1⟩ := WW_one ha9
  have hgs : gbase G ≤ sa + 2 := gs_le hbs hz0 (by decide)
  refine h_cv (G := G) (h_runIN (G := G) (G' := gB G (sa + 2)) (I := fun Hz => Hz = H) hx hb hml hown hts hE hW.2.2 hgs rfl (sz_le hz9) rfl (h_MsgI l (gB G (sa + 2)) H (sa + 2) hz9 hP1 hD1) km_0 kw_546 rfl kw_115 kw_545 rfl rfl hd_Msg_init ⟨Nat.le_of_ble_eq_true rfl, Nat.le_of_ble_eq_true rfl⟩ (As := []) (rest := [.ref (sa + 2), .ref sa]) rfl hl.1 rfl (Nat.le_of_ble_eq_true rfl) d_Net_init_28 ⟨Nat.le_of_ble_eq_true rfl, Nat.le_of_ble_eq_true rfl⟩) hW.2.2 hgs (fun H9 locs hJ hq9 hk9 hS9 => ?_)
  obtain ⟨hJ1, hJ2, hJ3⟩ := hJ
  have hW := WW_block hW hlt0 hgs hk9 hJ1 hJ2 hS9
  generalize H9 = H at *
  have hW : WW G zs.heap ([(sa, .inr (iNet, [.ref (sa + 1), .int (0), .int (0), .null, .null])), (sa + 1, aR (gC G 7) (60) (fun _ => none))] ++ wMsgI G (sa + 2)) H locs := hW
  refine va_putF hx hb hts i_Net t_Net t_Net_ok n_Net hown hK hW.1 hW.2.1 hW.2.2 0 rfl rfl 3 (by decide) (hts _ kw_164) (fun _ h => h) rfl hini rfl (t_Net_ok 3 (by decide)) rfl rfl (Nat.le_of_ble_eq_true rfl) d_Net_init_31 (fun H locs h1 h2 h3 => ?_)
  have hW : WW G zs.heap ([(sa, .inr (iNet, [.ref (sa + 1), .int (0), .int (0), .ref (sa + 2), .null])), (sa + 1, aR (gC G 7) (60) (fun _ => none))] ++ wMsgI G (sa + 2)) H locs := ⟨h1, h2, h3⟩
  refine lv_aload_n hx hb d_Net_init_34 rfl (lv_at hl 0 rfl) ?_
  refine W_sz (fun hzu => ?_)
  have hzl := (va_P_mem.mp hW.1 _ (show (sa + 3, _) ∈ ([(sa, .inr (iNet, [.ref (sa + 1), .int (0), .int (0), .ref (sa + 2), .null])), (sa + 1, aR (gC G 7) (60) (fun _ => none))] ++ wMsgI G (sa + 2)) from (List.mem_append_right _ (List.mem_of_getElem? (i := 1) rfl)))).lt
  have hz : Array.size H = sa + 4 := sz_eq hzu hz0 hzl rfl rfl
  have hlt0 := WW_lt hW
  rw [hz] at hlt0
  refine h_new (G := G) (fs := [.int (0), .int (0), .int (0), .int (0), .int (0), .int (0), .int (0), .null]) hx hb hts i_Msg t_Msg t_Msg_ok hown kw_543 kw_544 kw_115 hE hW.2.2 hbs (ci := iMsg) rfl df_Msg (Nat.le_of_ble_eq_true rfl) (Nat.le_of_ble_eq_true rfl) d_Net_init_35 (fun H ha9 hz9 hk9 hS9 => ?_)
  have hW := WW_keep hW hk9 hS9
  rw [hz] at ha9 hz9 ⊢
  refine lv_dup hx hb d_Net_init_38 rfl ?_
  obtain ⟨hP1, hD1⟩ := WW_one ha9
  have hgs : gbase G ≤ sa + 4 := gs_le hbs hz0 (by decide)
  refine h_cv (G := G) (h_runIN (G := G) (G' := gB G (sa + 4)) (I := fun Hz => Hz = H) hx hb hml hown hts hE hW.2.2 hgs rfl (sz_le hz9) rfl (h_MsgI l (gB G (sa + 4)) H (sa + 4) hz9 hP1 hD1) km_0 kw_546 rfl kw_115 kw_545 rfl rfl hd_Msg_init ⟨Nat.le_of_ble_eq_true rfl, Nat.le_of_ble_eq_true rfl⟩ (As := []) (rest := [.ref (sa + 4), .ref sa]) rfl hl.1 rfl (Nat.le_of_ble_eq_true rfl) d_Net_init_39 ⟨Nat.le_of_ble_eq_true rfl, Nat.le_of_ble_eq_true rfl⟩) hW.2.2 hgs (fun H9 locs hJ hq9 hk9 hS9 => ?_)
  obtain ⟨hJ1, hJ2, hJ3⟩ := hJ
  have hW := WW_block hW hlt0 hgs hk9 hJ1 hJ2 hS9
  generalize H9 = H at *
  have hW : WW G zs.heap ([(sa, .inr (iNet, [.ref (sa + 1), .int (0), .int (0), .ref (sa + 2), .null])), (sa + 1, aR (gC G 7) (60) (fun _ => none))] ++ (wMsgI G (sa + 2) ++ wMsgI G (sa + 4))) H locs := by rw [← List.append_assoc]; exact hW
  refine va_putF hx hb hts i_Net t_Net t_Net_ok n_Net hown hK hW.1 hW.2.1 hW.2.2 0 rfl rfl 4 (by decide) (hts _ kw_176) (fun _ h => h) rfl hini rfl (t_Net_ok 4 (by decide)) rfl rfl (Nat.le_of_ble_eq_true rfl) d_Net_init_42 (fun H locs h1 h2 h3 => ?_)
  have hW : WW G zs.heap ([(sa, .inr (iNet, [.ref (sa + 1), .int (0), .int (0), .ref (sa + 2), .ref (sa + 4)])), (sa + 1, aR (gC G 7) (60) (fun _ => none))] ++ (wMsgI G (sa + 2) ++ wMsgI G (sa + 4))) H locs := ⟨h1, h2, h3⟩
  refine lv_iconst (v := 0) hx hb d_Net_init_45 (by decide) ?_
  refine lv_istore_n (lv' := [(1, .int (0)), (0, .ref sa)]) hx hb d_Net_init_46 rfl hl (by decide) rfl (fun ls hl => ?_)
  have L_47 : ∀ (N j : Nat), j ≤ 60 → 60 + 1 ≤ j + N → ∀ (H : Heap) (locs : List Loc) (ls : Array Slot), WW G zs.heap ([(sa, .inr (iNet, [.ref (sa + 1), .int 0, .int 0, .ref (sa + 2), .ref (sa + 4)])), (sa + 1, aR (gC G 7) 60 (rwF sa j))] ++ mtail G sa j) H locs → lv_has ls 2 [(1, .int (nI j)), (0, .ref sa)] → W p l e { frames := 2, cells := 125, slots := 742, locals := 50 } zs zm [Value.ref sa].toArray below meth zc H locs (5 + 2 * j) (82 + 11 * j) (MQ below (hQv G (fun H9 => va_P G.1 gcl (wNetI G sa) H9 ∧ va_D (fun q => sa ≤ q) (wNetI G sa) ∧ Array.size H9 = sa + 126)) [Value.ref sa].toArray zs 125 742 (gAb G)) (F0 zm 47 ls []) := by
    intro N
    induction N with
    | zero => intro j h1 h2; exact absurd h2 (by omega)
    | succ N ih =>
      intro j hj hN H locs ls hW hl
      refine lv_iload_n hx hb d_Net_init_47 rfl (lv_at hl 0 rfl) ?_
      refine lv_bipush (v := 60) hx hb d_Net_init_48 (by decide) ?_
      refine lv_icmp_ge (tgt := 72) hx hb d_Net_init_50 (by decide) (fun c_1 => ?_) (fun c_1 => ?_)
      · skip
        obtain rfl : j = 60 := lp_out (B := 60) rfl (by decide) hj c_1
        refine W_sz (fun hzu => ?_)
        obtain ⟨e9, he9⟩ := mt_last G sa 60
        have hzl := (va_P_mem.mp hW.1 _ (List.mem_append_right _ he9)).lt
        have hz : Array.size H = sa + 126 := by omega
        exact h_vret hx hb hr hlk hW.2.2 ⟨hW.1, bs_D hW.2.1 (ls_NetI G sa), hz⟩ (Nat.le_of_ble_eq_true rfl) (Nat.le_of_ble_eq_true rfl) d_Net_init_72
      · skip
        have lt_j : j < 60 := lp_in (B := 60) rfl (by decide) hj c_1
        refine lv_aload_n hx hb d_Net_init_53 rfl (lv_at hl 1 rfl) ?_
        refine va_get (v := .ref (sa + 1)) hx hb hts i_Net hown hK hW.1 0 rfl rfl 0 (by decide) (hts _ kw_170) (fun _ h => h) rfl d_Net_init_54 ?_
        refine lv_iload_n hx hb d_Net_init_57 rfl (lv_at hl 0 rfl) ?_
        refine W_sz (fun hzu => ?_)
        obtain ⟨e9, he9⟩ := mt_last G sa j
        have hzl := (va_P_mem.mp hW.1 _ (List.mem_append_right _ he9)).lt
        have hz : Array.size H = sa + 6 + 2 * j := by omega
        have hlt0 := WW_lt hW
        rw [hz] at hlt0
        refine h_new (G := G) (fs := [.int (0), .int (0), .int (0), .int (0), .int (0), .int (0), .int (0), .null]) hx hb hts i_Msg t_Msg t_Msg_ok hown kw_543 kw_544 kw_115 hE hW.2.2 hbs (ci := iMsg) rfl df_Msg (by show 5 + 2 * j + 1 ≤ 125; omega) (by show 82 + 11 * j + 8 ≤ 742; omega) d_Net_init_58 (fun H ha9 hz9 hk9 hS9 => ?_)
        have hW := WW_keep hW hk9 hS9
        rw [hz] at ha9 hz9 ⊢
        refine lv_dup hx hb d_Net_init_61 rfl ?_
        obtain ⟨hP1, hD1⟩ := WW_one ha9
        have hgs : gbase G ≤ sa + 6 + 2 * j := by have := hbs; have := hz0; omega
        refine h_cv (G := G) (h_runIN (G := G) (G' := gB G (sa + 6 + 2 * j)) (I := fun Hz => Hz = H) hx hb hml hown hts hE hW.2.2 hgs rfl (sz_le hz9) rfl (h_MsgI l (gB G (sa + 6 + 2 * j)) H (sa + 6 + 2 * j) hz9 hP1 hD1) km_0 kw_546 rfl kw_115 kw_545 rfl rfl hd_Msg_init ⟨Nat.le_of_ble_eq_true rfl, Nat.le_of_ble_eq_true rfl⟩ (As := []) (rest := [.ref (sa + 6 + 2 * j), .int (nI j), .ref (sa + 1)]) rfl hl.1 rfl (Nat.le_of_ble_eq_true rfl) d_Net_init_62 ⟨by show 5 + 2 * j + 1 + 1 ≤ 125; omega, by show 82 + 11 * j + 8 + 3 ≤ 742; omega⟩) hW.2.2 hgs (fun H9 locs hJ hq9 hk9 hS9 => ?_)
        obtain ⟨hJ1, hJ2, hJ3⟩ := hJ
        have hW := WW_block hW hlt0 hgs hk9 hJ1 hJ2 hS9
        generalize H9 = H at *
        have hW : WW G zs.heap ([(sa, .inr (iNet, [.ref (sa + 1), .int (0), .int (0), .ref (sa + 2), .ref (sa + 4)])), (sa + 1, aR (gC G 7) (60) (rwF sa j))] ++ (mtail G sa j ++ wMsgI G (sa + 6 + 2 * j))) H locs := by rw [← List.append_assoc]; exact hW
        obtain ⟨qk, hqk⟩ := List.getElem?_of_mem (show (sa + 6 + 2 * j, _) ∈ ([(sa, .inr (iNet, [.ref (sa + 1), .int (0), .int (0), .ref (sa + 2), .ref (sa + 4)])), (sa + 1, aR (gC G 7) (60) (rwF sa j))] ++ (mtail G sa j ++ wMsgI G (sa + 6 + 2 * j))) from (List.mem_append_right _ (List.mem_append_right _ (List.mem_of_getElem? (i := 0) rfl))))
        refine va_astq hx hb hK hW.1 hW.2.1 hW.2.2 1 7 qk iMsg (r := (R_Msg, T_Msg, 8)) (n := 60) (f := rwF sa j) rfl rfl hqk rfl (vp_in_nI lt_j (by decide)) d_Net_init_65 (fun H locs h1 h2 h3 => ?_)
        rw [show (nI j : Int32).toNatClampNeg = j by exact nI_clamp (by omega)] at h1 h2
        have hW : WW G zs.heap ([(sa, .inr (iNet, [.ref (sa + 1), .int (0), .int (0), .ref (sa + 2), .ref (sa + 4)])), (sa + 1, aR (gC G 7) (60) (va_up (rwF sa j) j (some (sa + 6 + 2 * j))))] ++ (mtail G sa j ++ wMsgI G (sa + 6 + 2 * j))) H locs := ⟨h1, h2, h3⟩
        refine lv_iinc (v := nI (j + 1)) (lv' := [(1, .int (nI (j + 1))), (0, .ref sa)]) hx hb d_Net_init_66 hl (k := 0) rfl (nI_1 (j)) (by decide) rfl (fun ls hl => ?_)
        refine lv_goto (tgt := 47) hx hb d_Net_init_69 (by decide) ?_
        have hW : WW G zs.heap ([(sa, .inr (iNet, [.ref (sa + 1), .int 0, .int 0, .ref (sa + 2), .ref (sa + 4)])), (sa + 1, aR (gC G 7) 60 (rwF sa (j + 1)))] ++ mtail G sa (j + 1)) H locs := by rw [mt_succ, ← rw_succ]; exact hW
        refine W_n (c1 := 5 + 2 * (j + 1)) (s1 := 82 + 11 * (j + 1)) (by omega) (by omega) ?_
        exact ih (j + 1) (by omega) (by omega) _ _ _ hW (lv_sub hl [0, 1] rfl)
  have hW : WW G zs.heap ([(sa, .inr (iNet, [.ref (sa + 1), .int 0, .int 0, .ref (sa + 2), .ref (sa + 4)])), (sa + 1, aR (gC G 7) 60 (rwF sa 0))] ++ mtail G sa 0) H locs := by rw [mt_0, rw_0]; exact hW
  exact L_47 (60 + 1) 0 (by omega) (by omega) _ _ _ hW (lv_sub hl [0, 1] rfl)
