theorem kw_386 : .classLink R_PC 171 R_SB ∈ WS := List.mem_filter.mpr ⟨List.mem_append_right _ (List.mem_of_getElem? (i := 653) (by decide +kernel)), by decide +kernel⟩
theorem kw_387 : .instantiable R_SB 4 ∈ WS := List.mem_filter.mpr ⟨List.mem_append_right _ (List.mem_of_getElem? (i := 654) (by decide +kernel)), by decide +kernel⟩
theorem kw_388 : .code y_SB_init b_SB_init 1 none ∈ WS := List.mem_filter.mpr ⟨List.mem_append_right _ (List.mem_of_getElem? (i := 657) (by decide +kernel)), by decide +kernel⟩
theorem kw_389 : .methodLink R_PC 173 y_SB_init ∈ WS := List.mem_filter.mpr ⟨List.mem_append_right _ (List.mem_of_getElem? (i := 655) (by decide +kernel)), by decide +kernel⟩
theorem kw_390 : .instanceMethod y_SB_init ∈ WS := List.mem_filter.mpr ⟨List.mem_append_right _ (List.mem_of_getElem? (i := 656) (by decide +kernel)), by decide +kernel⟩
theorem kw_391 : .code y_Msg_spell b_Msg_spell 3 none ∈ WS := List.mem_filter.mpr ⟨List.mem_append_right _ (List.mem_of_getElem? (i := 686) (by decide +kernel)), by decide +kernel⟩
theorem kw_392 : .methodLink R_PC 178 y_Msg_spell ∈ WS := List.mem_filter.mpr ⟨List.mem_append_right _ (List.mem_of_getElem? (i := 683) (by decide +kernel)), by decide +kernel⟩
theorem kw_393 : .instanceMethod y_Msg_spell ∈ WS := List.mem_filter.mpr ⟨List.mem_append_right _ (List.mem_of_getElem? (i := 684) (by decide +kernel)), by decide +kernel⟩
theorem kw_394 : .selects R_Msg y_Msg_spell y_Msg_spell ∈ WS := List.mem_filter.mpr ⟨List.mem_append_right _ (List.mem_of_getElem? (i := 685) (by decide +kernel)), by decide +kernel⟩
theorem kw_395 : .code y_SB_length b_SB_length 1 (some .int) ∈ WS := List.mem_filter.mpr ⟨List.mem_append_right _ (List.mem_of_getElem? (i := 845) (by decide +kernel)), by decide +kernel⟩
theorem kw_396 : .methodLink R_PC 184 y_SB_length ∈ WS := List.mem_filter.mpr ⟨List.mem_append_right _ (List.mem_of_getElem? (i := 842) (by decide +kernel)), by decide +kernel⟩
theorem kw_397 : .instanceMethod y_SB_length ∈ WS := List.mem_filter.mpr ⟨List.mem_append_right _ (List.mem_of_getElem? (i := 843) (by decide +kernel)), by decide +kernel⟩
theorem kw_398 : .selects R_SB y_SB_length y_SB_length ∈ WS := List.mem_filter.mpr ⟨List.mem_append_right _ (List.mem_of_getElem? (i := 844) (by decide +kernel)), by decide +kernel⟩
theorem kw_399 : .code y_SB_charAt b_SB_charAt 2 (some .char) ∈ WS := List.mem_filter.mpr ⟨List.mem_append_right _ (List.mem_of_getElem? (i := 852) (by decide +kernel)), by decide +kernel⟩
theorem kw_400 : .methodLink R_PC 188 y_SB_charAt ∈ WS := List.mem_filter.mpr ⟨List.mem_append_right _ (List.mem_of_getElem? (i := 849) (by decide +kernel)), by decide +kernel⟩
theorem kw_401 : .instanceMethod y_SB_charAt ∈ WS := List.mem_filter.mpr ⟨List.mem_append_right _ (List.mem_of_getElem? (i := 850) (by decide +kernel)), by decide +kernel⟩
theorem kw_402 : .selects R_SB y_SB_charAt y_SB_charAt ∈ WS := List.mem_filter.mpr ⟨List.mem_append_right _ (List.mem_of_getElem? (i := 851) (by decide +kernel)), by decide +kernel⟩
theorem hd_SB_init : y_SB_init.cls ≠ "java/lang/invoke/MethodHandle" ∧ y_SB_init.cls ≠ "java/lang/invoke/VarHandle" ∧ (parseMethodDescriptor y_SB_init.desc).map (fun d => d.parameters.length) = some 0 := by decide +kernel
theorem hd_Msg_spell : y_Msg_spell.cls ≠ "java/lang/invoke/MethodHandle" ∧ y_Msg_spell.cls ≠ "java/lang/invoke/VarHandle" ∧ (parseMethodDescriptor y_Msg_spell.desc).map (fun d => d.parameters.length) = some 1 := by decide +kernel
theorem hd_SB_length : y_SB_length.cls ≠ "java/lang/invoke/MethodHandle" ∧ y_SB_length.cls ≠ "java/lang/invoke/VarHandle" ∧ (parseMethodDescriptor y_SB_length.desc).map (fun d => d.parameters.length) = some 0 := by decide +kernel
theorem hd_SB_charAt : y_SB_charAt.cls ≠ "java/lang/invoke/MethodHandle" ∧ y_SB_charAt.cls ≠ "java/lang/invoke/VarHandle" ∧ (parseMethodDescriptor y_SB_charAt.desc).map (fun d => d.parameters.length) = some 1 := by decide +kernel
set_option maxHeartbeats 4000000 in
set_option maxRecDepth 100000 in
theorem c_text (l : Launch) (hst : l.stackTraces = false) (G : GT) (hG : GOK G) (d : DD) (x0 x1 : Int32) (hN : NetOK d) (hMt : ∀ i z, z ≤ 60 → d 5 1 = nI z → i < z → ∀ q, q < 60 → d 8 i = nI q → MsgTx d q) : vx_Met l y_PC_text (.code y_PC_text b_PC_text 4 (some .int) :: WS) { frames := 8, cells := 21, slots := 638, locals := 179 } (cPre G [.ref (gad G (0)), .int (x0), .int (x1)] d) (cQi G (fun r9 u9 => txX d x0 x1 = none ∧ r9 = rdI (txt (d (cl (d 8 (cl x0)) + 420)) (d (cl (d 8 (cl x0)) + 490))) x1 ∧ u9 = d)) (cX G (fun E9 u9 => txX d x0 x1 = some E9 ∧ u9 = d)) 21 638 (gAb G) := by
  refine c_startX (own := R_PC) (by decide +kernel) rfl (Nat.le_of_ble_eq_true rfl) ?_
  intro p e zs zm below meth zc ls hno C hW hl
  obtain ⟨hx, hb, hr, hml, hown, hts, hlk, hE, hbs⟩ := C
  have hK := hE.1
  have hn3 := hG.1
  have hl : lv_has ls 4 [(0, .ref (gad G (0))), (1, .int (x0)), (2, .int (x1))] := hl
  obtain ⟨⟨z, hz60, fz⟩, hrow, hinj⟩ := id hN
  refine lv_iload_n hx hb d_PC_text_0 rfl (lv_at hl 2 rfl) ?_
  refine lv_if_ge (tgt := 14) hx hb d_PC_text_1 (by decide) (fun c_1 => ?_) (fun c_1 => ?_)
  · skip
    refine lv_aload_n hx hb d_PC_text_14 rfl (lv_at hl 0 rfl) ?_
    refine lv_iload_n hx hb d_PC_text_15 rfl (lv_at hl 1 rfl) ?_
    refine e_xv (e_xrunV hx hb hml hown hts hE hbs hW (F_PC G hG) rfl (c_checkMessage l hst G hG d (x0)) kw_360 kw_361 kw_362 kw_104 kw_359 rfl rfl hd_PC_checkMessage ⟨Nat.le_of_ble_eq_true rfl, Nat.le_of_ble_eq_true rfl⟩ (As := [.int (x0)]) (rest := []) rfl hl.1 rfl (Nat.le_of_ble_eq_true rfl) d_PC_text_16 ⟨Nat.le_of_ble_eq_true rfl, Nat.le_of_ble_eq_true rfl⟩) hW (fun E9 ce q9 d' H locs hp hW g1 g2 g3 => ?_) (fun d' H locs hp hW => ?_)
    · obtain ⟨hp1, hp2⟩ := hp
      have hp2 := hp2.symm; subst hp2
      exact e_xout hno hlk hW g1 g2 g3 ⟨by unfold txX; rw [if_pos c_1, hp1] <;> rfl, by exact rfl⟩ (Nat.le_of_ble_eq_true rfl) (Nat.le_of_ble_eq_true rfl)
    obtain ⟨h_2, hp2⟩ := hp
    have hp2 := hp2.symm; subst hp2
    obtain ⟨i, hiz, et⟩ := ms_nat (z := z) (by omega) fz h_2
    subst et
    obtain ⟨q, hq, fq⟩ := hrow i (by omega)
    obtain ⟨⟨k0, hk6, hk0⟩, hs1, hs2, hs3, hs4, hs5, hsq⟩ := hMt i z hz60 fz hiz q hq fq
    obtain ⟨k, hk31, ek⟩ := nI_of (x := x1) (Int32.not_lt.mpr c_1)
    subst ek
    have hW0 := hW
    obtain ⟨sa, e_sa⟩ : ∃ q9 : Nat, q9 = Array.size H := ⟨_, rfl⟩
    refine h_new (G := G) (fs := [.null, .int 0, .int 0, .int 0]) hx hb hts i_SB t_SB t_SB_ok hown kw_386 kw_387 kw_95 hE hW.2.2 hbs (ci := iSB) rfl (fun j hj => by match j, hj with
      | 0, _ => rfl
      | 1, _ => rfl
      | 2, _ => rfl
      | 3, _ => rfl) (Nat.le_of_ble_eq_true rfl) (Nat.le_of_ble_eq_true rfl) d_PC_text_19 (fun H ha9 hz9 hk9 hS9 => ?_)
    rw [← e_sa] at ha9 hk9 hz9 ⊢
    have hlo : ∀ c ∈ Cs G, gad G c < sa := fun c hc => by rw [e_sa]; exact WD_lt hW0 hc
    have hgs : gbase G ≤ sa := by rw [e_sa]; exact Nat.le_trans hbs hW0.2.2.1
    have hW := WD_keep hW0 hlo (Nat.le_of_eq e_sa) (fun q _ h => hk9 q h) hS9
    refine lv_dup hx hb d_PC_text_22 rfl ?_
    obtain ⟨hP1, hD1⟩ := WW_one ha9
    have hsz : sa ≤ Array.size H := by rw [hz9]; exact Nat.le_succ _
    refine h_cv (G := G) (h_runI (G := G) (G' := gB G sa) (I := fun Hz => Hz = H) hx hb hml hown hts hE hW.2.2 hgs rfl hsz rfl (h_sbInit l (gB G sa) H sa hP1 hD1) kw_389 kw_390 rfl kw_95 kw_388 rfl rfl hd_SB_init ⟨Nat.le_of_ble_eq_true rfl, Nat.le_of_ble_eq_true rfl⟩ (As := []) (rest := [.ref sa]) rfl hl.1 rfl (Nat.le_of_ble_eq_true rfl) d_PC_text_23 ⟨Nat.le_of_ble_eq_true rfl, Nat.le_of_ble_eq_true rfl⟩) hW.2.2 hgs (fun H9 locs hJ hz9 hk9 hS9 => ?_)
    have hW := WD_keep hW hlo hsz hk9 hS9
    have hsz := Nat.le_trans hsz hz9
    generalize H9 = H at *
    refine lv_astore_n (lv' := [(3, .ref sa), (0, .ref (gad G (0))), (1, .int (nI i)), (2, .int (nI k))]) hx hb d_PC_text_26 rfl hl (by decide) rfl (fun ls hl => ?_)
    refine lv_aload_n hx hb d_PC_text_27 rfl (lv_at hl 1 rfl) ?_
    refine e_get (v := .ref (gad G (5))) hx hb hts hown hK hW (F_PC G hG) i_PC rfl 5 (by decide) (hts _ kw_210) (fun _ h => h) rfl d_PC_text_28 ?_
    refine e_getN (v := .ref (gad G (8))) hx hb hts hown hK hW (F_Net G hG) i_Net rfl 0 (by decide) (nf_8 hE) (fun _ h => h) rfl d_PC_text_31 ?_
    refine lv_iload_n hx hb d_PC_text_34 rfl (lv_at hl 2 rfl) ?_
    refine e_aldq hx hb hK hW (F_Row G hG) (j := i) (by omega) (q := q + 420) (rw_at (fq) (by omega)) rfl d_PC_text_35 ?_
    refine lv_aload_n hx hb d_PC_text_36 rfl (lv_at hl 0 rfl) ?_
    have hF1 := F_Msg (i0 := q) G hG (by omega)
    have hF2 := F_Rep (i0 := q) G hG (by omega)
    obtain ⟨k9, hk9⟩ := wl_get (G := G) (d := d) hF1.1
    rw [en, hF1.2] at hk9
    refine h_cv (G := G) (h_runV (C := R_Msg) (G := G) (G' := gB G sa) (I := fun Hz => Hz = H) hx hb hml hown hts hE hW.2.2 hgs rfl hsz rfl hW.1 k9 hk9 rfl (h_spell l (gB G sa) H sa _ _ k0 (d (q + 420)) (d (q + 490)) hk6 hk0 hs1 hs2 hs3 hs4 hs5 hsq (WD_two hW hF1 hF2) ⟨hlo _ hF1.1, hlo _ hF2.1⟩ hJ) kw_392 kw_393 (hts _ kw_394) kw_115 kw_391 rfl rfl hd_Msg_spell ⟨Nat.le_of_ble_eq_true rfl, Nat.le_of_ble_eq_true rfl⟩ (As := [.ref sa]) (rest := []) rfl hl.1 rfl (Nat.le_of_ble_eq_true rfl) d_PC_text_37 ⟨Nat.le_of_ble_eq_true rfl, Nat.le_of_ble_eq_true rfl⟩) hW.2.2 hgs (fun H9 locs hJ hz9 hk9 hS9 => ?_)
    have hW := WD_keep hW hlo hsz hk9 hS9
    have hsz := Nat.le_trans hsz hz9
    obtain ⟨va, m, a, hP1, hD1, hL, hf, hnm, hm⟩ := hJ
    generalize H9 = H at *
    refine lv_iload_n hx hb d_PC_text_40 rfl (lv_at hl 3 rfl) ?_
    refine lv_aload_n hx hb d_PC_text_41 rfl (lv_at hl 0 rfl) ?_
    refine h_ci (G := G) (h_runV (C := R_SB) (G := G) (G' := gB G sa) (I := fun Hz => Hz = H) hx hb hml hown hts hE hW.2.2 hgs rfl hsz rfl hP1 0 rfl rfl (h_sbLen l (gB G sa) H _ _ _ _ _ hL hf hnm hm hP1 hD1) kw_396 kw_397 (hts _ kw_398) kw_95 kw_395 rfl rfl hd_SB_length ⟨Nat.le_of_ble_eq_true rfl, Nat.le_of_ble_eq_true rfl⟩ (As := []) (rest := [.int (nI k)]) rfl hl.1 rfl (Nat.le_of_ble_eq_true rfl) d_PC_text_42 ⟨Nat.le_of_ble_eq_true rfl, Nat.le_of_ble_eq_true rfl⟩) hW.2.2 hgs (fun r9 H9 locs hJ hz9 hk9 hS9 => ?_)
    have hW := WD_keep hW hlo hsz hk9 hS9
    have hsz := Nat.le_trans hsz hz9
    obtain ⟨hr9, hH9⟩ := hJ
    have hr9 := hr9.symm; subst hr9
    have hH9 := hH9.symm; subst hH9
    refine lv_icmp_lt (tgt := 50) hx hb d_PC_text_45 (by decide) (fun c_3 => ?_) (fun c_3 => ?_)
    · skip
      refine lv_aload_n hx hb d_PC_text_50 rfl (lv_at hl 0 rfl) ?_
      refine lv_iload_n hx hb d_PC_text_51 rfl (lv_at hl 3 rfl) ?_
      have htl := txt_len (q := d (q + 490)) hs1 hs2 hs3 hs4
      have hkl : k < (txt (d (q + 420)) (d (q + 490))).length := (nI_ltI (by omega) (by omega)).mp c_3
      refine h_ci (G := G) (h_runV (C := R_SB) (G := G) (G' := gB G sa) (I := fun Hz => Hz = H) hx hb hml hown hts hE hW.2.2 hgs rfl hsz rfl hP1 0 rfl rfl (h_sbChar l (gB G sa) H _ _ _ _ _ hL hf hnm hm k hkl hP1 hD1) kw_400 kw_401 (hts _ kw_402) kw_95 kw_399 rfl rfl hd_SB_charAt ⟨Nat.le_of_ble_eq_true rfl, Nat.le_of_ble_eq_true rfl⟩ (As := [.int (nI k)]) (rest := []) rfl hl.1 rfl (Nat.le_of_ble_eq_true rfl) d_PC_text_52 ⟨Nat.le_of_ble_eq_true rfl, Nat.le_of_ble_eq_true rfl⟩) hW.2.2 hgs (fun r9 H9 locs hJ hz9 hk9 hS9 => ?_)
      have hW := WD_keep hW hlo hsz hk9 hS9
      have hsz := Nat.le_trans hsz hz9
      obtain ⟨hr9, hH9⟩ := hJ
      have hr9 := hr9.symm; subst hr9
      have hH9 := hH9.symm; subst hH9
      exact e_xiret hx hb hr hlk hW ⟨by unfold txX; (try simp only [cl_nI (show i < 2147483648 by omega), cl_nI (show z < 2147483648 by omega), cl_nI (show q < 2147483648 by omega)]); rw [if_pos c_1, h_2] <;> rfl, by rw [cl_nI (show i < 2147483648 by omega), fq, cl_nI (show q < 2147483648 by omega)]; exact (rd_in (by omega) hkl).symm, by exact rfl⟩ (Nat.le_of_ble_eq_true rfl) (Nat.le_of_ble_eq_true rfl) d_PC_text_55
    · skip
      refine lv_iconst (v := -1) hx hb d_PC_text_48 (by decide) ?_
      exact e_xiret hx hb hr hlk hW ⟨by unfold txX; (try simp only [cl_nI (show i < 2147483648 by omega), cl_nI (show z < 2147483648 by omega), cl_nI (show q < 2147483648 by omega)]); rw [if_pos c_1, h_2] <;> rfl, by rw [cl_nI (show i < 2147483648 by omega), fq, cl_nI (show q < 2147483648 by omega)]; exact (rd_out (by omega) (fun h => c_3 (nI_lt h (by have := txt_len (q := d (q + 490)) hs1 hs2 hs3 hs4; omega)))).symm, by exact rfl⟩ (Nat.le_of_ble_eq_true rfl) (Nat.le_of_ble_eq_true rfl) d_PC_text_49
  · skip
    exact e_thr hst hx hb hown hts hE hW hml hl.1 hno hlk xt_PC_IllegalArgumentException ks_168 d_PC_text_4 d_PC_text_7 d_PC_text_8 d_PC_text_10 d_PC_text_13 (Nat.le_of_ble_eq_true rfl) (Nat.le_of_ble_eq_true rfl) (Nat.le_of_ble_eq_true rfl) (Nat.le_of_ble_eq_true rfl) (Nat.le_of_ble_eq_true rfl) (Nat.le_of_ble_eq_true rfl) ⟨by unfold txX; rw [if_neg c_1] <;> rfl, by exact rfl⟩
