theorem kw_220 : .fieldLink R_PC 32 "PaxosCommit" "members" "[I" ∈ WS := List.mem_filter.mpr ⟨List.mem_append_right _ (List.mem_of_getElem? (i := 188) (by decide +kernel)), by decide +kernel⟩
theorem kw_221 : .methodLink R_PC 105 y_PC_has ∈ WS := List.mem_filter.mpr ⟨List.mem_append_right _ (List.mem_of_getElem? (i := 344) (by decide +kernel)), by decide +kernel⟩
theorem kw_222 : .code y_PC_sendToStore b_PC_sendToStore 6 none ∈ WS := List.mem_filter.mpr ⟨List.mem_append_right _ (List.mem_of_getElem? (i := 403) (by decide +kernel)), by decide +kernel⟩
theorem kw_223 : .methodLink R_PC 108 y_PC_sendToStore ∈ WS := List.mem_filter.mpr ⟨List.mem_append_right _ (List.mem_of_getElem? (i := 400) (by decide +kernel)), by decide +kernel⟩
theorem kw_224 : .instanceMethod y_PC_sendToStore ∈ WS := List.mem_filter.mpr ⟨List.mem_append_right _ (List.mem_of_getElem? (i := 402) (by decide +kernel)), by decide +kernel⟩
theorem kw_225 : .selects R_PC y_PC_sendToStore y_PC_sendToStore ∈ WS := List.mem_filter.mpr ⟨List.mem_append_left _ (List.mem_of_getElem? (i := 3) (by decide +kernel)), by decide +kernel⟩
theorem hd_PC_sendToStore : y_PC_sendToStore.cls ≠ "java/lang/invoke/MethodHandle" ∧ y_PC_sendToStore.cls ≠ "java/lang/invoke/VarHandle" ∧ (parseMethodDescriptor y_PC_sendToStore.desc).map (fun d => d.parameters.length) = some 4 := by decide +kernel
set_option maxHeartbeats 4000000 in
set_option maxRecDepth 100000 in
theorem c_sendOutcomes (l : Launch) (G : GT) (hG : GOK G) (d : DD) (t : Nat) (ht : t < 8) (o : Int32) (hN : NetOK d) : Met l y_PC_sendOutcomes (.code y_PC_sendOutcomes b_PC_sendOutcomes 4 none :: WS) { frames := 4, cells := 0, slots := 0, locals := 107 } (cPre G [.ref (gad G (0)), .int (nI t), .int (o)] d) (cQv G (fun u9 => u9 = lpSO d t o 3)) 0 0 (gAb G) := by
  refine c_start (own := R_PC) (by decide +kernel) rfl (Nat.le_of_ble_eq_true rfl) ?_
  intro p e zs zm below meth zc ls C hW hl
  obtain ⟨hx, hb, hr, hml, hown, hts, hlk, hE, hbs⟩ := C
  have hK := hE.1
  have hn3 := hG.1
  have hl : lv_has ls 4 [(0, .ref (gad G (0))), (1, .int (nI t)), (2, .int (o))] := hl
  refine lv_iconst (v := 0) hx hb d_PC_sendOutcomes_0 (by decide) ?_
  refine lv_istore_n (lv' := [(3, .int (0)), (0, .ref (gad G (0))), (1, .int (nI t)), (2, .int (o))]) hx hb d_PC_sendOutcomes_1 rfl hl (by decide) rfl (fun ls hl => ?_)
  have L_2 : ∀ (N s : Nat), s ≤ 3 → 3 + 1 ≤ s + N → ∀ (H : Heap) (locs : List Loc) (ls : Array Slot), WD G zs.heap (lpSO d t o s) H locs → lv_has ls 4 [(3, .int (nI s)), (0, .ref (gad G (0))), (1, .int (nI t)), (2, .int (o))] → (NetOK (lpSO d t o s)) → W p l e { frames := 4, cells := 0, slots := 0, locals := 107 } zs zm [.ref (gad G (0)), .int (nI t), .int (o)].toArray below meth zc H locs 0 0 (MQ below (cQv G (fun u9 => u9 = lpSO d t o 3)) [.ref (gad G (0)), .int (nI t), .int (o)].toArray zs 0 0 (gAb G)) (F0 zm 2 ls []) := by
    intro N
    induction N with
    | zero => intro s h1 h2; exact absurd h2 (by omega)
    | succ N ih_s =>
      intro s hi_s hN_s H locs ls hW hl hM_s
      refine lv_iload_n hx hb d_PC_sendOutcomes_2 rfl (lv_at hl 0 rfl) ?_
      refine lv_iconst (v := 3) hx hb d_PC_sendOutcomes_3 (by decide) ?_
      refine lv_icmp_ge (tgt := 34) hx hb d_PC_sendOutcomes_4 (by decide) (fun c_1 => ?_) (fun c_1 => ?_)
      · skip
        have e_s : 3 = s := (lp_out rfl (by omega) hi_s c_1).symm
        subst e_s
        exact e_vret hx hb hr hlk hW (by exact rfl) (Nat.zero_le _) (Nat.zero_le _) d_PC_sendOutcomes_34
      · skip
        have lt_s : s < 3 := lp_in rfl (by omega) hi_s c_1
        refine lv_aload_n hx hb d_PC_sendOutcomes_7 rfl (lv_at hl 1 rfl) ?_
        refine e_get (v := .ref (gad G (6))) hx hb hts hown hK hW (F_PC G hG) i_PC rfl 6 (by decide) (hts _ kw_220) (fun _ h => h) rfl d_PC_sendOutcomes_8 ?_
        refine lv_iload_n hx hb d_PC_sendOutcomes_11 rfl (lv_at hl 2 rfl) ?_
        refine e_iald hx hb hK hW (F_Mem G hG) (j := t) ht (x := (lpSO d t o s) (6) (t)) (rfl) rfl d_PC_sendOutcomes_12 ?_
        refine lv_iload_n hx hb d_PC_sendOutcomes_13 rfl (lv_at hl 0 rfl) ?_
        refine e_ci (e_runS hx hb hml hown hts hE hbs hW (c_has l G hG (lpSO d t o s) s ((lpSO d t o s) (6) (t))) kw_221 kw_142 kw_104 kw_141 rfl rfl hd_PC_has ⟨Nat.le_of_ble_eq_true rfl, Nat.le_of_ble_eq_true rfl⟩ (As := [.int ((lpSO d t o s) (6) (t)), .int (nI s)]) (rest := []) rfl hl.1 rfl (Nat.le_of_ble_eq_true rfl) d_PC_sendOutcomes_14 ⟨Nat.le_of_ble_eq_true rfl, Nat.le_of_ble_eq_true rfl⟩) hW (fun r d' H locs hp hW => ?_)
        obtain ⟨hp1, hp2⟩ := hp
        have hp1 := hp1.symm; subst hp1
        have hp2 := hp2.symm; subst hp2
        refine lv_if_eq (tgt := 28) hx hb d_PC_sendOutcomes_17 (by decide) (fun c_2 => ?_) (fun c_2 => ?_)
        · skip
          refine lv_iinc (v := nI (s + 1)) (lv' := [(3, .int (nI (s + 1))), (0, .ref (gad G (0))), (1, .int (nI t)), (2, .int (o))]) hx hb d_PC_sendOutcomes_28 hl (k := 0) rfl (nI_1 (s)) (by decide) rfl (fun ls hl => ?_)
          refine lv_goto (tgt := 2) hx hb d_PC_sendOutcomes_31 (by decide) ?_
          exact ih_s (s + 1) (by omega) (by omega) _ _ _ (by rw [show lpSO d t o (s + 1) = (lpSO d t o s) from if_pos c_2]; exact hW) (lv_sub hl [0, 1, 2, 3] rfl) (by rw [show lpSO d t o (s + 1) = (lpSO d t o s) from if_pos c_2]; exact (show NetOK (lpSO d t o s) from hM_s))
        · skip
          refine lv_aload_n hx hb d_PC_sendOutcomes_20 rfl (lv_at hl 1 rfl) ?_
          refine lv_iconst (v := 5) hx hb d_PC_sendOutcomes_21 (by decide) ?_
          refine lv_iload_n hx hb d_PC_sendOutcomes_22 rfl (lv_at hl 2 rfl) ?_
          refine lv_iload_n hx hb d_PC_sendOutcomes_23 rfl (lv_at hl 0 rfl) ?_
          refine lv_iload_n hx hb d_PC_sendOutcomes_24 rfl (lv_at hl 3 rfl) ?_
          refine e_cv (e_runV hx hb hml hown hts hE hbs hW (F_PC G hG) rfl (c_sendToStore l G hG (lpSO d t o s) (5) (nI t) (nI s) (o) hM_s) kw_223 kw_224 kw_225 kw_104 kw_222 rfl rfl hd_PC_sendToStore ⟨Nat.le_of_ble_eq_true rfl, Nat.le_of_ble_eq_true rfl⟩ (As := [.int (5), .int (nI t), .int (nI s), .int (o)]) (rest := []) rfl hl.1 rfl (Nat.le_of_ble_eq_true rfl) d_PC_sendOutcomes_25 ⟨Nat.le_of_ble_eq_true rfl, Nat.le_of_ble_eq_true rfl⟩) hW (fun d' H locs hp hW => ?_)
          have hp := hp.symm; subst hp
          refine lv_iinc (v := nI (s + 1)) (lv' := [(3, .int (nI (s + 1))), (0, .ref (gad G (0))), (1, .int (nI t)), (2, .int (o))]) hx hb d_PC_sendOutcomes_28 hl (k := 0) rfl (nI_1 (s)) (by decide) rfl (fun ls hl => ?_)
          refine lv_goto (tgt := 2) hx hb d_PC_sendOutcomes_31 (by decide) ?_
          exact ih_s (s + 1) (by omega) (by omega) _ _ _ (by rw [show lpSO d t o (s + 1) = (f_sts (lpSO d t o s) (5) (nI t) (nI s) (o)) from if_neg c_2]; exact hW) (lv_sub hl [0, 1, 2, 3] rfl) (by rw [show lpSO d t o (s + 1) = (f_sts (lpSO d t o s) (5) (nI t) (nI s) (o)) from if_neg c_2]; exact (show NetOK (f_sts (lpSO d t o s) (5) (nI t) (nI s) (o)) from ((f_sts_ok hM_s).1)))
  exact L_2 (3 + 1) 0 (by omega) (by omega) _ _ _ hW (lv_sub hl [0, 1, 2, 3] rfl) (show NetOK d from hN)
