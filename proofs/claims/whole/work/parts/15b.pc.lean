theorem kw_195 : .fieldLink R_PC 17 "PaxosCommit" "ledgers" "[LPaxosCommit$Ledger;" ∈ WS := List.mem_filter.mpr ⟨List.mem_append_right _ (List.mem_of_getElem? (i := 184) (by decide +kernel)), by decide +kernel⟩
theorem kw_196 : .fieldLink R_PC 48 "PaxosCommit" "acceptors" "[LPaxosCommit$Acceptor;" ∈ WS := List.mem_filter.mpr ⟨List.mem_append_right _ (List.mem_of_getElem? (i := 183) (by decide +kernel)), by decide +kernel⟩
theorem kw_197 : .fieldLink R_PC 11 "PaxosCommit" "stores" "[LPaxosCommit$Store;" ∈ WS := List.mem_filter.mpr ⟨List.mem_append_right _ (List.mem_of_getElem? (i := 182) (by decide +kernel)), by decide +kernel⟩
theorem kw_198 : .code y_Store_abortWork b_Store_abortWork 2 none ∈ WS := List.mem_filter.mpr ⟨List.mem_append_right _ (List.mem_of_getElem? (i := 639) (by decide +kernel)), by decide +kernel⟩
theorem kw_199 : .methodLink R_PC 227 y_Store_abortWork ∈ WS := List.mem_filter.mpr ⟨List.mem_append_right _ (List.mem_of_getElem? (i := 636) (by decide +kernel)), by decide +kernel⟩
theorem kw_200 : .instanceMethod y_Store_abortWork ∈ WS := List.mem_filter.mpr ⟨List.mem_append_right _ (List.mem_of_getElem? (i := 637) (by decide +kernel)), by decide +kernel⟩
theorem kw_201 : .selects R_Store y_Store_abortWork y_Store_abortWork ∈ WS := List.mem_filter.mpr ⟨List.mem_append_right _ (List.mem_of_getElem? (i := 638) (by decide +kernel)), by decide +kernel⟩
theorem kw_202 : .code y_PC_ledger b_PC_ledger 3 (some (.object "PaxosCommit$Ledger")) ∈ WS := List.mem_filter.mpr ⟨List.mem_append_right _ (List.mem_of_getElem? (i := 456) (by decide +kernel)), by decide +kernel⟩
theorem kw_203 : .methodLink R_PC 130 y_PC_ledger ∈ WS := List.mem_filter.mpr ⟨List.mem_append_right _ (List.mem_of_getElem? (i := 453) (by decide +kernel)), by decide +kernel⟩
theorem kw_204 : .instanceMethod y_PC_ledger ∈ WS := List.mem_filter.mpr ⟨List.mem_append_right _ (List.mem_of_getElem? (i := 455) (by decide +kernel)), by decide +kernel⟩
theorem kw_205 : .selects R_PC y_PC_ledger y_PC_ledger ∈ WS := List.mem_filter.mpr ⟨List.mem_append_left _ (List.mem_of_getElem? (i := 5) (by decide +kernel)), by decide +kernel⟩
theorem kw_206 : .code y_Led_forget b_Led_forget 2 none ∈ WS := List.mem_filter.mpr ⟨List.mem_append_right _ (List.mem_of_getElem? (i := 644) (by decide +kernel)), by decide +kernel⟩
theorem kw_207 : .methodLink R_PC 230 y_Led_forget ∈ WS := List.mem_filter.mpr ⟨List.mem_append_right _ (List.mem_of_getElem? (i := 641) (by decide +kernel)), by decide +kernel⟩
theorem kw_208 : .instanceMethod y_Led_forget ∈ WS := List.mem_filter.mpr ⟨List.mem_append_right _ (List.mem_of_getElem? (i := 642) (by decide +kernel)), by decide +kernel⟩
theorem kw_209 : .selects R_Led y_Led_forget y_Led_forget ∈ WS := List.mem_filter.mpr ⟨List.mem_append_right _ (List.mem_of_getElem? (i := 643) (by decide +kernel)), by decide +kernel⟩
theorem hd_Store_abortWork : y_Store_abortWork.cls ≠ "java/lang/invoke/MethodHandle" ∧ y_Store_abortWork.cls ≠ "java/lang/invoke/VarHandle" ∧ (parseMethodDescriptor y_Store_abortWork.desc).map (fun d => d.parameters.length) = some 0 := by decide +kernel
theorem hd_PC_ledger : y_PC_ledger.cls ≠ "java/lang/invoke/MethodHandle" ∧ y_PC_ledger.cls ≠ "java/lang/invoke/VarHandle" ∧ (parseMethodDescriptor y_PC_ledger.desc).map (fun d => d.parameters.length) = some 2 := by decide +kernel
theorem hd_Led_forget : y_Led_forget.cls ≠ "java/lang/invoke/MethodHandle" ∧ y_Led_forget.cls ≠ "java/lang/invoke/VarHandle" ∧ (parseMethodDescriptor y_Led_forget.desc).map (fun d => d.parameters.length) = some 0 := by decide +kernel
set_option maxHeartbeats 4000000 in
set_option maxRecDepth 100000 in
theorem c_ledger (l : Launch) (G : GT) (hG : GOK G) (d : DD) (ld t : Nat) (hld : ld < 2) (ht : t < 8) : Met l y_PC_ledger (.code y_PC_ledger b_PC_ledger 3 (some (.object "PaxosCommit$Ledger")) :: WS) { frames := 0, cells := 0, slots := 0, locals := 0 } (cPre G [.ref (gad G (0)), .int (nI ld), .int (nI t)] d) (cQr G (fun cq u => cq = ld * 8 + t + 200 ∧ u = d)) 0 0 (gAb G) := by
  refine c_start (own := R_PC) (by decide +kernel) rfl (Nat.le_of_ble_eq_true rfl) ?_
  intro p e zs zm below meth zc ls C hW hl
  obtain ⟨hx, hb, hr, hml, hown, hts, hlk, hE, hbs⟩ := C
  have hK := hE.1
  have hn3 := hG.1
  have hl : lv_has ls 3 [(0, .ref (gad G (0))), (1, .int (nI ld)), (2, .int (nI t))] := hl
  refine lv_aload_n hx hb d_PC_ledger_0 rfl (lv_at hl 0 rfl) ?_
  refine e_get (v := .ref (gad G (3))) hx hb hts hown hK hW (F_PC G hG) i_PC rfl 2 (by decide) (hts _ kw_195) (fun _ h => h) rfl d_PC_ledger_1 ?_
  refine lv_iload_n hx hb d_PC_ledger_4 rfl (lv_at hl 1 rfl) ?_
  refine lv_bipush (v := 8) hx hb d_PC_ledger_5 (by decide) ?_
  refine lv_imul hx hb d_PC_ledger_7 ?_
  refine e_top (v := nI (ld * 8)) (pk_mul (ld) (8)) ?_
  refine lv_iload_n hx hb d_PC_ledger_8 rfl (lv_at hl 2 rfl) ?_
  refine lv_iadd hx hb d_PC_ledger_9 ?_
  refine e_top (v := nI (ld * 8 + t)) (nI_add (ld * 8) (t)) ?_
  refine e_aldq hx hb hK hW (F_Leds G hG) (j := ld * 8 + t) (by omega) (q := ld * 8 + t + 200) rfl rfl d_PC_ledger_10 ?_
  exact e_aret hx hb hr hlk hW ⟨by exact rfl, by exact rfl⟩ (Nat.zero_le _) (Nat.zero_le _) d_PC_ledger_11
set_option maxHeartbeats 4000000 in
set_option maxRecDepth 100000 in
theorem c_howMany (l : Launch) (G : GT) (hG : GOK G) (d : DD) (x : Int32) : Met l y_PC_howMany (.code y_PC_howMany b_PC_howMany 2 (some .int) :: WS) { frames := 0, cells := 0, slots := 0, locals := 0 } (cPre G [.ref (gad G (0)), .int (x)] d) (cQi G (fun r9 u9 => r9 = hmI (gn G) x ∧ u9 = d)) 0 0 (gAb G) := by
  refine c_start (own := R_PC) (by decide +kernel) rfl (Nat.le_of_ble_eq_true rfl) ?_
  intro p e zs zm below meth zc ls C hW hl
  obtain ⟨hx, hb, hr, hml, hown, hts, hlk, hE, hbs⟩ := C
  have hK := hE.1
  have hn3 := hG.1
  have hl : lv_has ls 2 [(0, .ref (gad G (0))), (1, .int (x))] := hl
  refine lv_iload_n hx hb d_PC_howMany_0 rfl (lv_at hl 1 rfl) ?_
  refine lv_if_ne (tgt := 6) hx hb d_PC_howMany_1 (by decide) (fun c_1 => ?_) (fun c_1 => ?_)
  · skip
    refine lv_iload_n hx hb d_PC_howMany_6 rfl (lv_at hl 1 rfl) ?_
    refine lv_iconst (v := 1) hx hb d_PC_howMany_7 (by decide) ?_
    refine lv_icmp_ne (tgt := 19) hx hb d_PC_howMany_8 (by decide) (fun c_2 => ?_) (fun c_2 => ?_)
    · skip
      refine lv_iconst (v := 2) hx hb d_PC_howMany_19 (by decide) ?_
      exact e_iret hx hb hr hlk hW ⟨by unfold hmI; rw [if_neg c_1, if_neg c_2], by exact rfl⟩ (Nat.zero_le _) (Nat.zero_le _) d_PC_howMany_20
    · skip
      refine lv_aload_n hx hb d_PC_howMany_11 rfl (lv_at hl 0 rfl) ?_
      refine e_get (v := .ref (gad G (2))) hx hb hts hown hK hW (F_PC G hG) i_PC rfl 1 (by decide) (hts _ kw_196) (fun _ h => h) rfl d_PC_howMany_12 ?_
      refine e_lenQ hx hb hK hW (F_Accs G hG) d_PC_howMany_15 ?_
      refine lv_goto (tgt := 20) hx hb d_PC_howMany_16 (by decide) ?_
      exact e_iret hx hb hr hlk hW ⟨by unfold hmI; rw [if_neg c_1, if_pos c_2], by exact rfl⟩ (Nat.zero_le _) (Nat.zero_le _) d_PC_howMany_20
  · skip
    refine lv_iconst (v := 3) hx hb d_PC_howMany_4 (by decide) ?_
    exact e_iret hx hb hr hlk hW ⟨by unfold hmI; rw [if_pos c_1], by exact rfl⟩ (Nat.zero_le _) (Nat.zero_le _) d_PC_howMany_5
set_option maxHeartbeats 4000000 in
set_option maxRecDepth 100000 in
theorem c_stop0 (l : Launch) (G : GT) (hG : GOK G) (d : DD) (w : Nat) (hw : w < 3) : Met l y_PC_stop (.code y_PC_stop b_PC_stop 4 none :: WS) { frames := 3, cells := 0, slots := 0, locals := 64 } (cPre G [.ref (gad G (0)), .int (0), .int (nI w)] d) (cQv G (fun u9 => u9 = lpAW d w 8)) 0 0 (gAb G) := by
  refine c_start (own := R_PC) (by decide +kernel) rfl (Nat.le_of_ble_eq_true rfl) ?_
  intro p e zs zm below meth zc ls C hW hl
  obtain ⟨hx, hb, hr, hml, hown, hts, hlk, hE, hbs⟩ := C
  have hK := hE.1
  have hn3 := hG.1
  have hl : lv_has ls 4 [(0, .ref (gad G (0))), (1, .int (0)), (2, .int (nI w))] := hl
  refine lv_iload_n hx hb d_PC_stop_0 rfl (lv_at hl 1 rfl) ?_
  refine lv_if_ne (tgt := 16) hx hb d_PC_stop_1 (by decide) (fun c_1 => ?_) (fun c_1 => ?_)
  · skip
    exact absurd rfl c_1
  · skip
    refine lv_aload_n hx hb d_PC_stop_4 rfl (lv_at hl 0 rfl) ?_
    refine e_get (v := .ref (gad G (1))) hx hb hts hown hK hW (F_PC G hG) i_PC rfl 0 (by decide) (hts _ kw_197) (fun _ h => h) rfl d_PC_stop_5 ?_
    refine lv_iload_n hx hb d_PC_stop_8 rfl (lv_at hl 2 rfl) ?_
    refine e_aldq hx hb hK hW (F_Stores G hG) (j := w) hw (q := w + 10) rfl rfl d_PC_stop_9 ?_
    refine e_cv (e_runV hx hb hml hown hts hE hbs hW (F_Store (i0 := w) G hG hw) rfl (c_Store_abortWork l G hG d w hw) kw_199 kw_200 kw_201 kw_137 kw_198 rfl rfl hd_Store_abortWork ⟨Nat.le_of_ble_eq_true rfl, Nat.le_of_ble_eq_true rfl⟩ (As := []) (rest := []) rfl hl.1 rfl (Nat.le_of_ble_eq_true rfl) d_PC_stop_10 ⟨Nat.le_of_ble_eq_true rfl, Nat.le_of_ble_eq_true rfl⟩) hW (fun d' H locs hp hW => ?_)
    have hp := hp.symm; subst hp
    refine lv_goto (tgt := 44) hx hb d_PC_stop_13 (by decide) ?_
    exact e_vret hx hb hr hlk hW (by exact rfl) (Nat.zero_le _) (Nat.zero_le _) d_PC_stop_44
set_option maxHeartbeats 4000000 in
set_option maxRecDepth 100000 in
theorem c_stop1 (l : Launch) (G : GT) (hG : GOK G) (d : DD) (w : Nat) : Met l y_PC_stop (.code y_PC_stop b_PC_stop 4 none :: WS) { frames := 0, cells := 0, slots := 0, locals := 0 } (cPre G [.ref (gad G (0)), .int (1), .int (nI w)] d) (cQv G (fun u9 => u9 = d)) 0 0 (gAb G) := by
  refine c_start (own := R_PC) (by decide +kernel) rfl (Nat.le_of_ble_eq_true rfl) ?_
  intro p e zs zm below meth zc ls C hW hl
  obtain ⟨hx, hb, hr, hml, hown, hts, hlk, hE, hbs⟩ := C
  have hK := hE.1
  have hn3 := hG.1
  have hl : lv_has ls 4 [(0, .ref (gad G (0))), (1, .int (1)), (2, .int (nI w))] := hl
  refine lv_iload_n hx hb d_PC_stop_0 rfl (lv_at hl 1 rfl) ?_
  refine lv_if_ne (tgt := 16) hx hb d_PC_stop_1 (by decide) (fun c_1 => ?_) (fun c_1 => ?_)
  · skip
    refine lv_iload_n hx hb d_PC_stop_16 rfl (lv_at hl 1 rfl) ?_
    refine lv_iconst (v := 2) hx hb d_PC_stop_17 (by decide) ?_
    refine lv_icmp_ne (tgt := 44) hx hb d_PC_stop_18 (by decide) (fun c_2 => ?_) (fun c_2 => ?_)
    · skip
      exact e_vret hx hb hr hlk hW (by exact rfl) (Nat.zero_le _) (Nat.zero_le _) d_PC_stop_44
    · skip
      exact absurd c_2 (by decide)
  · skip
    exact absurd c_1 (by decide)
set_option maxHeartbeats 4000000 in
set_option maxRecDepth 100000 in
theorem c_stop2 (l : Launch) (G : GT) (hG : GOK G) (d : DD) (w : Nat) (hw : w < 2) : Met l y_PC_stop (.code y_PC_stop b_PC_stop 4 none :: WS) { frames := 2, cells := 0, slots := 0, locals := 44 } (cPre G [.ref (gad G (0)), .int (2), .int (nI w)] d) (cQv G (fun u9 => u9 = lpStop d (gn G) w 8)) 0 0 (gAb G) := by
  refine c_start (own := R_PC) (by decide +kernel) rfl (Nat.le_of_ble_eq_true rfl) ?_
  intro p e zs zm below meth zc ls C hW hl
  obtain ⟨hx, hb, hr, hml, hown, hts, hlk, hE, hbs⟩ := C
  have hK := hE.1
  have hn3 := hG.1
  have hl : lv_has ls 4 [(0, .ref (gad G (0))), (1, .int (2)), (2, .int (nI w))] := hl
  refine lv_iload_n hx hb d_PC_stop_0 rfl (lv_at hl 1 rfl) ?_
  refine lv_if_ne (tgt := 16) hx hb d_PC_stop_1 (by decide) (fun c_1 => ?_) (fun c_1 => ?_)
  · skip
    refine lv_iload_n hx hb d_PC_stop_16 rfl (lv_at hl 1 rfl) ?_
    refine lv_iconst (v := 2) hx hb d_PC_stop_17 (by decide) ?_
    refine lv_icmp_ne (tgt := 44) hx hb d_PC_stop_18 (by decide) (fun c_2 => ?_) (fun c_2 => ?_)
    · skip
      exact absurd rfl c_2
    · skip
      refine lv_iconst (v := 0) hx hb d_PC_stop_21 (by decide) ?_
      refine lv_istore_n (lv' := [(3, .int (0)), (0, .ref (gad G (0))), (1, .int (2)), (2, .int (nI w))]) hx hb d_PC_stop_22 rfl hl (by decide) rfl (fun ls hl => ?_)
      have L_23 : ∀ (N t : Nat), t ≤ 8 → 8 + 1 ≤ t + N → ∀ (H : Heap) (locs : List Loc) (ls : Array Slot), WD G zs.heap (lpStop d (gn G) w t) H locs → lv_has ls 4 [(3, .int (nI t)), (0, .ref (gad G (0))), (1, .int (2)), (2, .int (nI w))] → W p l e { frames := 2, cells := 0, slots := 0, locals := 44 } zs zm [.ref (gad G (0)), .int (2), .int (nI w)].toArray below meth zc H locs 0 0 (MQ below (cQv G (fun u9 => u9 = lpStop d (gn G) w 8)) [.ref (gad G (0)), .int (2), .int (nI w)].toArray zs 0 0 (gAb G)) (F0 zm 23 ls []) := by
        intro N
        induction N with
        | zero => intro t h1 h2; exact absurd h2 (by omega)
        | succ N ih_t =>
          intro t hi_t hN_t H locs ls hW hl
          refine lv_iload_n hx hb d_PC_stop_23 rfl (lv_at hl 0 rfl) ?_
          refine lv_bipush (v := 8) hx hb d_PC_stop_24 (by decide) ?_
          refine lv_icmp_ge (tgt := 44) hx hb d_PC_stop_26 (by decide) (fun c_3 => ?_) (fun c_3 => ?_)
          · skip
            have e_t : 8 = t := (lp_out rfl (by omega) hi_t c_3).symm
            subst e_t
            exact e_vret hx hb hr hlk hW (by exact rfl) (Nat.zero_le _) (Nat.zero_le _) d_PC_stop_44
          · skip
            have lt_t : t < 8 := lp_in rfl (by omega) hi_t c_3
            refine lv_aload_n hx hb d_PC_stop_29 rfl (lv_at hl 1 rfl) ?_
            refine lv_iload_n hx hb d_PC_stop_30 rfl (lv_at hl 3 rfl) ?_
            refine lv_iload_n hx hb d_PC_stop_31 rfl (lv_at hl 0 rfl) ?_
            refine e_cr (e_runV hx hb hml hown hts hE hbs hW (F_PC G hG) rfl (c_ledger l G hG (lpStop d (gn G) w t) w t hw (by omega)) kw_203 kw_204 kw_205 kw_104 kw_202 rfl rfl hd_PC_ledger ⟨Nat.le_of_ble_eq_true rfl, Nat.le_of_ble_eq_true rfl⟩ (As := [.int (nI w), .int (nI t)]) (rest := []) rfl hl.1 rfl (Nat.le_of_ble_eq_true rfl) d_PC_stop_32 ⟨Nat.le_of_ble_eq_true rfl, Nat.le_of_ble_eq_true rfl⟩) hW (fun cn d' H locs hp hW => ?_)
            obtain ⟨hp1, hp2⟩ := hp
            have hp1 := hp1.symm; subst hp1
            have hp2 := hp2.symm; subst hp2
            refine e_cv (e_runV hx hb hml hown hts hE hbs hW (F_Led (i0 := w * 8 + t) G hG (by omega)) rfl (c_Led_forget l G hG (lpStop d (gn G) w t) (w * 8 + t) (by omega)) kw_207 kw_208 kw_209 kw_156 kw_206 rfl rfl hd_Led_forget ⟨Nat.le_of_ble_eq_true rfl, Nat.le_of_ble_eq_true rfl⟩ (As := []) (rest := []) rfl hl.1 rfl (Nat.le_of_ble_eq_true rfl) d_PC_stop_35 ⟨Nat.le_of_ble_eq_true rfl, Nat.le_of_ble_eq_true rfl⟩) hW (fun d' H locs hp hW => ?_)
            have hp := hp.symm; subst hp
            refine lv_iinc (v := nI (t + 1)) (lv' := [(3, .int (nI (t + 1))), (0, .ref (gad G (0))), (1, .int (2)), (2, .int (nI w))]) hx hb d_PC_stop_38 hl (k := 0) rfl (nI_1 (t)) (by decide) rfl (fun ls hl => ?_)
            refine lv_goto (tgt := 23) hx hb d_PC_stop_41 (by decide) ?_
            exact ih_t (t + 1) (by omega) (by omega) _ _ _ hW (lv_sub hl [0, 1, 2, 3] rfl)
      exact L_23 (8 + 1) 0 (by omega) (by omega) _ _ _ hW (lv_sub hl [0, 1, 2, 3] rfl)
  · skip
    exact absurd c_1 (by decide)
